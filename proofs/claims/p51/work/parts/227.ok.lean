set_option maxHeartbeats 1000000 in
theorem sp_X0_textOf (p0 : Int64)  : ok (F_X0_textOf p0) (fun r => True) := by
  have lm132 : (-1 : Int32).toInt = -1 := by decide
  have l032 : (0 : Int32).toInt = 0 := by decide
  have l3232 : (32 : Int32).toInt = 32 := by decide
  unfold F_X0_textOf
  refine ok_o3 (sp_J4_init_da8c8  ) (fun c_n0_coder_4 n_n0_value_4 f_n0_value_4 h1 => ?_)
  have h1 : c_n0_coder_4 = 0 ∧ CAP n_n0_value_4 ∧ n_n0_value_4 = 16 ∧ BY f_n0_value_4 := h1
  obtain ⟨h1_0, h1_1, h1_2, h1_3⟩ := h1
  refine ok_o (sp_X0_degreeOf p0 ) (fun r9 h2 => ?_)
  have h2 : r9.toInt = DG p0 ∧ -1 ≤ r9.toInt ∧ r9.toInt ≤ 63 := h2
  refine ok_L4 (fun y3_13 c_n0_count_13 n_n0_value_13 f_n0_value_13 => CAP n_n0_value_13 ∧ BY f_n0_value_13 ∧ -1 ≤ y3_13.toInt ∧ y3_13.toInt ≤ 63 ∧ 0 ≤ c_n0_count_13.toInt ∧ c_n0_count_13.toInt ≤ (n_n0_value_13 : Int) ∧ c_n0_count_13.toInt ≤ 3 * (63 - y3_13.toInt)) (fun y3_13 c_n0_count_13 n_n0_value_13 f_n0_value_13 => (y3_13.toInt + 1).toNat) (fun ih13 y3_13 c_n0_count_13 n_n0_value_13 f_n0_value_13 hI3 hih3 => ?_) 66 r9 (0 : Int32) n_n0_value_4 f_n0_value_4 (show CAP n_n0_value_4 ∧ BY f_n0_value_4 ∧ -1 ≤ r9.toInt ∧ r9.toInt ≤ 63 ∧ 0 ≤ (0 : Int32).toInt ∧ (0 : Int32).toInt ≤ (n_n0_value_4 : Int) ∧ (0 : Int32).toInt ≤ 3 * (63 - r9.toInt) from by first | omega | assumption | trivial | (refine ⟨?_, ?_⟩ <;> first | omega | assumption | trivial | rfl) | (refine ⟨?_, ?_, ?_⟩ <;> first | omega | assumption | trivial | rfl) | (refine ⟨?_, ?_, ?_, ?_⟩ <;> first | omega | assumption | trivial | rfl) | (refine ⟨?_, ?_, ?_, ?_, ?_⟩ <;> first | omega | assumption | trivial | rfl) | (refine ⟨?_, ?_, ?_, ?_, ?_, ?_⟩ <;> first | omega | assumption | trivial | rfl) | (refine ⟨?_, ?_, ?_, ?_, ?_, ?_, ?_⟩ <;> first | omega | assumption | trivial | rfl) | (refine ⟨?_, ?_, ?_, ?_, ?_, ?_, ?_, ?_⟩ <;> first | omega | assumption | trivial | rfl)) (show (r9.toInt + 1).toNat < 66 from by omega)
  have hI3 : CAP n_n0_value_13 ∧ BY f_n0_value_13 ∧ -1 ≤ y3_13.toInt ∧ y3_13.toInt ≤ 63 ∧ 0 ≤ c_n0_count_13.toInt ∧ c_n0_count_13.toInt ≤ (n_n0_value_13 : Int) ∧ c_n0_count_13.toInt ≤ 3 * (63 - y3_13.toInt) := hI3
  obtain ⟨hI3_0, hI3_1, hI3_2, hI3_3, hI3_4, hI3_5, hI3_6⟩ := hI3
  unfold S_X0_textOf_13
  refine ok_lt (fun c4 => ?_) (fun c4 => ?_)
  · refine ok_o (sp_J4_toString_0e30d c_n0_coder_4 c_n0_count_13 n_n0_value_13 f_n0_value_13 (by first | omega | assumption | trivial | exact wt_of (by assumption) (by omega)) (by first | omega | assumption | trivial | exact wt_of (by assumption) (by omega)) (by first | omega | assumption | trivial | exact wt_of (by assumption) (by omega)) (by first | omega | assumption | trivial | exact wt_of (by assumption) (by omega)) (by first | omega | assumption | trivial | exact wt_of (by assumption) (by omega))) (fun u52 h5 => ?_)
    exact ok_s trivial
  · refine ok_o (sp_X0_hasOne p0 y3_13 ) (fun r19 h6 => ?_)
    have h6 : r19.toInt = 0 ∨ r19.toInt = 1 := h6
    refine ok_eq (fun c7 => ?_) (fun c7 => ?_)
    · refine ok_bx (fun x3_45 e_x3_45 => ?_)
      try have t_x3_45 : x3_45.toInt = y3_13.toInt + (-1) := by rw [e_x3_45]; exact addT1 (show (-1 : Int32).toInt = -1 from by decide) (by omega) (by omega)
      exact hih3 x3_45 c_n0_count_13 n_n0_value_13 f_n0_value_13 (show CAP n_n0_value_13 ∧ BY f_n0_value_13 ∧ -1 ≤ x3_45.toInt ∧ x3_45.toInt ≤ 63 ∧ 0 ≤ c_n0_count_13.toInt ∧ c_n0_count_13.toInt ≤ (n_n0_value_13 : Int) ∧ c_n0_count_13.toInt ≤ 3 * (63 - x3_45.toInt) from by first | omega | assumption | trivial | (refine ⟨?_, ?_⟩ <;> first | omega | assumption | trivial | rfl) | (refine ⟨?_, ?_, ?_⟩ <;> first | omega | assumption | trivial | rfl) | (refine ⟨?_, ?_, ?_, ?_⟩ <;> first | omega | assumption | trivial | rfl) | (refine ⟨?_, ?_, ?_, ?_, ?_⟩ <;> first | omega | assumption | trivial | rfl) | (refine ⟨?_, ?_, ?_, ?_, ?_, ?_⟩ <;> first | omega | assumption | trivial | rfl) | (refine ⟨?_, ?_, ?_, ?_, ?_, ?_, ?_⟩ <;> first | omega | assumption | trivial | rfl) | (refine ⟨?_, ?_, ?_, ?_, ?_, ?_, ?_, ?_⟩ <;> first | omega | assumption | trivial | rfl)) (show (x3_45.toInt + 1).toNat < (y3_13.toInt + 1).toNat from by omega)
    · refine ok_o (sp_J4_length_8abf5 c_n0_count_13 ) (fun r26 h8 => ?_)
      have h8 : r26 = c_n0_count_13 := h8
      refine ok_le (fun c9 => ?_) (fun c9 => ?_)
      · refine ok_o3 (sp_J4_append_bf812 c_n0_coder_4 c_n0_count_13 n_n0_value_13 f_n0_value_13 y3_13 (by first | omega | assumption | trivial | exact wt_of (by assumption) (by omega)) (by first | omega | assumption | trivial | exact wt_of (by assumption) (by omega)) (by first | omega | assumption | trivial | exact wt_of (by assumption) (by omega)) (by first | omega | assumption | trivial | exact wt_of (by assumption) (by omega)) (by first | omega | assumption | trivial | exact wt_of (by assumption) (by omega)) (by first | omega | assumption | trivial | exact wt_of (by assumption) (by omega)) (by first | omega | assumption | trivial | exact wt_of (by assumption) (by omega)) (by first | omega | assumption | trivial | exact wt_of (by assumption) (by omega))) (fun c_n0_count_41 n_n0_value_41 f_n0_value_41 h10 => ?_)
        have h10 : c_n0_count_13.toInt + 1 ≤ c_n0_count_41.toInt ∧ c_n0_count_41.toInt ≤ c_n0_count_13.toInt + 2 ∧ c_n0_count_41.toInt ≤ n_n0_value_41 ∧ CAP n_n0_value_41 ∧ BY f_n0_value_41 := h10
        obtain ⟨h10_0, h10_1, h10_2, h10_3, h10_4⟩ := h10
        refine ok_bx (fun x3_45_2 e_x3_45_2 => ?_)
        try have t_x3_45_2 : x3_45_2.toInt = y3_13.toInt + (-1) := by rw [e_x3_45_2]; exact addT1 (show (-1 : Int32).toInt = -1 from by decide) (by omega) (by omega)
        exact hih3 x3_45_2 c_n0_count_41 n_n0_value_41 f_n0_value_41 (show CAP n_n0_value_41 ∧ BY f_n0_value_41 ∧ -1 ≤ x3_45_2.toInt ∧ x3_45_2.toInt ≤ 63 ∧ 0 ≤ c_n0_count_41.toInt ∧ c_n0_count_41.toInt ≤ (n_n0_value_41 : Int) ∧ c_n0_count_41.toInt ≤ 3 * (63 - x3_45_2.toInt) from by first | omega | assumption | trivial | (refine ⟨?_, ?_⟩ <;> first | omega | assumption | trivial | rfl) | (refine ⟨?_, ?_, ?_⟩ <;> first | omega | assumption | trivial | rfl) | (refine ⟨?_, ?_, ?_, ?_⟩ <;> first | omega | assumption | trivial | rfl) | (refine ⟨?_, ?_, ?_, ?_, ?_⟩ <;> first | omega | assumption | trivial | rfl) | (refine ⟨?_, ?_, ?_, ?_, ?_, ?_⟩ <;> first | omega | assumption | trivial | rfl) | (refine ⟨?_, ?_, ?_, ?_, ?_, ?_, ?_⟩ <;> first | omega | assumption | trivial | rfl) | (refine ⟨?_, ?_, ?_, ?_, ?_, ?_, ?_, ?_⟩ <;> first | omega | assumption | trivial | rfl)) (show (x3_45_2.toInt + 1).toNat < (y3_13.toInt + 1).toNat from by omega)
      · refine ok_o3 (sp_J4_append_cf468 c_n0_coder_4 c_n0_count_13 n_n0_value_13 f_n0_value_13 (32 : Int32) (by first | omega | assumption | trivial | exact wt_of (by assumption) (by omega)) (by first | omega | assumption | trivial | exact wt_of (by assumption) (by omega)) (by first | omega | assumption | trivial | exact wt_of (by assumption) (by omega)) (by first | omega | assumption | trivial | exact wt_of (by assumption) (by omega)) (by first | omega | assumption | trivial | exact wt_of (by assumption) (by omega)) (by first | omega | assumption | trivial | exact wt_of (by assumption) (by omega)) (by first | omega | assumption | trivial | exact wt_of (by assumption) (by omega))) (fun c_n0_count_35 n_n0_value_35 f_n0_value_35 h11 => ?_)
        have h11 : c_n0_count_35.toInt = c_n0_count_13.toInt + 1 ∧ c_n0_count_35.toInt ≤ n_n0_value_35 ∧ CAP n_n0_value_35 ∧ BY f_n0_value_35 := h11
        obtain ⟨h11_0, h11_1, h11_2, h11_3⟩ := h11
        refine ok_o3 (sp_J4_append_bf812 c_n0_coder_4 c_n0_count_35 n_n0_value_35 f_n0_value_35 y3_13 (by first | omega | assumption | trivial | exact wt_of (by assumption) (by omega)) (by first | omega | assumption | trivial | exact wt_of (by assumption) (by omega)) (by first | omega | assumption | trivial | exact wt_of (by assumption) (by omega)) (by first | omega | assumption | trivial | exact wt_of (by assumption) (by omega)) (by first | omega | assumption | trivial | exact wt_of (by assumption) (by omega)) (by first | omega | assumption | trivial | exact wt_of (by assumption) (by omega)) (by first | omega | assumption | trivial | exact wt_of (by assumption) (by omega)) (by first | omega | assumption | trivial | exact wt_of (by assumption) (by omega))) (fun c_n0_count_41_2 n_n0_value_41_2 f_n0_value_41_2 h12 => ?_)
        have h12 : c_n0_count_35.toInt + 1 ≤ c_n0_count_41_2.toInt ∧ c_n0_count_41_2.toInt ≤ c_n0_count_35.toInt + 2 ∧ c_n0_count_41_2.toInt ≤ n_n0_value_41_2 ∧ CAP n_n0_value_41_2 ∧ BY f_n0_value_41_2 := h12
        obtain ⟨h12_0, h12_1, h12_2, h12_3, h12_4⟩ := h12
        refine ok_bx (fun x3_45_3 e_x3_45_3 => ?_)
        try have t_x3_45_3 : x3_45_3.toInt = y3_13.toInt + (-1) := by rw [e_x3_45_3]; exact addT1 (show (-1 : Int32).toInt = -1 from by decide) (by omega) (by omega)
        exact hih3 x3_45_3 c_n0_count_41_2 n_n0_value_41_2 f_n0_value_41_2 (show CAP n_n0_value_41_2 ∧ BY f_n0_value_41_2 ∧ -1 ≤ x3_45_3.toInt ∧ x3_45_3.toInt ≤ 63 ∧ 0 ≤ c_n0_count_41_2.toInt ∧ c_n0_count_41_2.toInt ≤ (n_n0_value_41_2 : Int) ∧ c_n0_count_41_2.toInt ≤ 3 * (63 - x3_45_3.toInt) from by first | omega | assumption | trivial | (refine ⟨?_, ?_⟩ <;> first | omega | assumption | trivial | rfl) | (refine ⟨?_, ?_, ?_⟩ <;> first | omega | assumption | trivial | rfl) | (refine ⟨?_, ?_, ?_, ?_⟩ <;> first | omega | assumption | trivial | rfl) | (refine ⟨?_, ?_, ?_, ?_, ?_⟩ <;> first | omega | assumption | trivial | rfl) | (refine ⟨?_, ?_, ?_, ?_, ?_, ?_⟩ <;> first | omega | assumption | trivial | rfl) | (refine ⟨?_, ?_, ?_, ?_, ?_, ?_, ?_⟩ <;> first | omega | assumption | trivial | rfl) | (refine ⟨?_, ?_, ?_, ?_, ?_, ?_, ?_, ?_⟩ <;> first | omega | assumption | trivial | rfl)) (show (x3_45_3.toInt + 1).toNat < (y3_13.toInt + 1).toNat from by omega)
set_option maxHeartbeats 1000000 in
theorem sp_X7_text (f_t_forms : Nat → Int64) (p0 : Int32)  : ok (F_X7_text f_t_forms p0) (fun r => r = 0 ∨ r = 1) := by
  have l032 : (0 : Int32).toInt = 0 := by decide
  unfold F_X7_text
  refine ok_o (sp_X7_testForm p0 ) (fun xc1 h1 => ?_)
  have h1 : (xc1 = 0 ∧ 0 ≤ p0.toInt ∧ p0.toInt ≤ 5) ∨ xc1 = 1 := h1
  refine ok_i (fun c2 => ?_) (fun c2 => ?_)
  · refine ok_c (ixo (by omega) (by omega)) ?_
    refine ok_o (sp_X0_textOf (f_t_forms p0.toNatClampNeg) ) (fun u10 h3 => ?_)
    exact ok_s (show 0 = 0 ∨ 0 = 1 from by first | omega | assumption | trivial | (refine ⟨?_, ?_⟩ <;> first | omega | assumption | trivial | rfl) | (refine ⟨?_, ?_, ?_⟩ <;> first | omega | assumption | trivial | rfl) | (refine ⟨?_, ?_, ?_, ?_⟩ <;> first | omega | assumption | trivial | rfl) | (refine ⟨?_, ?_, ?_, ?_, ?_⟩ <;> first | omega | assumption | trivial | rfl) | (refine ⟨?_, ?_, ?_, ?_, ?_, ?_⟩ <;> first | omega | assumption | trivial | rfl) | (refine ⟨?_, ?_, ?_, ?_, ?_, ?_, ?_⟩ <;> first | omega | assumption | trivial | rfl) | (refine ⟨?_, ?_, ?_, ?_, ?_, ?_, ?_, ?_⟩ <;> first | omega | assumption | trivial | rfl))
  · exact ok_s (show xc1 = 0 ∨ xc1 = 1 from by first | omega | assumption | trivial | (refine ⟨?_, ?_⟩ <;> first | omega | assumption | trivial | rfl) | (refine ⟨?_, ?_, ?_⟩ <;> first | omega | assumption | trivial | rfl) | (refine ⟨?_, ?_, ?_, ?_⟩ <;> first | omega | assumption | trivial | rfl) | (refine ⟨?_, ?_, ?_, ?_, ?_⟩ <;> first | omega | assumption | trivial | rfl) | (refine ⟨?_, ?_, ?_, ?_, ?_, ?_⟩ <;> first | omega | assumption | trivial | rfl) | (refine ⟨?_, ?_, ?_, ?_, ?_, ?_, ?_⟩ <;> first | omega | assumption | trivial | rfl) | (refine ⟨?_, ?_, ?_, ?_, ?_, ?_, ?_, ?_⟩ <;> first | omega | assumption | trivial | rfl))
set_option maxHeartbeats 1000000 in
theorem sp_X7_rollText (c_t_roll_size : Int32) (f_t_roll_held : Nat → Int64) (p0 : Int32) (hp0 : 0 ≤ c_t_roll_size.toInt) (hp1 : c_t_roll_size.toInt ≤ 12) : ok (F_X7_rollText c_t_roll_size f_t_roll_held p0) (fun r => r = 0 ∨ r = 1) := by
  have l032 : (0 : Int32).toInt = 0 := by decide
  unfold F_X7_rollText
  refine ok_o (sp_X7_testRolled c_t_roll_size p0 (by first | omega | assumption | trivial) (by first | omega | assumption | trivial)) (fun xc2 h1 => ?_)
  have h1 : (xc2 = 0 ∧ 0 ≤ p0.toInt ∧ p0.toInt ≤ c_t_roll_size.toInt - 1) ∨ xc2 = 1 := h1
  refine ok_i (fun c2 => ?_) (fun c2 => ?_)
  · refine ok_o (sp_X3_at c_t_roll_size f_t_roll_held p0 (by first | omega | assumption | trivial) (by first | omega | assumption | trivial)) (fun r10 h3 => ?_)
    refine ok_o (sp_X0_textOf r10 ) (fun u13 h4 => ?_)
    exact ok_s (show 0 = 0 ∨ 0 = 1 from by first | omega | assumption | trivial | (refine ⟨?_, ?_⟩ <;> first | omega | assumption | trivial | rfl) | (refine ⟨?_, ?_, ?_⟩ <;> first | omega | assumption | trivial | rfl) | (refine ⟨?_, ?_, ?_, ?_⟩ <;> first | omega | assumption | trivial | rfl) | (refine ⟨?_, ?_, ?_, ?_, ?_⟩ <;> first | omega | assumption | trivial | rfl) | (refine ⟨?_, ?_, ?_, ?_, ?_, ?_⟩ <;> first | omega | assumption | trivial | rfl) | (refine ⟨?_, ?_, ?_, ?_, ?_, ?_, ?_⟩ <;> first | omega | assumption | trivial | rfl) | (refine ⟨?_, ?_, ?_, ?_, ?_, ?_, ?_, ?_⟩ <;> first | omega | assumption | trivial | rfl))
  · exact ok_s (show xc2 = 0 ∨ xc2 = 1 from by first | omega | assumption | trivial | (refine ⟨?_, ?_⟩ <;> first | omega | assumption | trivial | rfl) | (refine ⟨?_, ?_, ?_⟩ <;> first | omega | assumption | trivial | rfl) | (refine ⟨?_, ?_, ?_, ?_⟩ <;> first | omega | assumption | trivial | rfl) | (refine ⟨?_, ?_, ?_, ?_, ?_⟩ <;> first | omega | assumption | trivial | rfl) | (refine ⟨?_, ?_, ?_, ?_, ?_, ?_⟩ <;> first | omega | assumption | trivial | rfl) | (refine ⟨?_, ?_, ?_, ?_, ?_, ?_, ?_⟩ <;> first | omega | assumption | trivial | rfl) | (refine ⟨?_, ?_, ?_, ?_, ?_, ?_, ?_, ?_⟩ <;> first | omega | assumption | trivial | rfl))
set_option maxHeartbeats 1000000 in
theorem sp_X5_cellDigits (c_t_taps : Int64) (c_t_cells : Int64)  : ok (F_X5_cellDigits c_t_taps c_t_cells) (fun r => True) := by
  have l032 : (0 : Int32).toInt = 0 := by decide
  have l132 : (1 : Int32).toInt = 1 := by decide
  have l4832 : (48 : Int32).toInt = 48 := by decide
  have l4932 : (49 : Int32).toInt = 49 := by decide
  unfold F_X5_cellDigits
  refine ok_o3 (sp_J4_init_da8c8  ) (fun c_n0_coder_4 n_n0_value_4 f_n0_value_4 h1 => ?_)
  have h1 : c_n0_coder_4 = 0 ∧ CAP n_n0_value_4 ∧ n_n0_value_4 = 16 ∧ BY f_n0_value_4 := h1
  obtain ⟨h1_0, h1_1, h1_2, h1_3⟩ := h1
  refine ok_o (sp_X0_degreeOf c_t_taps ) (fun r12 h2 => ?_)
  have h2 : r12.toInt = DG c_t_taps ∧ -1 ≤ r12.toInt ∧ r12.toInt ≤ 63 := h2
  refine ok_L4 (fun y3_18 c_n0_count_18 n_n0_value_18 f_n0_value_18 => CAP n_n0_value_18 ∧ BY f_n0_value_18 ∧ 0 ≤ y3_18.toInt ∧ y3_18.toInt ≤ 64 ∧ 0 ≤ c_n0_count_18.toInt ∧ c_n0_count_18.toInt ≤ (n_n0_value_18 : Int) ∧ c_n0_count_18.toInt ≤ 3 * (y3_18.toInt)) (fun y3_18 c_n0_count_18 n_n0_value_18 f_n0_value_18 => (65 - y3_18.toInt).toNat) (fun ih18 y3_18 c_n0_count_18 n_n0_value_18 f_n0_value_18 hI3 hih3 => ?_) 66 (0 : Int32) (0 : Int32) n_n0_value_4 f_n0_value_4 (show CAP n_n0_value_4 ∧ BY f_n0_value_4 ∧ 0 ≤ (0 : Int32).toInt ∧ (0 : Int32).toInt ≤ 64 ∧ 0 ≤ (0 : Int32).toInt ∧ (0 : Int32).toInt ≤ (n_n0_value_4 : Int) ∧ (0 : Int32).toInt ≤ 3 * ((0 : Int32).toInt) from by first | omega | assumption | trivial | (refine ⟨?_, ?_⟩ <;> first | omega | assumption | trivial | rfl) | (refine ⟨?_, ?_, ?_⟩ <;> first | omega | assumption | trivial | rfl) | (refine ⟨?_, ?_, ?_, ?_⟩ <;> first | omega | assumption | trivial | rfl) | (refine ⟨?_, ?_, ?_, ?_, ?_⟩ <;> first | omega | assumption | trivial | rfl) | (refine ⟨?_, ?_, ?_, ?_, ?_, ?_⟩ <;> first | omega | assumption | trivial | rfl) | (refine ⟨?_, ?_, ?_, ?_, ?_, ?_, ?_⟩ <;> first | omega | assumption | trivial | rfl) | (refine ⟨?_, ?_, ?_, ?_, ?_, ?_, ?_, ?_⟩ <;> first | omega | assumption | trivial | rfl)) (show (65 - (0 : Int32).toInt).toNat < 66 from by omega)
  have hI3 : CAP n_n0_value_18 ∧ BY f_n0_value_18 ∧ 0 ≤ y3_18.toInt ∧ y3_18.toInt ≤ 64 ∧ 0 ≤ c_n0_count_18.toInt ∧ c_n0_count_18.toInt ≤ (n_n0_value_18 : Int) ∧ c_n0_count_18.toInt ≤ 3 * (y3_18.toInt) := hI3
  obtain ⟨hI3_0, hI3_1, hI3_2, hI3_3, hI3_4, hI3_5, hI3_6⟩ := hI3
  unfold S_X5_cellDigits_18
  refine ok_le (fun c4 => ?_) (fun c4 => ?_)
  · refine ok_o (sp_J4_toString_0e30d c_n0_coder_4 c_n0_count_18 n_n0_value_18 f_n0_value_18 (by first | omega | assumption | trivial | exact wt_of (by assumption) (by omega)) (by first | omega | assumption | trivial | exact wt_of (by assumption) (by omega)) (by first | omega | assumption | trivial | exact wt_of (by assumption) (by omega)) (by first | omega | assumption | trivial | exact wt_of (by assumption) (by omega)) (by first | omega | assumption | trivial | exact wt_of (by assumption) (by omega))) (fun u53 h5 => ?_)
    exact ok_s trivial
  · refine ok_o (sp_X0_hasOne c_t_cells y3_18 ) (fun r29 h6 => ?_)
    have h6 : r29.toInt = 0 ∨ r29.toInt = 1 := h6
    refine ok_eq (fun c7 => ?_) (fun c7 => ?_)
    · refine ok_o3 (sp_J4_append_cf468 c_n0_coder_4 c_n0_count_18 n_n0_value_18 f_n0_value_18 (48 : Int32) (by first | omega | assumption | trivial | exact wt_of (by assumption) (by omega)) (by first | omega | assumption | trivial | exact wt_of (by assumption) (by omega)) (by first | omega | assumption | trivial | exact wt_of (by assumption) (by omega)) (by first | omega | assumption | trivial | exact wt_of (by assumption) (by omega)) (by first | omega | assumption | trivial | exact wt_of (by assumption) (by omega)) (by first | omega | assumption | trivial | exact wt_of (by assumption) (by omega)) (by first | omega | assumption | trivial | exact wt_of (by assumption) (by omega))) (fun c_n0_count_42 n_n0_value_42 f_n0_value_42 h8 => ?_)
      have h8 : c_n0_count_42.toInt = c_n0_count_18.toInt + 1 ∧ c_n0_count_42.toInt ≤ n_n0_value_42 ∧ CAP n_n0_value_42 ∧ BY f_n0_value_42 := h8
      obtain ⟨h8_0, h8_1, h8_2, h8_3⟩ := h8
      refine ok_bx (fun x3_46 e_x3_46 => ?_)
      try have t_x3_46 : x3_46.toInt = y3_18.toInt + 1 := by rw [e_x3_46]; exact addT1 (show (1 : Int32).toInt = 1 from by decide) (by omega) (by omega)
      exact hih3 x3_46 c_n0_count_42 n_n0_value_42 f_n0_value_42 (show CAP n_n0_value_42 ∧ BY f_n0_value_42 ∧ 0 ≤ x3_46.toInt ∧ x3_46.toInt ≤ 64 ∧ 0 ≤ c_n0_count_42.toInt ∧ c_n0_count_42.toInt ≤ (n_n0_value_42 : Int) ∧ c_n0_count_42.toInt ≤ 3 * (x3_46.toInt) from by first | omega | assumption | trivial | (refine ⟨?_, ?_⟩ <;> first | omega | assumption | trivial | rfl) | (refine ⟨?_, ?_, ?_⟩ <;> first | omega | assumption | trivial | rfl) | (refine ⟨?_, ?_, ?_, ?_⟩ <;> first | omega | assumption | trivial | rfl) | (refine ⟨?_, ?_, ?_, ?_, ?_⟩ <;> first | omega | assumption | trivial | rfl) | (refine ⟨?_, ?_, ?_, ?_, ?_, ?_⟩ <;> first | omega | assumption | trivial | rfl) | (refine ⟨?_, ?_, ?_, ?_, ?_, ?_, ?_⟩ <;> first | omega | assumption | trivial | rfl) | (refine ⟨?_, ?_, ?_, ?_, ?_, ?_, ?_, ?_⟩ <;> first | omega | assumption | trivial | rfl)) (show (65 - x3_46.toInt).toNat < (65 - y3_18.toInt).toNat from by omega)
    · refine ok_o3 (sp_J4_append_cf468 c_n0_coder_4 c_n0_count_18 n_n0_value_18 f_n0_value_18 (49 : Int32) (by first | omega | assumption | trivial | exact wt_of (by assumption) (by omega)) (by first | omega | assumption | trivial | exact wt_of (by assumption) (by omega)) (by first | omega | assumption | trivial | exact wt_of (by assumption) (by omega)) (by first | omega | assumption | trivial | exact wt_of (by assumption) (by omega)) (by first | omega | assumption | trivial | exact wt_of (by assumption) (by omega)) (by first | omega | assumption | trivial | exact wt_of (by assumption) (by omega)) (by first | omega | assumption | trivial | exact wt_of (by assumption) (by omega))) (fun c_n0_count_42_2 n_n0_value_42_2 f_n0_value_42_2 h9 => ?_)
      have h9 : c_n0_count_42_2.toInt = c_n0_count_18.toInt + 1 ∧ c_n0_count_42_2.toInt ≤ n_n0_value_42_2 ∧ CAP n_n0_value_42_2 ∧ BY f_n0_value_42_2 := h9
      obtain ⟨h9_0, h9_1, h9_2, h9_3⟩ := h9
      refine ok_bx (fun x3_46_2 e_x3_46_2 => ?_)
      try have t_x3_46_2 : x3_46_2.toInt = y3_18.toInt + 1 := by rw [e_x3_46_2]; exact addT1 (show (1 : Int32).toInt = 1 from by decide) (by omega) (by omega)
      exact hih3 x3_46_2 c_n0_count_42_2 n_n0_value_42_2 f_n0_value_42_2 (show CAP n_n0_value_42_2 ∧ BY f_n0_value_42_2 ∧ 0 ≤ x3_46_2.toInt ∧ x3_46_2.toInt ≤ 64 ∧ 0 ≤ c_n0_count_42_2.toInt ∧ c_n0_count_42_2.toInt ≤ (n_n0_value_42_2 : Int) ∧ c_n0_count_42_2.toInt ≤ 3 * (x3_46_2.toInt) from by first | omega | assumption | trivial | (refine ⟨?_, ?_⟩ <;> first | omega | assumption | trivial | rfl) | (refine ⟨?_, ?_, ?_⟩ <;> first | omega | assumption | trivial | rfl) | (refine ⟨?_, ?_, ?_, ?_⟩ <;> first | omega | assumption | trivial | rfl) | (refine ⟨?_, ?_, ?_, ?_, ?_⟩ <;> first | omega | assumption | trivial | rfl) | (refine ⟨?_, ?_, ?_, ?_, ?_, ?_⟩ <;> first | omega | assumption | trivial | rfl) | (refine ⟨?_, ?_, ?_, ?_, ?_, ?_, ?_⟩ <;> first | omega | assumption | trivial | rfl) | (refine ⟨?_, ?_, ?_, ?_, ?_, ?_, ?_, ?_⟩ <;> first | omega | assumption | trivial | rfl)) (show (65 - x3_46_2.toInt).toNat < (65 - y3_18.toInt).toNat from by omega)
set_option maxHeartbeats 1000000 in
theorem sp_X7_rowText (c_t_row_taps : Int64) (c_t_row_cells : Int64)  : ok (F_X7_rowText c_t_row_taps c_t_row_cells) (fun r => True) := by
  unfold F_X7_rowText
  refine ok_o (sp_X5_cellDigits c_t_row_taps c_t_row_cells ) (fun u4 h1 => ?_)
  exact ok_s trivial
set_option maxHeartbeats 1000000 in
theorem sp_X7_primes (p0 : Int32) (p1 : Int32)  : ok (F_X7_primes p0 p1) (fun r => r.1 = 0 ∨ r.1 = 2) := by
  have l032 : (0 : Int32).toInt = 0 := by decide
  have l132 : (1 : Int32).toInt = 1 := by decide
  have l632 : (6 : Int32).toInt = 6 := by decide
  have l1032 : (10 : Int32).toInt = 10 := by decide
  unfold F_X7_primes
  refine ok_o (sp_X7_testRange p1 (0 : Int32) (1 : Int32) ) (fun xc3 h1 => ?_)
  have h1 : (xc3 = 0 ∧ (0 : Int32).toInt ≤ p1.toInt ∧ p1.toInt ≤ (1 : Int32).toInt) ∨ (xc3 = 2 ∧ (p1.toInt < (0 : Int32).toInt ∨ (1 : Int32).toInt < p1.toInt)) := h1
  refine ok_i (fun c2 => ?_) (fun c2 => ?_)
  · refine ok_eq (fun c3 => ?_) (fun c3 => ?_)
    · refine ok_o (sp_X7_testRange p0 (1 : Int32) (10 : Int32) ) (fun xc19 h4 => ?_)
      have h4 : (xc19 = 0 ∧ (1 : Int32).toInt ≤ p0.toInt ∧ p0.toInt ≤ (10 : Int32).toInt) ∨ (xc19 = 2 ∧ (p0.toInt < (1 : Int32).toInt ∨ (10 : Int32).toInt < p0.toInt)) := h4
      refine ok_i (fun c5 => ?_) (fun c5 => ?_)
      · refine ok_eq (fun c6 => ?_) (fun c6 => ?_)
        · refine ok_o (sp_X2_howManyBySum p0 (by first | omega | assumption | trivial) (by first | omega | assumption | trivial)) (fun r27 h7 => ?_)
          exact ok_s (show 0 = 0 ∨ 0 = 2 from by first | omega | assumption | trivial | (refine ⟨?_, ?_⟩ <;> first | omega | assumption | trivial | rfl) | (refine ⟨?_, ?_, ?_⟩ <;> first | omega | assumption | trivial | rfl) | (refine ⟨?_, ?_, ?_, ?_⟩ <;> first | omega | assumption | trivial | rfl) | (refine ⟨?_, ?_, ?_, ?_, ?_⟩ <;> first | omega | assumption | trivial | rfl) | (refine ⟨?_, ?_, ?_, ?_, ?_, ?_⟩ <;> first | omega | assumption | trivial | rfl) | (refine ⟨?_, ?_, ?_, ?_, ?_, ?_, ?_⟩ <;> first | omega | assumption | trivial | rfl) | (refine ⟨?_, ?_, ?_, ?_, ?_, ?_, ?_, ?_⟩ <;> first | omega | assumption | trivial | rfl))
        · exfalso; omega
      · exact ok_s (show xc19 = 0 ∨ xc19 = 2 from by first | omega | assumption | trivial | (refine ⟨?_, ?_⟩ <;> first | omega | assumption | trivial | rfl) | (refine ⟨?_, ?_, ?_⟩ <;> first | omega | assumption | trivial | rfl) | (refine ⟨?_, ?_, ?_, ?_⟩ <;> first | omega | assumption | trivial | rfl) | (refine ⟨?_, ?_, ?_, ?_, ?_⟩ <;> first | omega | assumption | trivial | rfl) | (refine ⟨?_, ?_, ?_, ?_, ?_, ?_⟩ <;> first | omega | assumption | trivial | rfl) | (refine ⟨?_, ?_, ?_, ?_, ?_, ?_, ?_⟩ <;> first | omega | assumption | trivial | rfl) | (refine ⟨?_, ?_, ?_, ?_, ?_, ?_, ?_, ?_⟩ <;> first | omega | assumption | trivial | rfl))
    · refine ok_o (sp_X7_testRange p0 (1 : Int32) (6 : Int32) ) (fun xc19_2 h8 => ?_)
      have h8 : (xc19_2 = 0 ∧ (1 : Int32).toInt ≤ p0.toInt ∧ p0.toInt ≤ (6 : Int32).toInt) ∨ (xc19_2 = 2 ∧ (p0.toInt < (1 : Int32).toInt ∨ (6 : Int32).toInt < p0.toInt)) := h8
      refine ok_i (fun c9 => ?_) (fun c9 => ?_)
      · refine ok_eq (fun c10 => ?_) (fun c10 => ?_)
        · exfalso; omega
        · refine ok_o (sp_X2_howManyByCounting p0 (by first | omega | assumption | trivial) (by first | omega | assumption | trivial)) (fun r34 h11 => ?_)
          exact ok_s (show 0 = 0 ∨ 0 = 2 from by first | omega | assumption | trivial | (refine ⟨?_, ?_⟩ <;> first | omega | assumption | trivial | rfl) | (refine ⟨?_, ?_, ?_⟩ <;> first | omega | assumption | trivial | rfl) | (refine ⟨?_, ?_, ?_, ?_⟩ <;> first | omega | assumption | trivial | rfl) | (refine ⟨?_, ?_, ?_, ?_, ?_⟩ <;> first | omega | assumption | trivial | rfl) | (refine ⟨?_, ?_, ?_, ?_, ?_, ?_⟩ <;> first | omega | assumption | trivial | rfl) | (refine ⟨?_, ?_, ?_, ?_, ?_, ?_, ?_⟩ <;> first | omega | assumption | trivial | rfl) | (refine ⟨?_, ?_, ?_, ?_, ?_, ?_, ?_, ?_⟩ <;> first | omega | assumption | trivial | rfl))
      · exact ok_s (show xc19_2 = 0 ∨ xc19_2 = 2 from by first | omega | assumption | trivial | (refine ⟨?_, ?_⟩ <;> first | omega | assumption | trivial | rfl) | (refine ⟨?_, ?_, ?_⟩ <;> first | omega | assumption | trivial | rfl) | (refine ⟨?_, ?_, ?_, ?_⟩ <;> first | omega | assumption | trivial | rfl) | (refine ⟨?_, ?_, ?_, ?_, ?_⟩ <;> first | omega | assumption | trivial | rfl) | (refine ⟨?_, ?_, ?_, ?_, ?_, ?_⟩ <;> first | omega | assumption | trivial | rfl) | (refine ⟨?_, ?_, ?_, ?_, ?_, ?_, ?_⟩ <;> first | omega | assumption | trivial | rfl) | (refine ⟨?_, ?_, ?_, ?_, ?_, ?_, ?_, ?_⟩ <;> first | omega | assumption | trivial | rfl))
  · exact ok_s (show xc3 = 0 ∨ xc3 = 2 from by first | omega | assumption | trivial | (refine ⟨?_, ?_⟩ <;> first | omega | assumption | trivial | rfl) | (refine ⟨?_, ?_, ?_⟩ <;> first | omega | assumption | trivial | rfl) | (refine ⟨?_, ?_, ?_, ?_⟩ <;> first | omega | assumption | trivial | rfl) | (refine ⟨?_, ?_, ?_, ?_, ?_⟩ <;> first | omega | assumption | trivial | rfl) | (refine ⟨?_, ?_, ?_, ?_, ?_, ?_⟩ <;> first | omega | assumption | trivial | rfl) | (refine ⟨?_, ?_, ?_, ?_, ?_, ?_, ?_⟩ <;> first | omega | assumption | trivial | rfl) | (refine ⟨?_, ?_, ?_, ?_, ?_, ?_, ?_, ?_⟩ <;> first | omega | assumption | trivial | rfl))
set_option maxHeartbeats 1000000 in
theorem sp_X7_isSound (f_t_forms : Nat → Int64) (c_t_row_taps : Int64) (c_t_rows_first : Int64) (c_t_rows_ofOne : Int64) (c_t_rows_ofOther : Int64) (c_t_rows_second : Int64) (c_t_rows_secondOfOne : Int64) (c_t_rows_secondOfOther : Int64) (c_t_factors_parts_size : Int32) (f_t_factors_parts_held : Nat → Int64) (c_t_found_size : Int32) (f_t_found_held : Nat → Int64) (c_t_foundOtherwise_size : Int32) (f_t_foundOtherwise_held : Nat → Int64) (f_t_foundOtherwise_before : Nat → Int64) (hp0 : 0 ≤ c_t_factors_parts_size.toInt) (hp1 : c_t_factors_parts_size.toInt ≤ 12) (hp2 : 0 ≤ c_t_found_size.toInt) (hp3 : c_t_found_size.toInt ≤ 12) (hp4 : 0 ≤ c_t_foundOtherwise_size.toInt) (hp5 : c_t_foundOtherwise_size.toInt ≤ 12) : ok (F_X7_isSound f_t_forms c_t_row_taps c_t_rows_first c_t_rows_ofOne c_t_rows_ofOther c_t_rows_second c_t_rows_secondOfOne c_t_rows_secondOfOther c_t_factors_parts_size f_t_factors_parts_held c_t_found_size f_t_found_held c_t_foundOtherwise_size f_t_foundOtherwise_held f_t_foundOtherwise_before) (fun r => (r.1.toInt = 0 ∨ r.1.toInt = 1) ∧ 0 ≤ r.2.2.2.2.2.2.2.1.toInt ∧ r.2.2.2.2.2.2.2.1.toInt ≤ 12 ∧ 0 ≤ r.2.2.2.2.2.2.2.2.2.1.toInt ∧ r.2.2.2.2.2.2.2.2.2.1.toInt ≤ 12 ∧ 0 ≤ r.2.2.2.2.2.2.2.2.2.2.2.1.toInt ∧ r.2.2.2.2.2.2.2.2.2.2.2.1.toInt ≤ 12) := by
  have l032 : (0 : Int32).toInt = 0 := by decide
  have l132 : (1 : Int32).toInt = 1 := by decide
  have l51164 : (511 : Int64).toInt = 511 := by decide
  unfold F_X7_isSound
  refine ok_bx (fun x1_10 e_x1_10 => ?_)
  refine ok_bx (fun x3_21 e_x3_21 => ?_)
  refine ok_o (sp_X7_isProductSound x1_10 x3_21 ) (fun r25 h1 => ?_)
  have h1 : r25.toInt = 0 ∨ r25.toInt = 1 := h1
  refine ok_eq (fun c2 => ?_) (fun c2 => ?_)
  · exact ok_s (show ((0 : Int32).toInt = 0 ∨ (0 : Int32).toInt = 1) ∧ 0 ≤ c_t_factors_parts_size.toInt ∧ c_t_factors_parts_size.toInt ≤ 12 ∧ 0 ≤ c_t_found_size.toInt ∧ c_t_found_size.toInt ≤ 12 ∧ 0 ≤ c_t_foundOtherwise_size.toInt ∧ c_t_foundOtherwise_size.toInt ≤ 12 from by first | omega | assumption | trivial | (refine ⟨?_, ?_⟩ <;> first | omega | assumption | trivial | rfl) | (refine ⟨?_, ?_, ?_⟩ <;> first | omega | assumption | trivial | rfl) | (refine ⟨?_, ?_, ?_, ?_⟩ <;> first | omega | assumption | trivial | rfl) | (refine ⟨?_, ?_, ?_, ?_, ?_⟩ <;> first | omega | assumption | trivial | rfl) | (refine ⟨?_, ?_, ?_, ?_, ?_, ?_⟩ <;> first | omega | assumption | trivial | rfl) | (refine ⟨?_, ?_, ?_, ?_, ?_, ?_, ?_⟩ <;> first | omega | assumption | trivial | rfl) | (refine ⟨?_, ?_, ?_, ?_, ?_, ?_, ?_, ?_⟩ <;> first | omega | assumption | trivial | rfl))
  · refine ok_o7 (sp_X7_isCommonSound x1_10 x3_21 ) (fun r34 c_t_rows_first_34 c_t_rows_ofOne_34 c_t_rows_ofOther_34 c_t_rows_second_34 c_t_rows_secondOfOne_34 c_t_rows_secondOfOther_34 h3 => ?_)
    have h3 : r34.toInt = 0 ∨ r34.toInt = 1 := h3
    refine ok_eq (fun c4 => ?_) (fun c4 => ?_)
    · exact ok_s (show ((0 : Int32).toInt = 0 ∨ (0 : Int32).toInt = 1) ∧ 0 ≤ c_t_factors_parts_size.toInt ∧ c_t_factors_parts_size.toInt ≤ 12 ∧ 0 ≤ c_t_found_size.toInt ∧ c_t_found_size.toInt ≤ 12 ∧ 0 ≤ c_t_foundOtherwise_size.toInt ∧ c_t_foundOtherwise_size.toInt ≤ 12 from by first | omega | assumption | trivial | (refine ⟨?_, ?_⟩ <;> first | omega | assumption | trivial | rfl) | (refine ⟨?_, ?_, ?_⟩ <;> first | omega | assumption | trivial | rfl) | (refine ⟨?_, ?_, ?_, ?_⟩ <;> first | omega | assumption | trivial | rfl) | (refine ⟨?_, ?_, ?_, ?_, ?_⟩ <;> first | omega | assumption | trivial | rfl) | (refine ⟨?_, ?_, ?_, ?_, ?_, ?_⟩ <;> first | omega | assumption | trivial | rfl) | (refine ⟨?_, ?_, ?_, ?_, ?_, ?_, ?_⟩ <;> first | omega | assumption | trivial | rfl) | (refine ⟨?_, ?_, ?_, ?_, ?_, ?_, ?_, ?_⟩ <;> first | omega | assumption | trivial | rfl))
    · refine ok_o (sp_X6_isWheel c_t_row_taps ) (fun r47 h5 => ?_)
      have h5 : r47.toInt = 0 ∨ r47.toInt = 1 := h5
      refine ok_eq (fun c6 => ?_) (fun c6 => ?_)
      · exact ok_s (show ((0 : Int32).toInt = 0 ∨ (0 : Int32).toInt = 1) ∧ 0 ≤ c_t_factors_parts_size.toInt ∧ c_t_factors_parts_size.toInt ≤ 12 ∧ 0 ≤ c_t_found_size.toInt ∧ c_t_found_size.toInt ≤ 12 ∧ 0 ≤ c_t_foundOtherwise_size.toInt ∧ c_t_foundOtherwise_size.toInt ≤ 12 from by first | omega | assumption | trivial | (refine ⟨?_, ?_⟩ <;> first | omega | assumption | trivial | rfl) | (refine ⟨?_, ?_, ?_⟩ <;> first | omega | assumption | trivial | rfl) | (refine ⟨?_, ?_, ?_, ?_⟩ <;> first | omega | assumption | trivial | rfl) | (refine ⟨?_, ?_, ?_, ?_, ?_⟩ <;> first | omega | assumption | trivial | rfl) | (refine ⟨?_, ?_, ?_, ?_, ?_, ?_⟩ <;> first | omega | assumption | trivial | rfl) | (refine ⟨?_, ?_, ?_, ?_, ?_, ?_, ?_⟩ <;> first | omega | assumption | trivial | rfl) | (refine ⟨?_, ?_, ?_, ?_, ?_, ?_, ?_, ?_⟩ <;> first | omega | assumption | trivial | rfl))
      · refine ok_o (sp_X0_degreeOf x1_10 ) (fun r56 h7 => ?_)
        have h7 : r56.toInt = DG x1_10 ∧ -1 ≤ r56.toInt ∧ r56.toInt ≤ 63 := h7
        refine ok_le (fun c8 => ?_) (fun c8 => ?_)
        · refine ok_o2 (sp_X1_findByTrying f_t_found_held x1_10 ) (fun c_t_found_size_74 f_t_found_held_74 h9 => ?_)
          have h9 : 0 ≤ c_t_found_size_74.toInt ∧ c_t_found_size_74.toInt ≤ 12 := h9
          refine ok_o4 (sp_X1_findByDegrees c_t_factors_parts_size f_t_factors_parts_held f_t_foundOtherwise_held x1_10 (by first | omega | assumption | trivial) (by first | omega | assumption | trivial)) (fun c_t_factors_parts_size_86 f_t_factors_parts_held_86 c_t_foundOtherwise_size_86 f_t_foundOtherwise_held_86 h10 => ?_)
          have h10 : 0 ≤ c_t_factors_parts_size_86.toInt ∧ c_t_factors_parts_size_86.toInt ≤ 12 ∧ 0 ≤ c_t_foundOtherwise_size_86.toInt ∧ c_t_foundOtherwise_size_86.toInt ≤ 12 := h10
          refine ok_o3 (sp_X3_arrange c_t_foundOtherwise_size_86 f_t_foundOtherwise_held_86 f_t_foundOtherwise_before (0 : Int32) (by first | omega | assumption | trivial) (by first | omega | assumption | trivial)) (fun r94 f_t_foundOtherwise_held_94 f_t_foundOtherwise_before_94 h11 => ?_)
          refine ok_o (sp_X3_isSameAs c_t_found_size_74 f_t_found_held_74 c_t_foundOtherwise_size_86 f_t_foundOtherwise_held_94 (by first | omega | assumption | trivial) (by first | omega | assumption | trivial) (by first | omega | assumption | trivial) (by first | omega | assumption | trivial)) (fun r106 h12 => ?_)
          have h12 : r106.toInt = 0 ∨ r106.toInt = 1 := h12
          refine ok_eq (fun c13 => ?_) (fun c13 => ?_)
          · exact ok_s (show ((0 : Int32).toInt = 0 ∨ (0 : Int32).toInt = 1) ∧ 0 ≤ c_t_factors_parts_size_86.toInt ∧ c_t_factors_parts_size_86.toInt ≤ 12 ∧ 0 ≤ c_t_found_size_74.toInt ∧ c_t_found_size_74.toInt ≤ 12 ∧ 0 ≤ c_t_foundOtherwise_size_86.toInt ∧ c_t_foundOtherwise_size_86.toInt ≤ 12 from by first | omega | assumption | trivial | (refine ⟨?_, ?_⟩ <;> first | omega | assumption | trivial | rfl) | (refine ⟨?_, ?_, ?_⟩ <;> first | omega | assumption | trivial | rfl) | (refine ⟨?_, ?_, ?_, ?_⟩ <;> first | omega | assumption | trivial | rfl) | (refine ⟨?_, ?_, ?_, ?_, ?_⟩ <;> first | omega | assumption | trivial | rfl) | (refine ⟨?_, ?_, ?_, ?_, ?_, ?_⟩ <;> first | omega | assumption | trivial | rfl) | (refine ⟨?_, ?_, ?_, ?_, ?_, ?_, ?_⟩ <;> first | omega | assumption | trivial | rfl) | (refine ⟨?_, ?_, ?_, ?_, ?_, ?_, ?_, ?_⟩ <;> first | omega | assumption | trivial | rfl))
          · refine ok_o (sp_X3_multipliedAll c_t_found_size_74 f_t_found_held_74 (by first | omega | assumption | trivial) (by first | omega | assumption | trivial)) (fun r116 h14 => ?_)
            refine ok_eqL (fun c15 => ?_) (fun c15 => ?_)
            · refine ok_o (sp_X6_isWheel x1_10 ) (fun r127 h16 => ?_)
              have h16 : r127.toInt = 0 ∨ r127.toInt = 1 := h16
              refine ok_eq (fun c17 => ?_) (fun c17 => ?_)
              · exact ok_s (show ((1 : Int32).toInt = 0 ∨ (1 : Int32).toInt = 1) ∧ 0 ≤ c_t_factors_parts_size_86.toInt ∧ c_t_factors_parts_size_86.toInt ≤ 12 ∧ 0 ≤ c_t_found_size_74.toInt ∧ c_t_found_size_74.toInt ≤ 12 ∧ 0 ≤ c_t_foundOtherwise_size_86.toInt ∧ c_t_foundOtherwise_size_86.toInt ≤ 12 from by first | omega | assumption | trivial | (refine ⟨?_, ?_⟩ <;> first | omega | assumption | trivial | rfl) | (refine ⟨?_, ?_, ?_⟩ <;> first | omega | assumption | trivial | rfl) | (refine ⟨?_, ?_, ?_, ?_⟩ <;> first | omega | assumption | trivial | rfl) | (refine ⟨?_, ?_, ?_, ?_, ?_⟩ <;> first | omega | assumption | trivial | rfl) | (refine ⟨?_, ?_, ?_, ?_, ?_, ?_⟩ <;> first | omega | assumption | trivial | rfl) | (refine ⟨?_, ?_, ?_, ?_, ?_, ?_, ?_⟩ <;> first | omega | assumption | trivial | rfl) | (refine ⟨?_, ?_, ?_, ?_, ?_, ?_, ?_, ?_⟩ <;> first | omega | assumption | trivial | rfl))
              · refine ok_o (sp_X6_periodByMultiplying x1_10 ) (fun r134 h18 => ?_)
                refine ok_o3 (sp_X7_periodByFactors f_t_found_held_74 x1_10 ) (fun r139 c_t_found_size_139 f_t_found_held_139 h19 => ?_)
                have h19 : 0 ≤ c_t_found_size_139.toInt ∧ c_t_found_size_139.toInt ≤ 12 := h19
                refine ok_eq (fun c20 => ?_) (fun c20 => ?_)
                · exact ok_s (show ((1 : Int32).toInt = 0 ∨ (1 : Int32).toInt = 1) ∧ 0 ≤ c_t_factors_parts_size_86.toInt ∧ c_t_factors_parts_size_86.toInt ≤ 12 ∧ 0 ≤ c_t_found_size_139.toInt ∧ c_t_found_size_139.toInt ≤ 12 ∧ 0 ≤ c_t_foundOtherwise_size_86.toInt ∧ c_t_foundOtherwise_size_86.toInt ≤ 12 from by first | omega | assumption | trivial | (refine ⟨?_, ?_⟩ <;> first | omega | assumption | trivial | rfl) | (refine ⟨?_, ?_, ?_⟩ <;> first | omega | assumption | trivial | rfl) | (refine ⟨?_, ?_, ?_, ?_⟩ <;> first | omega | assumption | trivial | rfl) | (refine ⟨?_, ?_, ?_, ?_, ?_⟩ <;> first | omega | assumption | trivial | rfl) | (refine ⟨?_, ?_, ?_, ?_, ?_, ?_⟩ <;> first | omega | assumption | trivial | rfl) | (refine ⟨?_, ?_, ?_, ?_, ?_, ?_, ?_⟩ <;> first | omega | assumption | trivial | rfl) | (refine ⟨?_, ?_, ?_, ?_, ?_, ?_, ?_, ?_⟩ <;> first | omega | assumption | trivial | rfl))
                · exact ok_s (show ((0 : Int32).toInt = 0 ∨ (0 : Int32).toInt = 1) ∧ 0 ≤ c_t_factors_parts_size_86.toInt ∧ c_t_factors_parts_size_86.toInt ≤ 12 ∧ 0 ≤ c_t_found_size_139.toInt ∧ c_t_found_size_139.toInt ≤ 12 ∧ 0 ≤ c_t_foundOtherwise_size_86.toInt ∧ c_t_foundOtherwise_size_86.toInt ≤ 12 from by first | omega | assumption | trivial | (refine ⟨?_, ?_⟩ <;> first | omega | assumption | trivial | rfl) | (refine ⟨?_, ?_, ?_⟩ <;> first | omega | assumption | trivial | rfl) | (refine ⟨?_, ?_, ?_, ?_⟩ <;> first | omega | assumption | trivial | rfl) | (refine ⟨?_, ?_, ?_, ?_, ?_⟩ <;> first | omega | assumption | trivial | rfl) | (refine ⟨?_, ?_, ?_, ?_, ?_, ?_⟩ <;> first | omega | assumption | trivial | rfl) | (refine ⟨?_, ?_, ?_, ?_, ?_, ?_, ?_⟩ <;> first | omega | assumption | trivial | rfl) | (refine ⟨?_, ?_, ?_, ?_, ?_, ?_, ?_, ?_⟩ <;> first | omega | assumption | trivial | rfl))
            · exact ok_s (show ((0 : Int32).toInt = 0 ∨ (0 : Int32).toInt = 1) ∧ 0 ≤ c_t_factors_parts_size_86.toInt ∧ c_t_factors_parts_size_86.toInt ≤ 12 ∧ 0 ≤ c_t_found_size_74.toInt ∧ c_t_found_size_74.toInt ≤ 12 ∧ 0 ≤ c_t_foundOtherwise_size_86.toInt ∧ c_t_foundOtherwise_size_86.toInt ≤ 12 from by first | omega | assumption | trivial | (refine ⟨?_, ?_⟩ <;> first | omega | assumption | trivial | rfl) | (refine ⟨?_, ?_, ?_⟩ <;> first | omega | assumption | trivial | rfl) | (refine ⟨?_, ?_, ?_, ?_⟩ <;> first | omega | assumption | trivial | rfl) | (refine ⟨?_, ?_, ?_, ?_, ?_⟩ <;> first | omega | assumption | trivial | rfl) | (refine ⟨?_, ?_, ?_, ?_, ?_, ?_⟩ <;> first | omega | assumption | trivial | rfl) | (refine ⟨?_, ?_, ?_, ?_, ?_, ?_, ?_⟩ <;> first | omega | assumption | trivial | rfl) | (refine ⟨?_, ?_, ?_, ?_, ?_, ?_, ?_, ?_⟩ <;> first | omega | assumption | trivial | rfl))
        · exact ok_s (show ((1 : Int32).toInt = 0 ∨ (1 : Int32).toInt = 1) ∧ 0 ≤ c_t_factors_parts_size.toInt ∧ c_t_factors_parts_size.toInt ≤ 12 ∧ 0 ≤ c_t_found_size.toInt ∧ c_t_found_size.toInt ≤ 12 ∧ 0 ≤ c_t_foundOtherwise_size.toInt ∧ c_t_foundOtherwise_size.toInt ≤ 12 from by first | omega | assumption | trivial | (refine ⟨?_, ?_⟩ <;> first | omega | assumption | trivial | rfl) | (refine ⟨?_, ?_, ?_⟩ <;> first | omega | assumption | trivial | rfl) | (refine ⟨?_, ?_, ?_, ?_⟩ <;> first | omega | assumption | trivial | rfl) | (refine ⟨?_, ?_, ?_, ?_, ?_⟩ <;> first | omega | assumption | trivial | rfl) | (refine ⟨?_, ?_, ?_, ?_, ?_, ?_⟩ <;> first | omega | assumption | trivial | rfl) | (refine ⟨?_, ?_, ?_, ?_, ?_, ?_, ?_⟩ <;> first | omega | assumption | trivial | rfl) | (refine ⟨?_, ?_, ?_, ?_, ?_, ?_, ?_, ?_⟩ <;> first | omega | assumption | trivial | rfl))
set_option maxHeartbeats 1000000 in
theorem sp_X7_digest (c_t_acts : Int32) (c_t_refusals : Int32) (c_t_knocks : Int32) (f_t_forms : Nat → Int64) (c_t_roll_size : Int32) (f_t_roll_held : Nat → Int64) (c_t_row_taps : Int64) (c_t_row_cells : Int64) (c_t_rows_first : Int64) (c_t_rows_ofOne : Int64) (c_t_rows_ofOther : Int64) (c_t_rows_second : Int64) (c_t_rows_secondOfOne : Int64) (c_t_rows_secondOfOther : Int64) (c_t_factors_parts_size : Int32) (f_t_factors_parts_held : Nat → Int64) (c_t_found_size : Int32) (f_t_found_held : Nat → Int64) (c_t_foundOtherwise_size : Int32) (f_t_foundOtherwise_held : Nat → Int64) (f_t_foundOtherwise_before : Nat → Int64) (hp0 : 0 ≤ c_t_roll_size.toInt) (hp1 : c_t_roll_size.toInt ≤ 12) (hp2 : 0 ≤ c_t_factors_parts_size.toInt) (hp3 : c_t_factors_parts_size.toInt ≤ 12) (hp4 : 0 ≤ c_t_found_size.toInt) (hp5 : c_t_found_size.toInt ≤ 12) (hp6 : 0 ≤ c_t_foundOtherwise_size.toInt) (hp7 : c_t_foundOtherwise_size.toInt ≤ 12) : ok (F_X7_digest c_t_acts c_t_refusals c_t_knocks f_t_forms c_t_roll_size f_t_roll_held c_t_row_taps c_t_row_cells c_t_rows_first c_t_rows_ofOne c_t_rows_ofOther c_t_rows_second c_t_rows_secondOfOne c_t_rows_secondOfOther c_t_factors_parts_size f_t_factors_parts_held c_t_found_size f_t_found_held c_t_foundOtherwise_size f_t_foundOtherwise_held f_t_foundOtherwise_before) (fun r => r.1 = 0 ∧ 0 ≤ r.2.2.2.2.2.2.2.2.1.toInt ∧ r.2.2.2.2.2.2.2.2.1.toInt ≤ 12 ∧ 0 ≤ r.2.2.2.2.2.2.2.2.2.2.1.toInt ∧ r.2.2.2.2.2.2.2.2.2.2.1.toInt ≤ 12 ∧ 0 ≤ r.2.2.2.2.2.2.2.2.2.2.2.2.1.toInt ∧ r.2.2.2.2.2.2.2.2.2.2.2.2.1.toInt ≤ 12) := by
  have l032 : (0 : Int32).toInt = 0 := by decide
  have l064 : (0 : Int64).toInt = 0 := by decide
  have l132 : (1 : Int32).toInt = 1 := by decide
  have l164 : (1 : Int64).toInt = 1 := by decide
  have l532 : (5 : Int32).toInt = 5 := by decide
  have l632 : (6 : Int32).toInt = 6 := by decide
  have l802964 : (8029 : Int64).toInt = 8029 := by decide
  unfold F_X7_digest
  refine ok_L2 (fun y1_6 y3_6 => 0 ≤ y3_6.toInt) (fun y1_6 y3_6 => (6 - y3_6.toInt + 1).toNat) (fun ih6 y1_6 y3_6 hI1 hih1 => ?_) 20000 (8029 : Int64) (0 : Int32) (show 0 ≤ (0 : Int32).toInt from by first | omega | assumption | trivial | (refine ⟨?_, ?_⟩ <;> first | omega | assumption | trivial | rfl) | (refine ⟨?_, ?_, ?_⟩ <;> first | omega | assumption | trivial | rfl) | (refine ⟨?_, ?_, ?_, ?_⟩ <;> first | omega | assumption | trivial | rfl) | (refine ⟨?_, ?_, ?_, ?_, ?_⟩ <;> first | omega | assumption | trivial | rfl) | (refine ⟨?_, ?_, ?_, ?_, ?_, ?_⟩ <;> first | omega | assumption | trivial | rfl) | (refine ⟨?_, ?_, ?_, ?_, ?_, ?_, ?_⟩ <;> first | omega | assumption | trivial | rfl) | (refine ⟨?_, ?_, ?_, ?_, ?_, ?_, ?_, ?_⟩ <;> first | omega | assumption | trivial | rfl)) (show (6 - (0 : Int32).toInt + 1).toNat < 20000 from by omega)
  have hI1 : 0 ≤ y3_6.toInt := hI1
  unfold S_X7_digest_6
  refine ok_le (fun c2 => ?_) (fun c2 => ?_)
  · refine ok_o (sp_X7_mixed y1_6 c_t_roll_size.toInt64 ) (fun r38 h3 => ?_)
    refine ok_L2 (fun y1_44 y3_44 => 0 ≤ y3_44.toInt) (fun y1_44 y3_44 => (c_t_roll_size.toInt - y3_44.toInt + 1).toNat) (fun ih44 y1_44 y3_44 hI4 hih4 => ?_) 20000 r38 (0 : Int32) (show 0 ≤ (0 : Int32).toInt from by first | omega | assumption | trivial | (refine ⟨?_, ?_⟩ <;> first | omega | assumption | trivial | rfl) | (refine ⟨?_, ?_, ?_⟩ <;> first | omega | assumption | trivial | rfl) | (refine ⟨?_, ?_, ?_, ?_⟩ <;> first | omega | assumption | trivial | rfl) | (refine ⟨?_, ?_, ?_, ?_, ?_⟩ <;> first | omega | assumption | trivial | rfl) | (refine ⟨?_, ?_, ?_, ?_, ?_, ?_⟩ <;> first | omega | assumption | trivial | rfl) | (refine ⟨?_, ?_, ?_, ?_, ?_, ?_, ?_⟩ <;> first | omega | assumption | trivial | rfl) | (refine ⟨?_, ?_, ?_, ?_, ?_, ?_, ?_, ?_⟩ <;> first | omega | assumption | trivial | rfl)) (show (c_t_roll_size.toInt - (0 : Int32).toInt + 1).toNat < 20000 from by omega)
    have hI4 : 0 ≤ y3_44.toInt := hI4
    unfold S_X7_digest_44
    refine ok_le (fun c5 => ?_) (fun c5 => ?_)
    · refine ok_o (sp_X7_mixed y1_44 c_t_row_taps ) (fun r103 h6 => ?_)
      refine ok_o (sp_X0_degreeOf c_t_row_taps ) (fun r114 h7 => ?_)
      have h7 : r114.toInt = DG c_t_row_taps ∧ -1 ≤ r114.toInt ∧ r114.toInt ≤ 63 := h7
      refine ok_L2 (fun y1_121 y4_121 => 0 ≤ y4_121.toInt) (fun y1_121 y4_121 => (r114.toInt - y4_121.toInt + 1).toNat) (fun ih121 y1_121 y4_121 hI8 hih8 => ?_) 20000 r103 (0 : Int32) (show 0 ≤ (0 : Int32).toInt from by first | omega | assumption | trivial | (refine ⟨?_, ?_⟩ <;> first | omega | assumption | trivial | rfl) | (refine ⟨?_, ?_, ?_⟩ <;> first | omega | assumption | trivial | rfl) | (refine ⟨?_, ?_, ?_, ?_⟩ <;> first | omega | assumption | trivial | rfl) | (refine ⟨?_, ?_, ?_, ?_, ?_⟩ <;> first | omega | assumption | trivial | rfl) | (refine ⟨?_, ?_, ?_, ?_, ?_, ?_⟩ <;> first | omega | assumption | trivial | rfl) | (refine ⟨?_, ?_, ?_, ?_, ?_, ?_, ?_⟩ <;> first | omega | assumption | trivial | rfl) | (refine ⟨?_, ?_, ?_, ?_, ?_, ?_, ?_, ?_⟩ <;> first | omega | assumption | trivial | rfl)) (show (r114.toInt - (0 : Int32).toInt + 1).toNat < 20000 from by omega)
      have hI8 : 0 ≤ y4_121.toInt := hI8
      unfold S_X7_digest_121
      refine ok_le (fun c9 => ?_) (fun c9 => ?_)
      · refine ok_L2 (fun y1_161 y4_161 => 0 ≤ y4_161.toInt) (fun y1_161 y4_161 => (6 - y4_161.toInt).toNat) (fun ih161 y1_161 y4_161 hI10 hih10 => ?_) 66 y1_121 (0 : Int32) (show 0 ≤ (0 : Int32).toInt from by first | omega | assumption | trivial | (refine ⟨?_, ?_⟩ <;> first | omega | assumption | trivial | rfl) | (refine ⟨?_, ?_, ?_⟩ <;> first | omega | assumption | trivial | rfl) | (refine ⟨?_, ?_, ?_, ?_⟩ <;> first | omega | assumption | trivial | rfl) | (refine ⟨?_, ?_, ?_, ?_, ?_⟩ <;> first | omega | assumption | trivial | rfl) | (refine ⟨?_, ?_, ?_, ?_, ?_, ?_⟩ <;> first | omega | assumption | trivial | rfl) | (refine ⟨?_, ?_, ?_, ?_, ?_, ?_, ?_⟩ <;> first | omega | assumption | trivial | rfl) | (refine ⟨?_, ?_, ?_, ?_, ?_, ?_, ?_, ?_⟩ <;> first | omega | assumption | trivial | rfl)) (show (6 - (0 : Int32).toInt).toNat < 66 from by omega)
        have hI10 : 0 ≤ y4_161.toInt := hI10
        unfold S_X7_digest_161
        refine ok_lt (fun c11 => ?_) (fun c11 => ?_)
        · refine ok_o14 (sp_X7_isSound f_t_forms c_t_row_taps c_t_rows_first c_t_rows_ofOne c_t_rows_ofOther c_t_rows_second c_t_rows_secondOfOne c_t_rows_secondOfOther c_t_factors_parts_size f_t_factors_parts_held c_t_found_size f_t_found_held c_t_foundOtherwise_size f_t_foundOtherwise_held f_t_foundOtherwise_before (by first | omega | assumption | trivial) (by first | omega | assumption | trivial) (by first | omega | assumption | trivial) (by first | omega | assumption | trivial) (by first | omega | assumption | trivial) (by first | omega | assumption | trivial)) (fun r187 c_t_rows_first_187 c_t_rows_ofOne_187 c_t_rows_ofOther_187 c_t_rows_second_187 c_t_rows_secondOfOne_187 c_t_rows_secondOfOther_187 c_t_factors_parts_size_187 f_t_factors_parts_held_187 c_t_found_size_187 f_t_found_held_187 c_t_foundOtherwise_size_187 f_t_foundOtherwise_held_187 f_t_foundOtherwise_before_187 h12 => ?_)
          have h12 : (r187.toInt = 0 ∨ r187.toInt = 1) ∧ 0 ≤ c_t_factors_parts_size_187.toInt ∧ c_t_factors_parts_size_187.toInt ≤ 12 ∧ 0 ≤ c_t_found_size_187.toInt ∧ c_t_found_size_187.toInt ≤ 12 ∧ 0 ≤ c_t_foundOtherwise_size_187.toInt ∧ c_t_foundOtherwise_size_187.toInt ≤ 12 := h12
          refine ok_eq (fun c13 => ?_) (fun c13 => ?_)
          · refine ok_o (sp_X7_mixed y1_161 (0 : Int64) ) (fun r198 h14 => ?_)
            exact ok_s (show 0 = 0 ∧ 0 ≤ c_t_factors_parts_size_187.toInt ∧ c_t_factors_parts_size_187.toInt ≤ 12 ∧ 0 ≤ c_t_found_size_187.toInt ∧ c_t_found_size_187.toInt ≤ 12 ∧ 0 ≤ c_t_foundOtherwise_size_187.toInt ∧ c_t_foundOtherwise_size_187.toInt ≤ 12 from by first | omega | assumption | trivial | (refine ⟨?_, ?_⟩ <;> first | omega | assumption | trivial | rfl) | (refine ⟨?_, ?_, ?_⟩ <;> first | omega | assumption | trivial | rfl) | (refine ⟨?_, ?_, ?_, ?_⟩ <;> first | omega | assumption | trivial | rfl) | (refine ⟨?_, ?_, ?_, ?_, ?_⟩ <;> first | omega | assumption | trivial | rfl) | (refine ⟨?_, ?_, ?_, ?_, ?_, ?_⟩ <;> first | omega | assumption | trivial | rfl) | (refine ⟨?_, ?_, ?_, ?_, ?_, ?_, ?_⟩ <;> first | omega | assumption | trivial | rfl) | (refine ⟨?_, ?_, ?_, ?_, ?_, ?_, ?_, ?_⟩ <;> first | omega | assumption | trivial | rfl))
          · refine ok_o (sp_X7_mixed y1_161 (1 : Int64) ) (fun r198_2 h15 => ?_)
            exact ok_s (show 0 = 0 ∧ 0 ≤ c_t_factors_parts_size_187.toInt ∧ c_t_factors_parts_size_187.toInt ≤ 12 ∧ 0 ≤ c_t_found_size_187.toInt ∧ c_t_found_size_187.toInt ≤ 12 ∧ 0 ≤ c_t_foundOtherwise_size_187.toInt ∧ c_t_foundOtherwise_size_187.toInt ≤ 12 from by first | omega | assumption | trivial | (refine ⟨?_, ?_⟩ <;> first | omega | assumption | trivial | rfl) | (refine ⟨?_, ?_, ?_⟩ <;> first | omega | assumption | trivial | rfl) | (refine ⟨?_, ?_, ?_, ?_⟩ <;> first | omega | assumption | trivial | rfl) | (refine ⟨?_, ?_, ?_, ?_, ?_⟩ <;> first | omega | assumption | trivial | rfl) | (refine ⟨?_, ?_, ?_, ?_, ?_, ?_⟩ <;> first | omega | assumption | trivial | rfl) | (refine ⟨?_, ?_, ?_, ?_, ?_, ?_, ?_⟩ <;> first | omega | assumption | trivial | rfl) | (refine ⟨?_, ?_, ?_, ?_, ?_, ?_, ?_, ?_⟩ <;> first | omega | assumption | trivial | rfl))
        · refine ok_o2 (sp_X7_house c_t_acts c_t_refusals c_t_knocks f_t_forms c_t_roll_size c_t_row_taps y4_161 ) (fun xc171 r171 h16 => ?_)
          have h16 : (xc171 = 0 ∧ 0 ≤ y4_161.toInt ∧ y4_161.toInt ≤ 5) ∨ (xc171 = 2 ∧ (y4_161.toInt < 0 ∨ 5 < y4_161.toInt)) := h16
          refine ok_i (fun c17 => ?_) (fun c17 => ?_)
          · refine ok_o (sp_X7_mixed y1_161 r171.toInt64 ) (fun r175 h18 => ?_)
            refine ok_bx (fun x4_179 e_x4_179 => ?_)
            try have t_x4_179 : x4_179.toInt = y4_161.toInt + 1 := by rw [e_x4_179]; exact addT1 (show (1 : Int32).toInt = 1 from by decide) (by omega) (by omega)
            exact hih10 r175 x4_179 (show 0 ≤ x4_179.toInt from by first | omega | assumption | trivial | (refine ⟨?_, ?_⟩ <;> first | omega | assumption | trivial | rfl) | (refine ⟨?_, ?_, ?_⟩ <;> first | omega | assumption | trivial | rfl) | (refine ⟨?_, ?_, ?_, ?_⟩ <;> first | omega | assumption | trivial | rfl) | (refine ⟨?_, ?_, ?_, ?_, ?_⟩ <;> first | omega | assumption | trivial | rfl) | (refine ⟨?_, ?_, ?_, ?_, ?_, ?_⟩ <;> first | omega | assumption | trivial | rfl) | (refine ⟨?_, ?_, ?_, ?_, ?_, ?_, ?_⟩ <;> first | omega | assumption | trivial | rfl) | (refine ⟨?_, ?_, ?_, ?_, ?_, ?_, ?_, ?_⟩ <;> first | omega | assumption | trivial | rfl)) (show (6 - x4_179.toInt).toNat < (6 - y4_161.toInt).toNat from by omega)
          · exact ok_s (show xc171 = 0 ∧ 0 ≤ c_t_factors_parts_size.toInt ∧ c_t_factors_parts_size.toInt ≤ 12 ∧ 0 ≤ c_t_found_size.toInt ∧ c_t_found_size.toInt ≤ 12 ∧ 0 ≤ c_t_foundOtherwise_size.toInt ∧ c_t_foundOtherwise_size.toInt ≤ 12 from by first | omega | assumption | trivial | (refine ⟨?_, ?_⟩ <;> first | omega | assumption | trivial | rfl) | (refine ⟨?_, ?_, ?_⟩ <;> first | omega | assumption | trivial | rfl) | (refine ⟨?_, ?_, ?_, ?_⟩ <;> first | omega | assumption | trivial | rfl) | (refine ⟨?_, ?_, ?_, ?_, ?_⟩ <;> first | omega | assumption | trivial | rfl) | (refine ⟨?_, ?_, ?_, ?_, ?_, ?_⟩ <;> first | omega | assumption | trivial | rfl) | (refine ⟨?_, ?_, ?_, ?_, ?_, ?_, ?_⟩ <;> first | omega | assumption | trivial | rfl) | (refine ⟨?_, ?_, ?_, ?_, ?_, ?_, ?_, ?_⟩ <;> first | omega | assumption | trivial | rfl))
      · refine ok_o (sp_X0_hasOne c_t_row_cells y4_121 ) (fun r137 h19 => ?_)
        have h19 : r137.toInt = 0 ∨ r137.toInt = 1 := h19
        refine ok_eq (fun c20 => ?_) (fun c20 => ?_)
        · first | unfold J_X7_digest_148 | skip
          refine ok_o (sp_X7_mixed y1_121 (0 : Int64) ) (fun r148 h21 => ?_)
          refine ok_bx (fun x4_152 e_x4_152 => ?_)
          try have t_x4_152 : x4_152.toInt = y4_121.toInt + 1 := by rw [e_x4_152]; exact addT1 (show (1 : Int32).toInt = 1 from by decide) (by omega) (by omega)
          exact hih8 r148 x4_152 (show 0 ≤ x4_152.toInt from by first | omega | assumption | trivial | (refine ⟨?_, ?_⟩ <;> first | omega | assumption | trivial | rfl) | (refine ⟨?_, ?_, ?_⟩ <;> first | omega | assumption | trivial | rfl) | (refine ⟨?_, ?_, ?_, ?_⟩ <;> first | omega | assumption | trivial | rfl) | (refine ⟨?_, ?_, ?_, ?_, ?_⟩ <;> first | omega | assumption | trivial | rfl) | (refine ⟨?_, ?_, ?_, ?_, ?_, ?_⟩ <;> first | omega | assumption | trivial | rfl) | (refine ⟨?_, ?_, ?_, ?_, ?_, ?_, ?_⟩ <;> first | omega | assumption | trivial | rfl) | (refine ⟨?_, ?_, ?_, ?_, ?_, ?_, ?_, ?_⟩ <;> first | omega | assumption | trivial | rfl)) (show (r114.toInt - x4_152.toInt + 1).toNat < (r114.toInt - y4_121.toInt + 1).toNat from by omega)
        · first | unfold J_X7_digest_148 | skip
          refine ok_o (sp_X7_mixed y1_121 (1 : Int64) ) (fun r148_2 h22 => ?_)
          refine ok_bx (fun x4_152_2 e_x4_152_2 => ?_)
          try have t_x4_152_2 : x4_152_2.toInt = y4_121.toInt + 1 := by rw [e_x4_152_2]; exact addT1 (show (1 : Int32).toInt = 1 from by decide) (by omega) (by omega)
          exact hih8 r148_2 x4_152_2 (show 0 ≤ x4_152_2.toInt from by first | omega | assumption | trivial | (refine ⟨?_, ?_⟩ <;> first | omega | assumption | trivial | rfl) | (refine ⟨?_, ?_, ?_⟩ <;> first | omega | assumption | trivial | rfl) | (refine ⟨?_, ?_, ?_, ?_⟩ <;> first | omega | assumption | trivial | rfl) | (refine ⟨?_, ?_, ?_, ?_, ?_⟩ <;> first | omega | assumption | trivial | rfl) | (refine ⟨?_, ?_, ?_, ?_, ?_, ?_⟩ <;> first | omega | assumption | trivial | rfl) | (refine ⟨?_, ?_, ?_, ?_, ?_, ?_, ?_⟩ <;> first | omega | assumption | trivial | rfl) | (refine ⟨?_, ?_, ?_, ?_, ?_, ?_, ?_, ?_⟩ <;> first | omega | assumption | trivial | rfl)) (show (r114.toInt - x4_152_2.toInt + 1).toNat < (r114.toInt - y4_121.toInt + 1).toNat from by omega)
    · refine ok_o (sp_X3_at c_t_roll_size f_t_roll_held y3_44 (by first | omega | assumption | trivial) (by first | omega | assumption | trivial)) (fun r61 h23 => ?_)
      refine ok_o (sp_X0_degreeOf r61 ) (fun r64 h24 => ?_)
      have h24 : r64.toInt = DG r61 ∧ -1 ≤ r64.toInt ∧ r64.toInt ≤ 63 := h24
      refine ok_o (sp_X7_mixed y1_44 r64.toInt64 ) (fun r68 h25 => ?_)
      refine ok_o (sp_X3_at c_t_roll_size f_t_roll_held y3_44 (by first | omega | assumption | trivial) (by first | omega | assumption | trivial)) (fun r78 h26 => ?_)
      refine ok_o (sp_X0_onesOf r78 ) (fun r81 h27 => ?_)
      refine ok_o (sp_X7_mixed r68 r81.toInt64 ) (fun r85 h28 => ?_)
      refine ok_bx (fun x3_89 e_x3_89 => ?_)
      try have t_x3_89 : x3_89.toInt = y3_44.toInt + 1 := by rw [e_x3_89]; exact addT1 (show (1 : Int32).toInt = 1 from by decide) (by omega) (by omega)
      exact hih4 r85 x3_89 (show 0 ≤ x3_89.toInt from by first | omega | assumption | trivial | (refine ⟨?_, ?_⟩ <;> first | omega | assumption | trivial | rfl) | (refine ⟨?_, ?_, ?_⟩ <;> first | omega | assumption | trivial | rfl) | (refine ⟨?_, ?_, ?_, ?_⟩ <;> first | omega | assumption | trivial | rfl) | (refine ⟨?_, ?_, ?_, ?_, ?_⟩ <;> first | omega | assumption | trivial | rfl) | (refine ⟨?_, ?_, ?_, ?_, ?_, ?_⟩ <;> first | omega | assumption | trivial | rfl) | (refine ⟨?_, ?_, ?_, ?_, ?_, ?_, ?_⟩ <;> first | omega | assumption | trivial | rfl) | (refine ⟨?_, ?_, ?_, ?_, ?_, ?_, ?_, ?_⟩ <;> first | omega | assumption | trivial | rfl)) (show (c_t_roll_size.toInt - x3_89.toInt + 1).toNat < (c_t_roll_size.toInt - y3_44.toInt + 1).toNat from by omega)
  · refine ok_c (ixo (by omega) (by omega)) ?_
    refine ok_o (sp_X7_digestOfForm y1_6 (f_t_forms y3_6.toNatClampNeg) ) (fun r19 h29 => ?_)
    refine ok_bx (fun x3_23 e_x3_23 => ?_)
    try have t_x3_23 : x3_23.toInt = y3_6.toInt + 1 := by rw [e_x3_23]; exact addT1 (show (1 : Int32).toInt = 1 from by decide) (by omega) (by omega)
    exact hih1 r19 x3_23 (show 0 ≤ x3_23.toInt from by first | omega | assumption | trivial | (refine ⟨?_, ?_⟩ <;> first | omega | assumption | trivial | rfl) | (refine ⟨?_, ?_, ?_⟩ <;> first | omega | assumption | trivial | rfl) | (refine ⟨?_, ?_, ?_, ?_⟩ <;> first | omega | assumption | trivial | rfl) | (refine ⟨?_, ?_, ?_, ?_, ?_⟩ <;> first | omega | assumption | trivial | rfl) | (refine ⟨?_, ?_, ?_, ?_, ?_, ?_⟩ <;> first | omega | assumption | trivial | rfl) | (refine ⟨?_, ?_, ?_, ?_, ?_, ?_, ?_⟩ <;> first | omega | assumption | trivial | rfl) | (refine ⟨?_, ?_, ?_, ?_, ?_, ?_, ?_, ?_⟩ <;> first | omega | assumption | trivial | rfl)) (show (6 - x3_23.toInt + 1).toNat < (6 - y3_6.toInt + 1).toNat from by omega)
set_option maxHeartbeats 1000000 in
theorem sp_J6_numberOfTrailingZeros_0f7a4 (p0 : Int32)  : ok (F_J6_numberOfTrailingZeros_0f7a4 p0) (fun r => True) := by
  have lm132 : (-1 : Int32).toInt = -1 := by decide
  have l032 : (0 : Int32).toInt = 0 := by decide
  have l132 : (1 : Int32).toInt = 1 := by decide
  have l232 : (2 : Int32).toInt = 2 := by decide
  have l432 : (4 : Int32).toInt = 4 := by decide
  have l832 : (8 : Int32).toInt = 8 := by decide
  have l1632 : (16 : Int32).toInt = 16 := by decide
  have l3232 : (32 : Int32).toInt = 32 := by decide
  have l25632 : (256 : Int32).toInt = 256 := by decide
  have l6553632 : (65536 : Int32).toInt = 65536 := by decide
  unfold F_J6_numberOfTrailingZeros_0f7a4
  refine ok_bx (fun x0_7 e_x0_7 => ?_)
  refine ok_lt (fun c1 => ?_) (fun c1 => ?_)
  · refine ok_le (fun c2 => ?_) (fun c2 => ?_)
    · first | unfold J_J6_numberOfTrailingZeros_0f7a4_34 | skip
      refine ok_le (fun c3 => ?_) (fun c3 => ?_)
      · first | unfold J_J6_numberOfTrailingZeros_0f7a4_49 | skip
        refine ok_le (fun c4 => ?_) (fun c4 => ?_)
        · first | unfold J_J6_numberOfTrailingZeros_0f7a4_62 | skip
          refine ok_le (fun c5 => ?_) (fun c5 => ?_)
          · first | unfold J_J6_numberOfTrailingZeros_0f7a4_74 | skip
            exact ok_s trivial
          · refine ok_bx (fun x1_67 e_x1_67 => ?_)
            refine ok_bx (fun x0_73 e_x0_73 => ?_)
            first | unfold J_J6_numberOfTrailingZeros_0f7a4_74 | skip
            exact ok_s trivial
        · refine ok_bx (fun x1_55 e_x1_55 => ?_)
          refine ok_bx (fun x0_61 e_x0_61 => ?_)
          first | unfold J_J6_numberOfTrailingZeros_0f7a4_62 | skip
          refine ok_le (fun c6 => ?_) (fun c6 => ?_)
          · first | unfold J_J6_numberOfTrailingZeros_0f7a4_74 | skip
            exact ok_s trivial
          · refine ok_bx (fun x1_67_2 e_x1_67_2 => ?_)
            try have t_x1_67_2 : x1_67_2.toInt = x1_55.toInt + 2 := by rw [e_x1_67_2]; exact addT1 (show (2 : Int32).toInt = 2 from by decide) (by omega) (by omega)
            refine ok_bx (fun x0_73_2 e_x0_73_2 => ?_)
            first | unfold J_J6_numberOfTrailingZeros_0f7a4_74 | skip
            exact ok_s trivial
      · refine ok_bx (fun x1_41 e_x1_41 => ?_)
        refine ok_bx (fun x0_48 e_x0_48 => ?_)
        first | unfold J_J6_numberOfTrailingZeros_0f7a4_49 | skip
        refine ok_le (fun c7 => ?_) (fun c7 => ?_)
        · first | unfold J_J6_numberOfTrailingZeros_0f7a4_62 | skip
          refine ok_le (fun c8 => ?_) (fun c8 => ?_)
          · first | unfold J_J6_numberOfTrailingZeros_0f7a4_74 | skip
            exact ok_s trivial
          · refine ok_bx (fun x1_67_3 e_x1_67_3 => ?_)
            try have t_x1_67_3 : x1_67_3.toInt = x1_41.toInt + 2 := by rw [e_x1_67_3]; exact addT1 (show (2 : Int32).toInt = 2 from by decide) (by omega) (by omega)
            refine ok_bx (fun x0_73_3 e_x0_73_3 => ?_)
            first | unfold J_J6_numberOfTrailingZeros_0f7a4_74 | skip
            exact ok_s trivial
        · refine ok_bx (fun x1_55_2 e_x1_55_2 => ?_)
          try have t_x1_55_2 : x1_55_2.toInt = x1_41.toInt + 4 := by rw [e_x1_55_2]; exact addT1 (show (4 : Int32).toInt = 4 from by decide) (by omega) (by omega)
          refine ok_bx (fun x0_61_2 e_x0_61_2 => ?_)
          first | unfold J_J6_numberOfTrailingZeros_0f7a4_62 | skip
          refine ok_le (fun c9 => ?_) (fun c9 => ?_)
          · first | unfold J_J6_numberOfTrailingZeros_0f7a4_74 | skip
            exact ok_s trivial
          · refine ok_bx (fun x1_67_4 e_x1_67_4 => ?_)
            try have t_x1_67_4 : x1_67_4.toInt = x1_55_2.toInt + 2 := by rw [e_x1_67_4]; exact addT1 (show (2 : Int32).toInt = 2 from by decide) (by omega) (by omega)
            refine ok_bx (fun x0_73_4 e_x0_73_4 => ?_)
            first | unfold J_J6_numberOfTrailingZeros_0f7a4_74 | skip
            exact ok_s trivial
    · refine ok_bx (fun x1_26 e_x1_26 => ?_)
      refine ok_bx (fun x0_33 e_x0_33 => ?_)
      first | unfold J_J6_numberOfTrailingZeros_0f7a4_34 | skip
      refine ok_le (fun c10 => ?_) (fun c10 => ?_)
      · first | unfold J_J6_numberOfTrailingZeros_0f7a4_49 | skip
        refine ok_le (fun c11 => ?_) (fun c11 => ?_)
        · first | unfold J_J6_numberOfTrailingZeros_0f7a4_62 | skip
          refine ok_le (fun c12 => ?_) (fun c12 => ?_)
          · first | unfold J_J6_numberOfTrailingZeros_0f7a4_74 | skip
            exact ok_s trivial
          · refine ok_bx (fun x1_67_5 e_x1_67_5 => ?_)
            try have t_x1_67_5 : x1_67_5.toInt = x1_26.toInt + 2 := by rw [e_x1_67_5]; exact addT1 (show (2 : Int32).toInt = 2 from by decide) (by omega) (by omega)
            refine ok_bx (fun x0_73_5 e_x0_73_5 => ?_)
            first | unfold J_J6_numberOfTrailingZeros_0f7a4_74 | skip
            exact ok_s trivial
        · refine ok_bx (fun x1_55_3 e_x1_55_3 => ?_)
          try have t_x1_55_3 : x1_55_3.toInt = x1_26.toInt + 4 := by rw [e_x1_55_3]; exact addT1 (show (4 : Int32).toInt = 4 from by decide) (by omega) (by omega)
          refine ok_bx (fun x0_61_3 e_x0_61_3 => ?_)
          first | unfold J_J6_numberOfTrailingZeros_0f7a4_62 | skip
          refine ok_le (fun c13 => ?_) (fun c13 => ?_)
          · first | unfold J_J6_numberOfTrailingZeros_0f7a4_74 | skip
            exact ok_s trivial
          · refine ok_bx (fun x1_67_6 e_x1_67_6 => ?_)
            try have t_x1_67_6 : x1_67_6.toInt = x1_55_3.toInt + 2 := by rw [e_x1_67_6]; exact addT1 (show (2 : Int32).toInt = 2 from by decide) (by omega) (by omega)
            refine ok_bx (fun x0_73_6 e_x0_73_6 => ?_)
            first | unfold J_J6_numberOfTrailingZeros_0f7a4_74 | skip
            exact ok_s trivial
      · refine ok_bx (fun x1_41_2 e_x1_41_2 => ?_)
        try have t_x1_41_2 : x1_41_2.toInt = x1_26.toInt + 8 := by rw [e_x1_41_2]; exact addT1 (show (8 : Int32).toInt = 8 from by decide) (by omega) (by omega)
        refine ok_bx (fun x0_48_2 e_x0_48_2 => ?_)
        first | unfold J_J6_numberOfTrailingZeros_0f7a4_49 | skip
        refine ok_le (fun c14 => ?_) (fun c14 => ?_)
        · first | unfold J_J6_numberOfTrailingZeros_0f7a4_62 | skip
          refine ok_le (fun c15 => ?_) (fun c15 => ?_)
          · first | unfold J_J6_numberOfTrailingZeros_0f7a4_74 | skip
            exact ok_s trivial
          · refine ok_bx (fun x1_67_7 e_x1_67_7 => ?_)
            try have t_x1_67_7 : x1_67_7.toInt = x1_41_2.toInt + 2 := by rw [e_x1_67_7]; exact addT1 (show (2 : Int32).toInt = 2 from by decide) (by omega) (by omega)
            refine ok_bx (fun x0_73_7 e_x0_73_7 => ?_)
            first | unfold J_J6_numberOfTrailingZeros_0f7a4_74 | skip
            exact ok_s trivial
        · refine ok_bx (fun x1_55_4 e_x1_55_4 => ?_)
          try have t_x1_55_4 : x1_55_4.toInt = x1_41_2.toInt + 4 := by rw [e_x1_55_4]; exact addT1 (show (4 : Int32).toInt = 4 from by decide) (by omega) (by omega)
          refine ok_bx (fun x0_61_4 e_x0_61_4 => ?_)
          first | unfold J_J6_numberOfTrailingZeros_0f7a4_62 | skip
          refine ok_le (fun c16 => ?_) (fun c16 => ?_)
          · first | unfold J_J6_numberOfTrailingZeros_0f7a4_74 | skip
            exact ok_s trivial
          · refine ok_bx (fun x1_67_8 e_x1_67_8 => ?_)
            try have t_x1_67_8 : x1_67_8.toInt = x1_55_4.toInt + 2 := by rw [e_x1_67_8]; exact addT1 (show (2 : Int32).toInt = 2 from by decide) (by omega) (by omega)
            refine ok_bx (fun x0_73_8 e_x0_73_8 => ?_)
            first | unfold J_J6_numberOfTrailingZeros_0f7a4_74 | skip
            exact ok_s trivial
  · exact ok_s trivial
set_option maxHeartbeats 1000000 in
theorem sp_J13_numberOfTrailingZeros_95d88 (p0 : Int64)  : ok (F_J13_numberOfTrailingZeros_95d88 p0) (fun r => True) := by
  have l032 : (0 : Int32).toInt = 0 := by decide
  have l3232 : (32 : Int32).toInt = 32 := by decide
  unfold F_J13_numberOfTrailingZeros_95d88
  refine ok_bx (fun x2_2 e_x2_2 => ?_)
  have t_x2_2 : x2_2.toInt = p0.toInt32.toInt := by rw [e_x2_2]
  refine ok_eq (fun c1 => ?_) (fun c1 => ?_)
  · refine ok_o (sp_J6_numberOfTrailingZeros_0f7a4 (((p0.toUInt64 >>> ((32 : Int32).toInt64.toUInt64 &&& Int64.toUInt64 63)).toInt64).toInt32) ) (fun r14 h2 => ?_)
    exact ok_s trivial
  · refine ok_o (sp_J6_numberOfTrailingZeros_0f7a4 x2_2 ) (fun r22 h3 => ?_)
    exact ok_s trivial
set_option maxHeartbeats 1000000 in
theorem sp_X9_lowestOf (p0 : Int64)  : ok (F_X9_lowestOf p0) (fun r => True) := by
  have lm132 : (-1 : Int32).toInt = -1 := by decide
  have l064 : (0 : Int64).toInt = 0 := by decide
  unfold F_X9_lowestOf
  have z_c1 := DG_z p0
  refine ok_eqL (fun c1 => ?_) (fun c1 => ?_)
  · exact ok_s trivial
  · refine ok_o (sp_J13_numberOfTrailingZeros_95d88 p0 ) (fun r11 h2 => ?_)
    exact ok_s trivial
set_option maxHeartbeats 1000000 in
theorem sp_X9_commonOf (p0 : Int64) (p1 : Int64) (hp0 : DG p0 ≤ 39) (hp1 : DG p1 ≤ 39) : ok (F_X9_commonOf p0 p1) (fun r => DG r ≤ 39) := by
  have l064 : (0 : Int64).toInt = 0 := by decide
  have gg := DG_63 p1
  unfold F_X9_commonOf
  refine ok_L2 (fun y4_6 y6_6 => DG y4_6 ≤ 39 ∧ DG y6_6 ≤ 39) (fun y4_6 y6_6 => (DG y6_6 + 1).toNat) (fun ih6 y4_6 y6_6 hI1 hih1 => ?_) 20000 p0 p1 (show DG p0 ≤ 39 ∧ DG p1 ≤ 39 from by first | omega | assumption | trivial | (refine ⟨?_, ?_⟩ <;> first | omega | assumption | trivial | rfl) | (refine ⟨?_, ?_, ?_⟩ <;> first | omega | assumption | trivial | rfl) | (refine ⟨?_, ?_, ?_, ?_⟩ <;> first | omega | assumption | trivial | rfl) | (refine ⟨?_, ?_, ?_, ?_, ?_⟩ <;> first | omega | assumption | trivial | rfl) | (refine ⟨?_, ?_, ?_, ?_, ?_, ?_⟩ <;> first | omega | assumption | trivial | rfl) | (refine ⟨?_, ?_, ?_, ?_, ?_, ?_, ?_⟩ <;> first | omega | assumption | trivial | rfl) | (refine ⟨?_, ?_, ?_, ?_, ?_, ?_, ?_, ?_⟩ <;> first | omega | assumption | trivial | rfl)) (show (DG p1 + 1).toNat < 20000 from by omega)
  have hI1 : DG y4_6 ≤ 39 ∧ DG y6_6 ≤ 39 := hI1
  unfold S_X9_commonOf_6
  have gy := DG_ge y6_6
  have z_c2 := DG_z y6_6
  refine ok_eqL (fun c2 => ?_) (fun c2 => ?_)
  · exact ok_s (show DG y4_6 ≤ 39 from by first | omega | assumption | trivial | (refine ⟨?_, ?_⟩ <;> first | omega | assumption | trivial | rfl) | (refine ⟨?_, ?_, ?_⟩ <;> first | omega | assumption | trivial | rfl) | (refine ⟨?_, ?_, ?_, ?_⟩ <;> first | omega | assumption | trivial | rfl) | (refine ⟨?_, ?_, ?_, ?_, ?_⟩ <;> first | omega | assumption | trivial | rfl) | (refine ⟨?_, ?_, ?_, ?_, ?_, ?_⟩ <;> first | omega | assumption | trivial | rfl) | (refine ⟨?_, ?_, ?_, ?_, ?_, ?_, ?_⟩ <;> first | omega | assumption | trivial | rfl) | (refine ⟨?_, ?_, ?_, ?_, ?_, ?_, ?_, ?_⟩ <;> first | omega | assumption | trivial | rfl))
  · refine ok_o (sp_X9_restOf y4_6 y6_6 (by first | omega | assumption | trivial | exact wt_of (by assumption) (by omega)) (by first | omega | assumption | trivial | exact wt_of (by assumption) (by omega)) (by first | omega | assumption | trivial | exact wt_of (by assumption) (by omega))) (fun r17 h3 => ?_)
    have h3 : -1 ≤ DG r17 ∧ DG r17 < DG y6_6 ∧ DG r17 ≤ DG y4_6 := h3
    exact hih1 y6_6 r17 (show DG y6_6 ≤ 39 ∧ DG r17 ≤ 39 from by first | omega | assumption | trivial | (refine ⟨?_, ?_⟩ <;> first | omega | assumption | trivial | rfl) | (refine ⟨?_, ?_, ?_⟩ <;> first | omega | assumption | trivial | rfl) | (refine ⟨?_, ?_, ?_, ?_⟩ <;> first | omega | assumption | trivial | rfl) | (refine ⟨?_, ?_, ?_, ?_, ?_⟩ <;> first | omega | assumption | trivial | rfl) | (refine ⟨?_, ?_, ?_, ?_, ?_, ?_⟩ <;> first | omega | assumption | trivial | rfl) | (refine ⟨?_, ?_, ?_, ?_, ?_, ?_, ?_⟩ <;> first | omega | assumption | trivial | rfl) | (refine ⟨?_, ?_, ?_, ?_, ?_, ?_, ?_, ?_⟩ <;> first | omega | assumption | trivial | rfl)) (show (DG r17 + 1).toNat < (DG y6_6 + 1).toNat from by omega)
set_option maxHeartbeats 1000000 in
theorem sp_X9_isDivided (p0 : Int64) (p1 : Int64) (hp0 : DG p0 ≤ 39) (hp1 : DG p1 ≤ 39) : ok (F_X9_isDivided p0 p1) (fun r => r.toInt = 0 ∨ r.toInt = 1) := by
  have l032 : (0 : Int32).toInt = 0 := by decide
  have l064 : (0 : Int64).toInt = 0 := by decide
  have l132 : (1 : Int32).toInt = 1 := by decide
  unfold F_X9_isDivided
  have z_c1 := DG_z p1
  refine ok_eqL (fun c1 => ?_) (fun c1 => ?_)
  · have z_c2 := DG_z p0
    refine ok_eqL (fun c2 => ?_) (fun c2 => ?_)
    · exact ok_s (show (1 : Int32).toInt = 0 ∨ (1 : Int32).toInt = 1 from by first | omega | assumption | trivial | (refine ⟨?_, ?_⟩ <;> first | omega | assumption | trivial | rfl) | (refine ⟨?_, ?_, ?_⟩ <;> first | omega | assumption | trivial | rfl) | (refine ⟨?_, ?_, ?_, ?_⟩ <;> first | omega | assumption | trivial | rfl) | (refine ⟨?_, ?_, ?_, ?_, ?_⟩ <;> first | omega | assumption | trivial | rfl) | (refine ⟨?_, ?_, ?_, ?_, ?_, ?_⟩ <;> first | omega | assumption | trivial | rfl) | (refine ⟨?_, ?_, ?_, ?_, ?_, ?_, ?_⟩ <;> first | omega | assumption | trivial | rfl) | (refine ⟨?_, ?_, ?_, ?_, ?_, ?_, ?_, ?_⟩ <;> first | omega | assumption | trivial | rfl))
    · exact ok_s (show (0 : Int32).toInt = 0 ∨ (0 : Int32).toInt = 1 from by first | omega | assumption | trivial | (refine ⟨?_, ?_⟩ <;> first | omega | assumption | trivial | rfl) | (refine ⟨?_, ?_, ?_⟩ <;> first | omega | assumption | trivial | rfl) | (refine ⟨?_, ?_, ?_, ?_⟩ <;> first | omega | assumption | trivial | rfl) | (refine ⟨?_, ?_, ?_, ?_, ?_⟩ <;> first | omega | assumption | trivial | rfl) | (refine ⟨?_, ?_, ?_, ?_, ?_, ?_⟩ <;> first | omega | assumption | trivial | rfl) | (refine ⟨?_, ?_, ?_, ?_, ?_, ?_, ?_⟩ <;> first | omega | assumption | trivial | rfl) | (refine ⟨?_, ?_, ?_, ?_, ?_, ?_, ?_, ?_⟩ <;> first | omega | assumption | trivial | rfl))
  · refine ok_o (sp_X9_restOf p0 p1 (by first | omega | assumption | trivial | exact wt_of (by assumption) (by omega)) (by first | omega | assumption | trivial | exact wt_of (by assumption) (by omega)) (by first | omega | assumption | trivial | exact wt_of (by assumption) (by omega))) (fun r22 h3 => ?_)
    have h3 : -1 ≤ DG r22 ∧ DG r22 < DG p1 ∧ DG r22 ≤ DG p0 := h3
    have z_c4 := DG_z r22
    refine ok_eqL (fun c4 => ?_) (fun c4 => ?_)
    · exact ok_s (show (1 : Int32).toInt = 0 ∨ (1 : Int32).toInt = 1 from by first | omega | assumption | trivial | (refine ⟨?_, ?_⟩ <;> first | omega | assumption | trivial | rfl) | (refine ⟨?_, ?_, ?_⟩ <;> first | omega | assumption | trivial | rfl) | (refine ⟨?_, ?_, ?_, ?_⟩ <;> first | omega | assumption | trivial | rfl) | (refine ⟨?_, ?_, ?_, ?_, ?_⟩ <;> first | omega | assumption | trivial | rfl) | (refine ⟨?_, ?_, ?_, ?_, ?_, ?_⟩ <;> first | omega | assumption | trivial | rfl) | (refine ⟨?_, ?_, ?_, ?_, ?_, ?_, ?_⟩ <;> first | omega | assumption | trivial | rfl) | (refine ⟨?_, ?_, ?_, ?_, ?_, ?_, ?_, ?_⟩ <;> first | omega | assumption | trivial | rfl))
    · exact ok_s (show (0 : Int32).toInt = 0 ∨ (0 : Int32).toInt = 1 from by first | omega | assumption | trivial | (refine ⟨?_, ?_⟩ <;> first | omega | assumption | trivial | rfl) | (refine ⟨?_, ?_, ?_⟩ <;> first | omega | assumption | trivial | rfl) | (refine ⟨?_, ?_, ?_, ?_⟩ <;> first | omega | assumption | trivial | rfl) | (refine ⟨?_, ?_, ?_, ?_, ?_⟩ <;> first | omega | assumption | trivial | rfl) | (refine ⟨?_, ?_, ?_, ?_, ?_, ?_⟩ <;> first | omega | assumption | trivial | rfl) | (refine ⟨?_, ?_, ?_, ?_, ?_, ?_, ?_⟩ <;> first | omega | assumption | trivial | rfl) | (refine ⟨?_, ?_, ?_, ?_, ?_, ?_, ?_, ?_⟩ <;> first | omega | assumption | trivial | rfl))
set_option maxHeartbeats 1000000 in
theorem sp_X9_turnedOf (p0 : Int64) (hp0 : DG p0 ≤ 39) : ok (F_X9_turnedOf p0) (fun r => DG r ≤ 39) := by
  have l032 : (0 : Int32).toInt = 0 := by decide
  have l064 : (0 : Int64).toInt = 0 := by decide
  have l132 : (1 : Int32).toInt = 1 := by decide
  have l164 : (1 : Int64).toInt = 1 := by decide
  have g0 := DG_0
  unfold F_X9_turnedOf
  refine ok_o (sp_X9_degreeOf p0 ) (fun r3 h1 => ?_)
  have h1 : r3.toInt = DG p0 ∧ -1 ≤ r3.toInt ∧ r3.toInt ≤ 63 := h1
  refine ok_L2 (fun y2_11 y5_11 => 0 ≤ y5_11.toInt ∧ DG y2_11 ≤ 39) (fun y2_11 y5_11 => (r3.toInt - y5_11.toInt + 1).toNat) (fun ih11 y2_11 y5_11 hI2 hih2 => ?_) 20000 (0 : Int64) (0 : Int32) (show 0 ≤ (0 : Int32).toInt ∧ DG (0 : Int64) ≤ 39 from by first | omega | assumption | trivial | (refine ⟨?_, ?_⟩ <;> first | omega | assumption | trivial | rfl) | (refine ⟨?_, ?_, ?_⟩ <;> first | omega | assumption | trivial | rfl) | (refine ⟨?_, ?_, ?_, ?_⟩ <;> first | omega | assumption | trivial | rfl) | (refine ⟨?_, ?_, ?_, ?_, ?_⟩ <;> first | omega | assumption | trivial | rfl) | (refine ⟨?_, ?_, ?_, ?_, ?_, ?_⟩ <;> first | omega | assumption | trivial | rfl) | (refine ⟨?_, ?_, ?_, ?_, ?_, ?_, ?_⟩ <;> first | omega | assumption | trivial | rfl) | (refine ⟨?_, ?_, ?_, ?_, ?_, ?_, ?_, ?_⟩ <;> first | omega | assumption | trivial | rfl)) (show (r3.toInt - (0 : Int32).toInt + 1).toNat < 20000 from by omega)
  have hI2 : 0 ≤ y5_11.toInt ∧ DG y2_11 ≤ 39 := hI2
  unfold S_X9_turnedOf_11
  refine ok_lt (fun c3 => ?_) (fun c3 => ?_)
  · exact ok_s (show DG y2_11 ≤ 39 from by first | omega | assumption | trivial | (refine ⟨?_, ?_⟩ <;> first | omega | assumption | trivial | rfl) | (refine ⟨?_, ?_, ?_⟩ <;> first | omega | assumption | trivial | rfl) | (refine ⟨?_, ?_, ?_, ?_⟩ <;> first | omega | assumption | trivial | rfl) | (refine ⟨?_, ?_, ?_, ?_, ?_⟩ <;> first | omega | assumption | trivial | rfl) | (refine ⟨?_, ?_, ?_, ?_, ?_, ?_⟩ <;> first | omega | assumption | trivial | rfl) | (refine ⟨?_, ?_, ?_, ?_, ?_, ?_, ?_⟩ <;> first | omega | assumption | trivial | rfl) | (refine ⟨?_, ?_, ?_, ?_, ?_, ?_, ?_, ?_⟩ <;> first | omega | assumption | trivial | rfl))
  · have hsub : (r3 - y5_11).toInt = r3.toInt - y5_11.toInt := subT (by omega) (by omega)
    have hk : DG (((p0 >>> (y5_11.toInt64 &&& 63)) &&& (1 : Int64)) <<< ((r3 - y5_11).toInt64 &&& 63)) ≤ 39 := DG_shlx (by rw [hsub]; omega) (by rw [hsub]; omega) (by have := DG_a1 (p0 >>> (y5_11.toInt64 &&& 63)); rw [hsub]; omega) (by decide) (by decide)
    refine ok_bx (fun x2_32 e_x2_32 => ?_)
    have d_x2 : DG x2_32 ≤ 39 := by rw [e_x2_32]; exact DG_or (by omega) hk
    refine ok_bx (fun x5_33 e_x5_33 => ?_)
    try have t_x5_33 : x5_33.toInt = y5_11.toInt + 1 := by rw [e_x5_33]; exact addT1 (show (1 : Int32).toInt = 1 from by decide) (by omega) (by omega)
    exact hih2 x2_32 x5_33 (show 0 ≤ x5_33.toInt ∧ DG x2_32 ≤ 39 from by first | omega | assumption | trivial | (refine ⟨?_, ?_⟩ <;> first | omega | assumption | trivial | rfl) | (refine ⟨?_, ?_, ?_⟩ <;> first | omega | assumption | trivial | rfl) | (refine ⟨?_, ?_, ?_, ?_⟩ <;> first | omega | assumption | trivial | rfl) | (refine ⟨?_, ?_, ?_, ?_, ?_⟩ <;> first | omega | assumption | trivial | rfl) | (refine ⟨?_, ?_, ?_, ?_, ?_, ?_⟩ <;> first | omega | assumption | trivial | rfl) | (refine ⟨?_, ?_, ?_, ?_, ?_, ?_, ?_⟩ <;> first | omega | assumption | trivial | rfl) | (refine ⟨?_, ?_, ?_, ?_, ?_, ?_, ?_, ?_⟩ <;> first | omega | assumption | trivial | rfl)) (show (r3.toInt - x5_33.toInt + 1).toNat < (r3.toInt - y5_11.toInt + 1).toNat from by omega)
set_option maxHeartbeats 1000000 in
theorem sp_X9_powerOf (p0 : Int64) (p1 : Int32) (p2 : Int64) (hp0 : DG p0 ≤ 39) (hp1 : 0 ≤ DG p2) (hp2 : DG p2 ≤ 20) (hp3 : 0 ≤ p1.toInt) (hp4 : p1.toInt ≤ 255) : ok (F_X9_powerOf p0 p1 p2) (fun r => DG r ≤ 39) := by
  have l032 : (0 : Int32).toInt = 0 := by decide
  have l132 : (1 : Int32).toInt = 1 := by decide
  have l164 : (1 : Int64).toInt = 1 := by decide
  have g1 := DG_1
  unfold F_X9_powerOf
  refine ok_o (sp_X9_restOf (1 : Int64) p2 (by first | omega | assumption | trivial | exact wt_of (by assumption) (by omega)) (by first | omega | assumption | trivial | exact wt_of (by assumption) (by omega)) (by first | omega | assumption | trivial | exact wt_of (by assumption) (by omega))) (fun r2 h1 => ?_)
  have h1 : -1 ≤ DG r2 ∧ DG r2 < DG p2 ∧ DG r2 ≤ DG (1 : Int64) := h1
  refine ok_o (sp_X9_restOf p0 p2 (by first | omega | assumption | trivial | exact wt_of (by assumption) (by omega)) (by first | omega | assumption | trivial | exact wt_of (by assumption) (by omega)) (by first | omega | assumption | trivial | exact wt_of (by assumption) (by omega))) (fun r9 h2 => ?_)
  have h2 : -1 ≤ DG r9 ∧ DG r9 < DG p2 ∧ DG r9 ≤ DG p0 := h2
  refine ok_L2 (fun y5_17 y9_17 => 0 ≤ y9_17.toInt ∧ DG y5_17 < DG p2) (fun y5_17 y9_17 => (p1.toInt - y9_17.toInt + 1).toNat) (fun ih17 y5_17 y9_17 hI3 hih3 => ?_) 20000 r2 (0 : Int32) (show 0 ≤ (0 : Int32).toInt ∧ DG r2 < DG p2 from by first | omega | assumption | trivial | (refine ⟨?_, ?_⟩ <;> first | omega | assumption | trivial | rfl) | (refine ⟨?_, ?_, ?_⟩ <;> first | omega | assumption | trivial | rfl) | (refine ⟨?_, ?_, ?_, ?_⟩ <;> first | omega | assumption | trivial | rfl) | (refine ⟨?_, ?_, ?_, ?_, ?_⟩ <;> first | omega | assumption | trivial | rfl) | (refine ⟨?_, ?_, ?_, ?_, ?_, ?_⟩ <;> first | omega | assumption | trivial | rfl) | (refine ⟨?_, ?_, ?_, ?_, ?_, ?_, ?_⟩ <;> first | omega | assumption | trivial | rfl) | (refine ⟨?_, ?_, ?_, ?_, ?_, ?_, ?_, ?_⟩ <;> first | omega | assumption | trivial | rfl)) (show (p1.toInt - (0 : Int32).toInt + 1).toNat < 20000 from by omega)
  have hI3 : 0 ≤ y9_17.toInt ∧ DG y5_17 < DG p2 := hI3
  unfold S_X9_powerOf_17
  have gy := DG_ge y5_17
  refine ok_le (fun c4 => ?_) (fun c4 => ?_)
  · exact ok_s (show DG y5_17 ≤ 39 from by first | omega | assumption | trivial | (refine ⟨?_, ?_⟩ <;> first | omega | assumption | trivial | rfl) | (refine ⟨?_, ?_, ?_⟩ <;> first | omega | assumption | trivial | rfl) | (refine ⟨?_, ?_, ?_, ?_⟩ <;> first | omega | assumption | trivial | rfl) | (refine ⟨?_, ?_, ?_, ?_, ?_⟩ <;> first | omega | assumption | trivial | rfl) | (refine ⟨?_, ?_, ?_, ?_, ?_, ?_⟩ <;> first | omega | assumption | trivial | rfl) | (refine ⟨?_, ?_, ?_, ?_, ?_, ?_, ?_⟩ <;> first | omega | assumption | trivial | rfl) | (refine ⟨?_, ?_, ?_, ?_, ?_, ?_, ?_, ?_⟩ <;> first | omega | assumption | trivial | rfl))
  · refine ok_o (sp_X9_productOf y5_17 r9 (by first | omega | assumption | trivial | exact wt_of (by assumption) (by omega)) (by first | omega | assumption | trivial | exact wt_of (by assumption) (by omega))) (fun r27 h5 => ?_)
    have h5 : ((DG y5_17 = -1 ∨ DG r9 = -1) ∧ DG r27 = -1) ∨ (0 ≤ DG y5_17 ∧ 0 ≤ DG r9 ∧ DG r27 = DG y5_17 + DG r9) := h5
    refine ok_o (sp_X9_restOf r27 p2 (by first | omega | assumption | trivial | exact wt_of (by assumption) (by omega)) (by first | omega | assumption | trivial | exact wt_of (by assumption) (by omega)) (by first | omega | assumption | trivial | exact wt_of (by assumption) (by omega))) (fun r31 h6 => ?_)
    have h6 : -1 ≤ DG r31 ∧ DG r31 < DG p2 ∧ DG r31 ≤ DG r27 := h6
    refine ok_bx (fun x9_36 e_x9_36 => ?_)
    try have t_x9_36 : x9_36.toInt = y9_17.toInt + 1 := by rw [e_x9_36]; exact addT1 (show (1 : Int32).toInt = 1 from by decide) (by omega) (by omega)
    exact hih3 r31 x9_36 (show 0 ≤ x9_36.toInt ∧ DG r31 < DG p2 from by first | omega | assumption | trivial | (refine ⟨?_, ?_⟩ <;> first | omega | assumption | trivial | rfl) | (refine ⟨?_, ?_, ?_⟩ <;> first | omega | assumption | trivial | rfl) | (refine ⟨?_, ?_, ?_, ?_⟩ <;> first | omega | assumption | trivial | rfl) | (refine ⟨?_, ?_, ?_, ?_, ?_⟩ <;> first | omega | assumption | trivial | rfl) | (refine ⟨?_, ?_, ?_, ?_, ?_, ?_⟩ <;> first | omega | assumption | trivial | rfl) | (refine ⟨?_, ?_, ?_, ?_, ?_, ?_, ?_⟩ <;> first | omega | assumption | trivial | rfl) | (refine ⟨?_, ?_, ?_, ?_, ?_, ?_, ?_, ?_⟩ <;> first | omega | assumption | trivial | rfl)) (show (p1.toInt - x9_36.toInt + 1).toNat < (p1.toInt - y9_17.toInt + 1).toNat from by omega)
set_option maxHeartbeats 1000000 in
theorem sp_X9_isPrimeNow (p0 : Int64) (hp0 : DG p0 ≤ 10) : ok (F_X9_isPrimeNow p0) (fun r => r.toInt = 0 ∨ r.toInt = 1) := by
  have l032 : (0 : Int32).toInt = 0 := by decide
  have l064 : (0 : Int64).toInt = 0 := by decide
  have l132 : (1 : Int32).toInt = 1 := by decide
  have l164 : (1 : Int64).toInt = 1 := by decide
  have l232 : (2 : Int32).toInt = 2 := by decide
  have l264 : (2 : Int64).toInt = 2 := by decide
  unfold F_X9_isPrimeNow
  refine ok_o (sp_X9_degreeOf p0 ) (fun r1 h1 => ?_)
  have h1 : r1.toInt = DG p0 ∧ -1 ≤ r1.toInt ∧ r1.toInt ≤ 63 := h1
  refine ok_le (fun c2 => ?_) (fun c2 => ?_)
  · refine ok_L1 (fun y2_14 => 2 ≤ y2_14.toInt ∧ y2_14.toInt ≤ 64) (fun y2_14 => (65 - y2_14.toInt).toNat) (fun ih14 y2_14 hI3 hih3 => ?_) 20000 (2 : Int64) (show 2 ≤ (2 : Int64).toInt ∧ (2 : Int64).toInt ≤ 64 from by first | omega | assumption | trivial | (refine ⟨?_, ?_⟩ <;> first | omega | assumption | trivial | rfl) | (refine ⟨?_, ?_, ?_⟩ <;> first | omega | assumption | trivial | rfl) | (refine ⟨?_, ?_, ?_, ?_⟩ <;> first | omega | assumption | trivial | rfl) | (refine ⟨?_, ?_, ?_, ?_, ?_⟩ <;> first | omega | assumption | trivial | rfl) | (refine ⟨?_, ?_, ?_, ?_, ?_, ?_⟩ <;> first | omega | assumption | trivial | rfl) | (refine ⟨?_, ?_, ?_, ?_, ?_, ?_, ?_⟩ <;> first | omega | assumption | trivial | rfl) | (refine ⟨?_, ?_, ?_, ?_, ?_, ?_, ?_, ?_⟩ <;> first | omega | assumption | trivial | rfl)) (show (65 - (2 : Int64).toInt).toNat < 20000 from by omega)
    have hI3 : 2 ≤ y2_14.toInt ∧ y2_14.toInt ≤ 64 := hI3
    unfold S_X9_isPrimeNow_14
    have gb := DG_by (x := y2_14) (by omega) (by omega)
    refine ok_o (sp_X9_degreeOf y2_14 ) (fun r16 h4 => ?_)
    have h4 : r16.toInt = DG y2_14 ∧ -1 ≤ r16.toInt ∧ r16.toInt ≤ 63 := h4
    refine ok_o (sp_X9_degreeOf p0 ) (fun r21 h5 => ?_)
    have h5 : r21.toInt = DG p0 ∧ -1 ≤ r21.toInt ∧ r21.toInt ≤ 63 := h5
    obtain ⟨w6, e_w6⟩ : ∃ w : Int32, w = (2 : Int32) * r16 := ⟨_, rfl⟩
    try have t_w6 : w6.toInt = 2 * r16.toInt := by rw [e_w6]; exact mulT1 (show (2 : Int32).toInt = 2 from by decide) (by omega) (by omega)
    try rw [← e_w6]
    refine ok_lt (fun c7 => ?_) (fun c7 => ?_)
    · exact ok_s (show (1 : Int32).toInt = 0 ∨ (1 : Int32).toInt = 1 from by first | omega | assumption | trivial | (refine ⟨?_, ?_⟩ <;> first | omega | assumption | trivial | rfl) | (refine ⟨?_, ?_, ?_⟩ <;> first | omega | assumption | trivial | rfl) | (refine ⟨?_, ?_, ?_, ?_⟩ <;> first | omega | assumption | trivial | rfl) | (refine ⟨?_, ?_, ?_, ?_, ?_⟩ <;> first | omega | assumption | trivial | rfl) | (refine ⟨?_, ?_, ?_, ?_, ?_, ?_⟩ <;> first | omega | assumption | trivial | rfl) | (refine ⟨?_, ?_, ?_, ?_, ?_, ?_, ?_⟩ <;> first | omega | assumption | trivial | rfl) | (refine ⟨?_, ?_, ?_, ?_, ?_, ?_, ?_, ?_⟩ <;> first | omega | assumption | trivial | rfl))
    · refine ok_o (sp_X9_restOf p0 y2_14 (by first | omega | assumption | trivial | exact wt_of (by assumption) (by omega)) (by first | omega | assumption | trivial | exact wt_of (by assumption) (by omega)) (by first | omega | assumption | trivial | exact wt_of (by assumption) (by omega))) (fun r29 h8 => ?_)
      have h8 : -1 ≤ DG r29 ∧ DG r29 < DG y2_14 ∧ DG r29 ≤ DG p0 := h8
      have z_c9 := DG_z r29
      refine ok_eqL (fun c9 => ?_) (fun c9 => ?_)
      · exact ok_s (show (0 : Int32).toInt = 0 ∨ (0 : Int32).toInt = 1 from by first | omega | assumption | trivial | (refine ⟨?_, ?_⟩ <;> first | omega | assumption | trivial | rfl) | (refine ⟨?_, ?_, ?_⟩ <;> first | omega | assumption | trivial | rfl) | (refine ⟨?_, ?_, ?_, ?_⟩ <;> first | omega | assumption | trivial | rfl) | (refine ⟨?_, ?_, ?_, ?_, ?_⟩ <;> first | omega | assumption | trivial | rfl) | (refine ⟨?_, ?_, ?_, ?_, ?_, ?_⟩ <;> first | omega | assumption | trivial | rfl) | (refine ⟨?_, ?_, ?_, ?_, ?_, ?_, ?_⟩ <;> first | omega | assumption | trivial | rfl) | (refine ⟨?_, ?_, ?_, ?_, ?_, ?_, ?_, ?_⟩ <;> first | omega | assumption | trivial | rfl))
      · refine ok_bx (fun x2_42 e_x2_42 => ?_)
        try have t_x2_42 : x2_42.toInt = y2_14.toInt + 1 := by rw [e_x2_42]; exact addL1 (show (1 : Int64).toInt = 1 from by decide) (by omega) (by omega)
        exact hih3 x2_42 (show 2 ≤ x2_42.toInt ∧ x2_42.toInt ≤ 64 from by first | omega | assumption | trivial | (refine ⟨?_, ?_⟩ <;> first | omega | assumption | trivial | rfl) | (refine ⟨?_, ?_, ?_⟩ <;> first | omega | assumption | trivial | rfl) | (refine ⟨?_, ?_, ?_, ?_⟩ <;> first | omega | assumption | trivial | rfl) | (refine ⟨?_, ?_, ?_, ?_, ?_⟩ <;> first | omega | assumption | trivial | rfl) | (refine ⟨?_, ?_, ?_, ?_, ?_, ?_⟩ <;> first | omega | assumption | trivial | rfl) | (refine ⟨?_, ?_, ?_, ?_, ?_, ?_, ?_⟩ <;> first | omega | assumption | trivial | rfl) | (refine ⟨?_, ?_, ?_, ?_, ?_, ?_, ?_, ?_⟩ <;> first | omega | assumption | trivial | rfl)) (show (65 - x2_42.toInt).toNat < (65 - y2_14.toInt).toNat from by omega)
  · exact ok_s (show (0 : Int32).toInt = 0 ∨ (0 : Int32).toInt = 1 from by first | omega | assumption | trivial | (refine ⟨?_, ?_⟩ <;> first | omega | assumption | trivial | rfl) | (refine ⟨?_, ?_, ?_⟩ <;> first | omega | assumption | trivial | rfl) | (refine ⟨?_, ?_, ?_, ?_⟩ <;> first | omega | assumption | trivial | rfl) | (refine ⟨?_, ?_, ?_, ?_, ?_⟩ <;> first | omega | assumption | trivial | rfl) | (refine ⟨?_, ?_, ?_, ?_, ?_, ?_⟩ <;> first | omega | assumption | trivial | rfl) | (refine ⟨?_, ?_, ?_, ?_, ?_, ?_, ?_⟩ <;> first | omega | assumption | trivial | rfl) | (refine ⟨?_, ?_, ?_, ?_, ?_, ?_, ?_, ?_⟩ <;> first | omega | assumption | trivial | rfl))
set_option maxHeartbeats 1000000 in
theorem sp_X9_primesOf (p0 : Int32) (hp0 : 1 ≤ p0.toInt) (hp1 : p0.toInt ≤ 10) : ok (F_X9_primesOf p0) (fun r => True) := by
  have l032 : (0 : Int32).toInt = 0 := by decide
  have l132 : (1 : Int32).toInt = 1 := by decide
  have l164 : (1 : Int64).toInt = 1 := by decide
  have l264 : (2 : Int64).toInt = 2 := by decide
  have hs := sh_10 (x := p0) (by omega) (by omega)
  unfold F_X9_primesOf
  refine ok_bx (fun x2_5 e_x2_5 => ?_)
  have t_x2_5 : 1 ≤ x2_5.toInt ∧ x2_5.toInt ≤ 1024 := by rw [e_x2_5]; exact ⟨hs.1, hs.2.1⟩
  refine ok_L2 (fun y1_6 y2_6 => 1 ≤ y2_6.toInt ∧ y2_6.toInt ≤ 2048) (fun y1_6 y2_6 => (2049 - y2_6.toInt).toNat) (fun ih6 y1_6 y2_6 hI1 hih1 => ?_) 20000 (0 : Int32) x2_5 (show 1 ≤ x2_5.toInt ∧ x2_5.toInt ≤ 2048 from by first | omega | assumption | trivial | (refine ⟨?_, ?_⟩ <;> first | omega | assumption | trivial | rfl) | (refine ⟨?_, ?_, ?_⟩ <;> first | omega | assumption | trivial | rfl) | (refine ⟨?_, ?_, ?_, ?_⟩ <;> first | omega | assumption | trivial | rfl) | (refine ⟨?_, ?_, ?_, ?_, ?_⟩ <;> first | omega | assumption | trivial | rfl) | (refine ⟨?_, ?_, ?_, ?_, ?_, ?_⟩ <;> first | omega | assumption | trivial | rfl) | (refine ⟨?_, ?_, ?_, ?_, ?_, ?_, ?_⟩ <;> first | omega | assumption | trivial | rfl) | (refine ⟨?_, ?_, ?_, ?_, ?_, ?_, ?_, ?_⟩ <;> first | omega | assumption | trivial | rfl)) (show (2049 - x2_5.toInt).toNat < 20000 from by omega)
  have hI1 : 1 ≤ y2_6.toInt ∧ y2_6.toInt ≤ 2048 := hI1
  unfold S_X9_primesOf_6
  refine ok_leL (fun c2 => ?_) (fun c2 => ?_)
  · exact ok_s trivial
  · have hd : DG y2_6 < ((11 : Nat) : Int) := DG_lt (by omega) (show y2_6.toInt < 2 ^ 11 from by omega)
    refine ok_o (sp_X9_isPrimeNow y2_6 (by first | omega | assumption | trivial | exact wt_of (by assumption) (by omega))) (fun r18 h3 => ?_)
    have h3 : r18.toInt = 0 ∨ r18.toInt = 1 := h3
    refine ok_eq (fun c4 => ?_) (fun c4 => ?_)
    · refine ok_bx (fun x1_30 e_x1_30 => ?_)
      try have t_x1_30 : x1_30.toInt = y1_6.toInt + 0 := by rw [e_x1_30]; exact addT1 (show (0 : Int32).toInt = 0 from by decide) (by omega) (by omega)
      refine ok_bx (fun x2_34 e_x2_34 => ?_)
      try have t_x2_34 : x2_34.toInt = y2_6.toInt + 1 := by rw [e_x2_34]; exact addL1 (show (1 : Int64).toInt = 1 from by decide) (by omega) (by omega)
      exact hih1 x1_30 x2_34 (show 1 ≤ x2_34.toInt ∧ x2_34.toInt ≤ 2048 from by first | omega | assumption | trivial | (refine ⟨?_, ?_⟩ <;> first | omega | assumption | trivial | rfl) | (refine ⟨?_, ?_, ?_⟩ <;> first | omega | assumption | trivial | rfl) | (refine ⟨?_, ?_, ?_, ?_⟩ <;> first | omega | assumption | trivial | rfl) | (refine ⟨?_, ?_, ?_, ?_, ?_⟩ <;> first | omega | assumption | trivial | rfl) | (refine ⟨?_, ?_, ?_, ?_, ?_, ?_⟩ <;> first | omega | assumption | trivial | rfl) | (refine ⟨?_, ?_, ?_, ?_, ?_, ?_, ?_⟩ <;> first | omega | assumption | trivial | rfl) | (refine ⟨?_, ?_, ?_, ?_, ?_, ?_, ?_, ?_⟩ <;> first | omega | assumption | trivial | rfl)) (show (2049 - x2_34.toInt).toNat < (2049 - y2_6.toInt).toNat from by omega)
    · refine ok_bx (fun x1_30_2 e_x1_30_2 => ?_)
      try have t_x1_30_2 : x1_30_2.toInt = y1_6.toInt + 1 := by rw [e_x1_30_2]; exact addT1 (show (1 : Int32).toInt = 1 from by decide) (by omega) (by omega)
      refine ok_bx (fun x2_34_2 e_x2_34_2 => ?_)
      try have t_x2_34_2 : x2_34_2.toInt = y2_6.toInt + 1 := by rw [e_x2_34_2]; exact addL1 (show (1 : Int64).toInt = 1 from by decide) (by omega) (by omega)
      exact hih1 x1_30_2 x2_34_2 (show 1 ≤ x2_34_2.toInt ∧ x2_34_2.toInt ≤ 2048 from by first | omega | assumption | trivial | (refine ⟨?_, ?_⟩ <;> first | omega | assumption | trivial | rfl) | (refine ⟨?_, ?_, ?_⟩ <;> first | omega | assumption | trivial | rfl) | (refine ⟨?_, ?_, ?_, ?_⟩ <;> first | omega | assumption | trivial | rfl) | (refine ⟨?_, ?_, ?_, ?_, ?_⟩ <;> first | omega | assumption | trivial | rfl) | (refine ⟨?_, ?_, ?_, ?_, ?_, ?_⟩ <;> first | omega | assumption | trivial | rfl) | (refine ⟨?_, ?_, ?_, ?_, ?_, ?_, ?_⟩ <;> first | omega | assumption | trivial | rfl) | (refine ⟨?_, ?_, ?_, ?_, ?_, ?_, ?_, ?_⟩ <;> first | omega | assumption | trivial | rfl)) (show (2049 - x2_34_2.toInt).toNat < (2049 - y2_6.toInt).toNat from by omega)
set_option maxHeartbeats 1000000 in
theorem sp_X9_least (p0 : Int64) (hp0 : 1 ≤ DG p0) (hp1 : DG p0 ≤ 10) : ok (F_X9_least p0) (fun r => 1 ≤ DG r ∧ DG r ≤ DG p0) := by
  have l064 : (0 : Int64).toInt = 0 := by decide
  have l164 : (1 : Int64).toInt = 1 := by decide
  have l232 : (2 : Int32).toInt = 2 := by decide
  have l264 : (2 : Int64).toInt = 2 := by decide
  unfold F_X9_least
  refine ok_L1 (fun y2_4 => 2 ≤ y2_4.toInt ∧ y2_4.toInt ≤ 64) (fun y2_4 => (65 - y2_4.toInt).toNat) (fun ih4 y2_4 hI1 hih1 => ?_) 20000 (2 : Int64) (show 2 ≤ (2 : Int64).toInt ∧ (2 : Int64).toInt ≤ 64 from by first | omega | assumption | trivial | (refine ⟨?_, ?_⟩ <;> first | omega | assumption | trivial | rfl) | (refine ⟨?_, ?_, ?_⟩ <;> first | omega | assumption | trivial | rfl) | (refine ⟨?_, ?_, ?_, ?_⟩ <;> first | omega | assumption | trivial | rfl) | (refine ⟨?_, ?_, ?_, ?_, ?_⟩ <;> first | omega | assumption | trivial | rfl) | (refine ⟨?_, ?_, ?_, ?_, ?_, ?_⟩ <;> first | omega | assumption | trivial | rfl) | (refine ⟨?_, ?_, ?_, ?_, ?_, ?_, ?_⟩ <;> first | omega | assumption | trivial | rfl) | (refine ⟨?_, ?_, ?_, ?_, ?_, ?_, ?_, ?_⟩ <;> first | omega | assumption | trivial | rfl)) (show (65 - (2 : Int64).toInt).toNat < 20000 from by omega)
  have hI1 : 2 ≤ y2_4.toInt ∧ y2_4.toInt ≤ 64 := hI1
  unfold S_X9_least_4
  have gb := DG_by (x := y2_4) (by omega) (by omega)
  refine ok_o (sp_X9_degreeOf y2_4 ) (fun r6 h2 => ?_)
  have h2 : r6.toInt = DG y2_4 ∧ -1 ≤ r6.toInt ∧ r6.toInt ≤ 63 := h2
  refine ok_o (sp_X9_degreeOf p0 ) (fun r11 h3 => ?_)
  have h3 : r11.toInt = DG p0 ∧ -1 ≤ r11.toInt ∧ r11.toInt ≤ 63 := h3
  obtain ⟨w4, e_w4⟩ : ∃ w : Int32, w = (2 : Int32) * r6 := ⟨_, rfl⟩
  try have t_w4 : w4.toInt = 2 * r6.toInt := by rw [e_w4]; exact mulT1 (show (2 : Int32).toInt = 2 from by decide) (by omega) (by omega)
  try rw [← e_w4]
  refine ok_lt (fun c5 => ?_) (fun c5 => ?_)
  · refine ok_o (sp_X9_degreeOf y2_4 ) (fun r36 h6 => ?_)
    have h6 : r36.toInt = DG y2_4 ∧ -1 ≤ r36.toInt ∧ r36.toInt ≤ 63 := h6
    refine ok_o (sp_X9_degreeOf p0 ) (fun r41 h7 => ?_)
    have h7 : r41.toInt = DG p0 ∧ -1 ≤ r41.toInt ∧ r41.toInt ≤ 63 := h7
    obtain ⟨w8, e_w8⟩ : ∃ w : Int32, w = (2 : Int32) * r36 := ⟨_, rfl⟩
    try have t_w8 : w8.toInt = 2 * r36.toInt := by rw [e_w8]; exact mulT1 (show (2 : Int32).toInt = 2 from by decide) (by omega) (by omega)
    try rw [← e_w8]
    refine ok_lt (fun c9 => ?_) (fun c9 => ?_)
    · exact ok_s (show 1 ≤ DG p0 ∧ DG p0 ≤ DG p0 from by first | omega | assumption | trivial | (refine ⟨?_, ?_⟩ <;> first | omega | assumption | trivial | rfl) | (refine ⟨?_, ?_, ?_⟩ <;> first | omega | assumption | trivial | rfl) | (refine ⟨?_, ?_, ?_, ?_⟩ <;> first | omega | assumption | trivial | rfl) | (refine ⟨?_, ?_, ?_, ?_, ?_⟩ <;> first | omega | assumption | trivial | rfl) | (refine ⟨?_, ?_, ?_, ?_, ?_, ?_⟩ <;> first | omega | assumption | trivial | rfl) | (refine ⟨?_, ?_, ?_, ?_, ?_, ?_, ?_⟩ <;> first | omega | assumption | trivial | rfl) | (refine ⟨?_, ?_, ?_, ?_, ?_, ?_, ?_, ?_⟩ <;> first | omega | assumption | trivial | rfl))
    · exact ok_s (show 1 ≤ DG y2_4 ∧ DG y2_4 ≤ DG p0 from by first | omega | assumption | trivial | (refine ⟨?_, ?_⟩ <;> first | omega | assumption | trivial | rfl) | (refine ⟨?_, ?_, ?_⟩ <;> first | omega | assumption | trivial | rfl) | (refine ⟨?_, ?_, ?_, ?_⟩ <;> first | omega | assumption | trivial | rfl) | (refine ⟨?_, ?_, ?_, ?_, ?_⟩ <;> first | omega | assumption | trivial | rfl) | (refine ⟨?_, ?_, ?_, ?_, ?_, ?_⟩ <;> first | omega | assumption | trivial | rfl) | (refine ⟨?_, ?_, ?_, ?_, ?_, ?_, ?_⟩ <;> first | omega | assumption | trivial | rfl) | (refine ⟨?_, ?_, ?_, ?_, ?_, ?_, ?_, ?_⟩ <;> first | omega | assumption | trivial | rfl))
  · refine ok_o (sp_X9_restOf p0 y2_4 (by first | omega | assumption | trivial | exact wt_of (by assumption) (by omega)) (by first | omega | assumption | trivial | exact wt_of (by assumption) (by omega)) (by first | omega | assumption | trivial | exact wt_of (by assumption) (by omega))) (fun r19 h10 => ?_)
    have h10 : -1 ≤ DG r19 ∧ DG r19 < DG y2_4 ∧ DG r19 ≤ DG p0 := h10
    have z_c11 := DG_z r19
    refine ok_eqL (fun c11 => ?_) (fun c11 => ?_)
    · refine ok_o (sp_X9_degreeOf y2_4 ) (fun r36_2 h12 => ?_)
      have h12 : r36_2.toInt = DG y2_4 ∧ -1 ≤ r36_2.toInt ∧ r36_2.toInt ≤ 63 := h12
      refine ok_o (sp_X9_degreeOf p0 ) (fun r41_2 h13 => ?_)
      have h13 : r41_2.toInt = DG p0 ∧ -1 ≤ r41_2.toInt ∧ r41_2.toInt ≤ 63 := h13
      obtain ⟨w14, e_w14⟩ : ∃ w : Int32, w = (2 : Int32) * r36_2 := ⟨_, rfl⟩
      try have t_w14 : w14.toInt = 2 * r36_2.toInt := by rw [e_w14]; exact mulT1 (show (2 : Int32).toInt = 2 from by decide) (by omega) (by omega)
      try rw [← e_w14]
      refine ok_lt (fun c15 => ?_) (fun c15 => ?_)
      · exact ok_s (show 1 ≤ DG p0 ∧ DG p0 ≤ DG p0 from by first | omega | assumption | trivial | (refine ⟨?_, ?_⟩ <;> first | omega | assumption | trivial | rfl) | (refine ⟨?_, ?_, ?_⟩ <;> first | omega | assumption | trivial | rfl) | (refine ⟨?_, ?_, ?_, ?_⟩ <;> first | omega | assumption | trivial | rfl) | (refine ⟨?_, ?_, ?_, ?_, ?_⟩ <;> first | omega | assumption | trivial | rfl) | (refine ⟨?_, ?_, ?_, ?_, ?_, ?_⟩ <;> first | omega | assumption | trivial | rfl) | (refine ⟨?_, ?_, ?_, ?_, ?_, ?_, ?_⟩ <;> first | omega | assumption | trivial | rfl) | (refine ⟨?_, ?_, ?_, ?_, ?_, ?_, ?_, ?_⟩ <;> first | omega | assumption | trivial | rfl))
      · exact ok_s (show 1 ≤ DG y2_4 ∧ DG y2_4 ≤ DG p0 from by first | omega | assumption | trivial | (refine ⟨?_, ?_⟩ <;> first | omega | assumption | trivial | rfl) | (refine ⟨?_, ?_, ?_⟩ <;> first | omega | assumption | trivial | rfl) | (refine ⟨?_, ?_, ?_, ?_⟩ <;> first | omega | assumption | trivial | rfl) | (refine ⟨?_, ?_, ?_, ?_, ?_⟩ <;> first | omega | assumption | trivial | rfl) | (refine ⟨?_, ?_, ?_, ?_, ?_, ?_⟩ <;> first | omega | assumption | trivial | rfl) | (refine ⟨?_, ?_, ?_, ?_, ?_, ?_, ?_⟩ <;> first | omega | assumption | trivial | rfl) | (refine ⟨?_, ?_, ?_, ?_, ?_, ?_, ?_, ?_⟩ <;> first | omega | assumption | trivial | rfl))
    · refine ok_bx (fun x2_30 e_x2_30 => ?_)
      try have t_x2_30 : x2_30.toInt = y2_4.toInt + 1 := by rw [e_x2_30]; exact addL1 (show (1 : Int64).toInt = 1 from by decide) (by omega) (by omega)
      exact hih1 x2_30 (show 2 ≤ x2_30.toInt ∧ x2_30.toInt ≤ 64 from by first | omega | assumption | trivial | (refine ⟨?_, ?_⟩ <;> first | omega | assumption | trivial | rfl) | (refine ⟨?_, ?_, ?_⟩ <;> first | omega | assumption | trivial | rfl) | (refine ⟨?_, ?_, ?_, ?_⟩ <;> first | omega | assumption | trivial | rfl) | (refine ⟨?_, ?_, ?_, ?_, ?_⟩ <;> first | omega | assumption | trivial | rfl) | (refine ⟨?_, ?_, ?_, ?_, ?_, ?_⟩ <;> first | omega | assumption | trivial | rfl) | (refine ⟨?_, ?_, ?_, ?_, ?_, ?_, ?_⟩ <;> first | omega | assumption | trivial | rfl) | (refine ⟨?_, ?_, ?_, ?_, ?_, ?_, ?_, ?_⟩ <;> first | omega | assumption | trivial | rfl)) (show (65 - x2_30.toInt).toNat < (65 - y2_4.toInt).toNat from by omega)
set_option maxHeartbeats 1000000 in
theorem sp_X9_isForm (p0 : Int32)  : ok (F_X9_isForm p0) (fun r => (r.toInt = 1 ∧ 0 ≤ p0.toInt ∧ p0.toInt ≤ 5) ∨ (r.toInt = 0 ∧ (p0.toInt < 0 ∨ 6 ≤ p0.toInt))) := by
  have l032 : (0 : Int32).toInt = 0 := by decide
  have l132 : (1 : Int32).toInt = 1 := by decide
  have l632 : (6 : Int32).toInt = 6 := by decide
  unfold F_X9_isForm
  refine ok_lt (fun c1 => ?_) (fun c1 => ?_)
  · exact ok_s (show ((0 : Int32).toInt = 1 ∧ 0 ≤ p0.toInt ∧ p0.toInt ≤ 5) ∨ ((0 : Int32).toInt = 0 ∧ (p0.toInt < 0 ∨ 6 ≤ p0.toInt)) from by first | omega | assumption | trivial | (refine ⟨?_, ?_⟩ <;> first | omega | assumption | trivial | rfl) | (refine ⟨?_, ?_, ?_⟩ <;> first | omega | assumption | trivial | rfl) | (refine ⟨?_, ?_, ?_, ?_⟩ <;> first | omega | assumption | trivial | rfl) | (refine ⟨?_, ?_, ?_, ?_, ?_⟩ <;> first | omega | assumption | trivial | rfl) | (refine ⟨?_, ?_, ?_, ?_, ?_, ?_⟩ <;> first | omega | assumption | trivial | rfl) | (refine ⟨?_, ?_, ?_, ?_, ?_, ?_, ?_⟩ <;> first | omega | assumption | trivial | rfl) | (refine ⟨?_, ?_, ?_, ?_, ?_, ?_, ?_, ?_⟩ <;> first | omega | assumption | trivial | rfl))
  · refine ok_le (fun c2 => ?_) (fun c2 => ?_)
    · exact ok_s (show ((0 : Int32).toInt = 1 ∧ 0 ≤ p0.toInt ∧ p0.toInt ≤ 5) ∨ ((0 : Int32).toInt = 0 ∧ (p0.toInt < 0 ∨ 6 ≤ p0.toInt)) from by first | omega | assumption | trivial | (refine ⟨?_, ?_⟩ <;> first | omega | assumption | trivial | rfl) | (refine ⟨?_, ?_, ?_⟩ <;> first | omega | assumption | trivial | rfl) | (refine ⟨?_, ?_, ?_, ?_⟩ <;> first | omega | assumption | trivial | rfl) | (refine ⟨?_, ?_, ?_, ?_, ?_⟩ <;> first | omega | assumption | trivial | rfl) | (refine ⟨?_, ?_, ?_, ?_, ?_, ?_⟩ <;> first | omega | assumption | trivial | rfl) | (refine ⟨?_, ?_, ?_, ?_, ?_, ?_, ?_⟩ <;> first | omega | assumption | trivial | rfl) | (refine ⟨?_, ?_, ?_, ?_, ?_, ?_, ?_, ?_⟩ <;> first | omega | assumption | trivial | rfl))
    · exact ok_s (show ((1 : Int32).toInt = 1 ∧ 0 ≤ p0.toInt ∧ p0.toInt ≤ 5) ∨ ((1 : Int32).toInt = 0 ∧ (p0.toInt < 0 ∨ 6 ≤ p0.toInt)) from by first | omega | assumption | trivial | (refine ⟨?_, ?_⟩ <;> first | omega | assumption | trivial | rfl) | (refine ⟨?_, ?_, ?_⟩ <;> first | omega | assumption | trivial | rfl) | (refine ⟨?_, ?_, ?_, ?_⟩ <;> first | omega | assumption | trivial | rfl) | (refine ⟨?_, ?_, ?_, ?_, ?_⟩ <;> first | omega | assumption | trivial | rfl) | (refine ⟨?_, ?_, ?_, ?_, ?_, ?_⟩ <;> first | omega | assumption | trivial | rfl) | (refine ⟨?_, ?_, ?_, ?_, ?_, ?_, ?_⟩ <;> first | omega | assumption | trivial | rfl) | (refine ⟨?_, ?_, ?_, ?_, ?_, ?_, ?_, ?_⟩ <;> first | omega | assumption | trivial | rfl))
set_option maxHeartbeats 1000000 in
theorem sp_X9_isPlace (p0 : Int32)  : ok (F_X9_isPlace p0) (fun r => (r.toInt = 1 ∧ 0 ≤ p0.toInt ∧ p0.toInt ≤ 39) ∨ (r.toInt = 0 ∧ (p0.toInt < 0 ∨ 40 ≤ p0.toInt))) := by
  have l032 : (0 : Int32).toInt = 0 := by decide
  have l132 : (1 : Int32).toInt = 1 := by decide
  have l4032 : (40 : Int32).toInt = 40 := by decide
  unfold F_X9_isPlace
  refine ok_lt (fun c1 => ?_) (fun c1 => ?_)
  · exact ok_s (show ((0 : Int32).toInt = 1 ∧ 0 ≤ p0.toInt ∧ p0.toInt ≤ 39) ∨ ((0 : Int32).toInt = 0 ∧ (p0.toInt < 0 ∨ 40 ≤ p0.toInt)) from by first | omega | assumption | trivial | (refine ⟨?_, ?_⟩ <;> first | omega | assumption | trivial | rfl) | (refine ⟨?_, ?_, ?_⟩ <;> first | omega | assumption | trivial | rfl) | (refine ⟨?_, ?_, ?_, ?_⟩ <;> first | omega | assumption | trivial | rfl) | (refine ⟨?_, ?_, ?_, ?_, ?_⟩ <;> first | omega | assumption | trivial | rfl) | (refine ⟨?_, ?_, ?_, ?_, ?_, ?_⟩ <;> first | omega | assumption | trivial | rfl) | (refine ⟨?_, ?_, ?_, ?_, ?_, ?_, ?_⟩ <;> first | omega | assumption | trivial | rfl) | (refine ⟨?_, ?_, ?_, ?_, ?_, ?_, ?_, ?_⟩ <;> first | omega | assumption | trivial | rfl))
  · refine ok_le (fun c2 => ?_) (fun c2 => ?_)
    · exact ok_s (show ((0 : Int32).toInt = 1 ∧ 0 ≤ p0.toInt ∧ p0.toInt ≤ 39) ∨ ((0 : Int32).toInt = 0 ∧ (p0.toInt < 0 ∨ 40 ≤ p0.toInt)) from by first | omega | assumption | trivial | (refine ⟨?_, ?_⟩ <;> first | omega | assumption | trivial | rfl) | (refine ⟨?_, ?_, ?_⟩ <;> first | omega | assumption | trivial | rfl) | (refine ⟨?_, ?_, ?_, ?_⟩ <;> first | omega | assumption | trivial | rfl) | (refine ⟨?_, ?_, ?_, ?_, ?_⟩ <;> first | omega | assumption | trivial | rfl) | (refine ⟨?_, ?_, ?_, ?_, ?_, ?_⟩ <;> first | omega | assumption | trivial | rfl) | (refine ⟨?_, ?_, ?_, ?_, ?_, ?_, ?_⟩ <;> first | omega | assumption | trivial | rfl) | (refine ⟨?_, ?_, ?_, ?_, ?_, ?_, ?_, ?_⟩ <;> first | omega | assumption | trivial | rfl))
    · exact ok_s (show ((1 : Int32).toInt = 1 ∧ 0 ≤ p0.toInt ∧ p0.toInt ≤ 39) ∨ ((1 : Int32).toInt = 0 ∧ (p0.toInt < 0 ∨ 40 ≤ p0.toInt)) from by first | omega | assumption | trivial | (refine ⟨?_, ?_⟩ <;> first | omega | assumption | trivial | rfl) | (refine ⟨?_, ?_, ?_⟩ <;> first | omega | assumption | trivial | rfl) | (refine ⟨?_, ?_, ?_, ?_⟩ <;> first | omega | assumption | trivial | rfl) | (refine ⟨?_, ?_, ?_, ?_, ?_⟩ <;> first | omega | assumption | trivial | rfl) | (refine ⟨?_, ?_, ?_, ?_, ?_, ?_⟩ <;> first | omega | assumption | trivial | rfl) | (refine ⟨?_, ?_, ?_, ?_, ?_, ?_, ?_⟩ <;> first | omega | assumption | trivial | rfl) | (refine ⟨?_, ?_, ?_, ?_, ?_, ?_, ?_, ?_⟩ <;> first | omega | assumption | trivial | rfl))
set_option maxHeartbeats 1000000 in
theorem sp_X9_isThrown (p0 : Int32) (p1 : Int32)  : ok (F_X9_isThrown p0 p1) (fun r => (r.1.toInt = 0 ∧ r.2.toInt = 0 ∧ p0.toInt = 0 ∧ p1.toInt = 0) ∨ (r.1.toInt = 1 ∧ r.2.toInt = 1 ∧ p0.toInt ≠ 0) ∨ (r.1.toInt = 1 ∧ r.2.toInt = 2 ∧ p0.toInt = 0 ∧ p1.toInt ≠ 0)) := by
  have l032 : (0 : Int32).toInt = 0 := by decide
  have l132 : (1 : Int32).toInt = 1 := by decide
  have l232 : (2 : Int32).toInt = 2 := by decide
  unfold F_X9_isThrown
  refine ok_eq (fun c1 => ?_) (fun c1 => ?_)
  · refine ok_eq (fun c2 => ?_) (fun c2 => ?_)
    · exact ok_s (show ((0 : Int32).toInt = 0 ∧ (0 : Int32).toInt = 0 ∧ p0.toInt = 0 ∧ p1.toInt = 0) ∨ ((0 : Int32).toInt = 1 ∧ (0 : Int32).toInt = 1 ∧ p0.toInt ≠ 0) ∨ ((0 : Int32).toInt = 1 ∧ (0 : Int32).toInt = 2 ∧ p0.toInt = 0 ∧ p1.toInt ≠ 0) from by first | omega | assumption | trivial | (refine ⟨?_, ?_⟩ <;> first | omega | assumption | trivial | rfl) | (refine ⟨?_, ?_, ?_⟩ <;> first | omega | assumption | trivial | rfl) | (refine ⟨?_, ?_, ?_, ?_⟩ <;> first | omega | assumption | trivial | rfl) | (refine ⟨?_, ?_, ?_, ?_, ?_⟩ <;> first | omega | assumption | trivial | rfl) | (refine ⟨?_, ?_, ?_, ?_, ?_, ?_⟩ <;> first | omega | assumption | trivial | rfl) | (refine ⟨?_, ?_, ?_, ?_, ?_, ?_, ?_⟩ <;> first | omega | assumption | trivial | rfl) | (refine ⟨?_, ?_, ?_, ?_, ?_, ?_, ?_, ?_⟩ <;> first | omega | assumption | trivial | rfl))
    · exact ok_s (show ((1 : Int32).toInt = 0 ∧ (2 : Int32).toInt = 0 ∧ p0.toInt = 0 ∧ p1.toInt = 0) ∨ ((1 : Int32).toInt = 1 ∧ (2 : Int32).toInt = 1 ∧ p0.toInt ≠ 0) ∨ ((1 : Int32).toInt = 1 ∧ (2 : Int32).toInt = 2 ∧ p0.toInt = 0 ∧ p1.toInt ≠ 0) from by first | omega | assumption | trivial | (refine ⟨?_, ?_⟩ <;> first | omega | assumption | trivial | rfl) | (refine ⟨?_, ?_, ?_⟩ <;> first | omega | assumption | trivial | rfl) | (refine ⟨?_, ?_, ?_, ?_⟩ <;> first | omega | assumption | trivial | rfl) | (refine ⟨?_, ?_, ?_, ?_, ?_⟩ <;> first | omega | assumption | trivial | rfl) | (refine ⟨?_, ?_, ?_, ?_, ?_, ?_⟩ <;> first | omega | assumption | trivial | rfl) | (refine ⟨?_, ?_, ?_, ?_, ?_, ?_, ?_⟩ <;> first | omega | assumption | trivial | rfl) | (refine ⟨?_, ?_, ?_, ?_, ?_, ?_, ?_, ?_⟩ <;> first | omega | assumption | trivial | rfl))
  · exact ok_s (show ((1 : Int32).toInt = 0 ∧ (1 : Int32).toInt = 0 ∧ p0.toInt = 0 ∧ p1.toInt = 0) ∨ ((1 : Int32).toInt = 1 ∧ (1 : Int32).toInt = 1 ∧ p0.toInt ≠ 0) ∨ ((1 : Int32).toInt = 1 ∧ (1 : Int32).toInt = 2 ∧ p0.toInt = 0 ∧ p1.toInt ≠ 0) from by first | omega | assumption | trivial | (refine ⟨?_, ?_⟩ <;> first | omega | assumption | trivial | rfl) | (refine ⟨?_, ?_, ?_⟩ <;> first | omega | assumption | trivial | rfl) | (refine ⟨?_, ?_, ?_, ?_⟩ <;> first | omega | assumption | trivial | rfl) | (refine ⟨?_, ?_, ?_, ?_, ?_⟩ <;> first | omega | assumption | trivial | rfl) | (refine ⟨?_, ?_, ?_, ?_, ?_, ?_⟩ <;> first | omega | assumption | trivial | rfl) | (refine ⟨?_, ?_, ?_, ?_, ?_, ?_, ?_⟩ <;> first | omega | assumption | trivial | rfl) | (refine ⟨?_, ?_, ?_, ?_, ?_, ?_, ?_, ?_⟩ <;> first | omega | assumption | trivial | rfl))
set_option maxHeartbeats 1000000 in
theorem sp_X9_isThrown_ (p0 : Int32)  : ok (F_X9_isThrown_ p0) (fun r => (r.1.toInt = 0 ∧ r.2.toInt = 0 ∧ p0.toInt = 0) ∨ (r.1.toInt = 1 ∧ r.2.toInt = 1 ∧ p0.toInt ≠ 0)) := by
  have l032 : (0 : Int32).toInt = 0 := by decide
  unfold F_X9_isThrown_
  refine ok_o2 (sp_X9_isThrown p0 (0 : Int32) ) (fun r3 c_t_thrown_3 h1 => ?_)
  have h1 : (r3.toInt = 0 ∧ c_t_thrown_3.toInt = 0 ∧ p0.toInt = 0 ∧ (0 : Int32).toInt = 0) ∨ (r3.toInt = 1 ∧ c_t_thrown_3.toInt = 1 ∧ p0.toInt ≠ 0) ∨ (r3.toInt = 1 ∧ c_t_thrown_3.toInt = 2 ∧ p0.toInt = 0 ∧ (0 : Int32).toInt ≠ 0) := h1
  refine ok_z (by first | omega | exact zr_of (by omega) | assumption) ?_
  exact ok_s (show (r3.toInt = 0 ∧ c_t_thrown_3.toInt = 0 ∧ p0.toInt = 0) ∨ (r3.toInt = 1 ∧ c_t_thrown_3.toInt = 1 ∧ p0.toInt ≠ 0) from by first | omega | assumption | trivial | (refine ⟨?_, ?_⟩ <;> first | omega | assumption | trivial | rfl) | (refine ⟨?_, ?_, ?_⟩ <;> first | omega | assumption | trivial | rfl) | (refine ⟨?_, ?_, ?_, ?_⟩ <;> first | omega | assumption | trivial | rfl) | (refine ⟨?_, ?_, ?_, ?_, ?_⟩ <;> first | omega | assumption | trivial | rfl) | (refine ⟨?_, ?_, ?_, ?_, ?_, ?_⟩ <;> first | omega | assumption | trivial | rfl) | (refine ⟨?_, ?_, ?_, ?_, ?_, ?_, ?_⟩ <;> first | omega | assumption | trivial | rfl) | (refine ⟨?_, ?_, ?_, ?_, ?_, ?_, ?_, ?_⟩ <;> first | omega | assumption | trivial | rfl))
set_option maxHeartbeats 1000000 in
theorem sp_X9_areNot (p0 : Int32) (p1 : Int32) (p2 : Int32)  : ok (F_X9_areNot p0 p1 p2) (fun r => (r.1.toInt = 0 ∧ r.2.toInt = 0 ∧ 0 ≤ p0.toInt ∧ p0.toInt ≤ 5 ∧ 0 ≤ p1.toInt ∧ p1.toInt ≤ 5 ∧ 0 ≤ p2.toInt ∧ p2.toInt ≤ 5) ∨ (r.1.toInt = 1 ∧ r.2.toInt = 1)) := by
  have l032 : (0 : Int32).toInt = 0 := by decide
  have l132 : (1 : Int32).toInt = 1 := by decide
  unfold F_X9_areNot
  refine ok_o (sp_X9_isForm p0 ) (fun r2 h1 => ?_)
  have h1 : (r2.toInt = 1 ∧ 0 ≤ p0.toInt ∧ p0.toInt ≤ 5) ∨ (r2.toInt = 0 ∧ (p0.toInt < 0 ∨ 6 ≤ p0.toInt)) := h1
  refine ok_eq (fun c2 => ?_) (fun c2 => ?_)
  · refine ok_o2 (sp_X9_isThrown_ (1 : Int32) ) (fun r27 c_t_thrown_27 h3 => ?_)
    have h3 : (r27.toInt = 0 ∧ c_t_thrown_27.toInt = 0 ∧ (1 : Int32).toInt = 0) ∨ (r27.toInt = 1 ∧ c_t_thrown_27.toInt = 1 ∧ (1 : Int32).toInt ≠ 0) := h3
    refine ok_z (by first | omega | exact zr_of (by omega) | assumption) ?_
    exact ok_s (show (r27.toInt = 0 ∧ c_t_thrown_27.toInt = 0 ∧ 0 ≤ p0.toInt ∧ p0.toInt ≤ 5 ∧ 0 ≤ p1.toInt ∧ p1.toInt ≤ 5 ∧ 0 ≤ p2.toInt ∧ p2.toInt ≤ 5) ∨ (r27.toInt = 1 ∧ c_t_thrown_27.toInt = 1) from by first | omega | assumption | trivial | (refine ⟨?_, ?_⟩ <;> first | omega | assumption | trivial | rfl) | (refine ⟨?_, ?_, ?_⟩ <;> first | omega | assumption | trivial | rfl) | (refine ⟨?_, ?_, ?_, ?_⟩ <;> first | omega | assumption | trivial | rfl) | (refine ⟨?_, ?_, ?_, ?_, ?_⟩ <;> first | omega | assumption | trivial | rfl) | (refine ⟨?_, ?_, ?_, ?_, ?_, ?_⟩ <;> first | omega | assumption | trivial | rfl) | (refine ⟨?_, ?_, ?_, ?_, ?_, ?_, ?_⟩ <;> first | omega | assumption | trivial | rfl) | (refine ⟨?_, ?_, ?_, ?_, ?_, ?_, ?_, ?_⟩ <;> first | omega | assumption | trivial | rfl))
  · refine ok_o (sp_X9_isForm p1 ) (fun r9 h4 => ?_)
    have h4 : (r9.toInt = 1 ∧ 0 ≤ p1.toInt ∧ p1.toInt ≤ 5) ∨ (r9.toInt = 0 ∧ (p1.toInt < 0 ∨ 6 ≤ p1.toInt)) := h4
    refine ok_eq (fun c5 => ?_) (fun c5 => ?_)
    · refine ok_o2 (sp_X9_isThrown_ (1 : Int32) ) (fun r27_2 c_t_thrown_27_2 h6 => ?_)
      have h6 : (r27_2.toInt = 0 ∧ c_t_thrown_27_2.toInt = 0 ∧ (1 : Int32).toInt = 0) ∨ (r27_2.toInt = 1 ∧ c_t_thrown_27_2.toInt = 1 ∧ (1 : Int32).toInt ≠ 0) := h6
      refine ok_z (by first | omega | exact zr_of (by omega) | assumption) ?_
      exact ok_s (show (r27_2.toInt = 0 ∧ c_t_thrown_27_2.toInt = 0 ∧ 0 ≤ p0.toInt ∧ p0.toInt ≤ 5 ∧ 0 ≤ p1.toInt ∧ p1.toInt ≤ 5 ∧ 0 ≤ p2.toInt ∧ p2.toInt ≤ 5) ∨ (r27_2.toInt = 1 ∧ c_t_thrown_27_2.toInt = 1) from by first | omega | assumption | trivial | (refine ⟨?_, ?_⟩ <;> first | omega | assumption | trivial | rfl) | (refine ⟨?_, ?_, ?_⟩ <;> first | omega | assumption | trivial | rfl) | (refine ⟨?_, ?_, ?_, ?_⟩ <;> first | omega | assumption | trivial | rfl) | (refine ⟨?_, ?_, ?_, ?_, ?_⟩ <;> first | omega | assumption | trivial | rfl) | (refine ⟨?_, ?_, ?_, ?_, ?_, ?_⟩ <;> first | omega | assumption | trivial | rfl) | (refine ⟨?_, ?_, ?_, ?_, ?_, ?_, ?_⟩ <;> first | omega | assumption | trivial | rfl) | (refine ⟨?_, ?_, ?_, ?_, ?_, ?_, ?_, ?_⟩ <;> first | omega | assumption | trivial | rfl))
    · refine ok_o (sp_X9_isForm p2 ) (fun r16 h7 => ?_)
      have h7 : (r16.toInt = 1 ∧ 0 ≤ p2.toInt ∧ p2.toInt ≤ 5) ∨ (r16.toInt = 0 ∧ (p2.toInt < 0 ∨ 6 ≤ p2.toInt)) := h7
      refine ok_eq (fun c8 => ?_) (fun c8 => ?_)
      · refine ok_o2 (sp_X9_isThrown_ (1 : Int32) ) (fun r27_3 c_t_thrown_27_3 h9 => ?_)
        have h9 : (r27_3.toInt = 0 ∧ c_t_thrown_27_3.toInt = 0 ∧ (1 : Int32).toInt = 0) ∨ (r27_3.toInt = 1 ∧ c_t_thrown_27_3.toInt = 1 ∧ (1 : Int32).toInt ≠ 0) := h9
        refine ok_z (by first | omega | exact zr_of (by omega) | assumption) ?_
        exact ok_s (show (r27_3.toInt = 0 ∧ c_t_thrown_27_3.toInt = 0 ∧ 0 ≤ p0.toInt ∧ p0.toInt ≤ 5 ∧ 0 ≤ p1.toInt ∧ p1.toInt ≤ 5 ∧ 0 ≤ p2.toInt ∧ p2.toInt ≤ 5) ∨ (r27_3.toInt = 1 ∧ c_t_thrown_27_3.toInt = 1) from by first | omega | assumption | trivial | (refine ⟨?_, ?_⟩ <;> first | omega | assumption | trivial | rfl) | (refine ⟨?_, ?_, ?_⟩ <;> first | omega | assumption | trivial | rfl) | (refine ⟨?_, ?_, ?_, ?_⟩ <;> first | omega | assumption | trivial | rfl) | (refine ⟨?_, ?_, ?_, ?_, ?_⟩ <;> first | omega | assumption | trivial | rfl) | (refine ⟨?_, ?_, ?_, ?_, ?_, ?_⟩ <;> first | omega | assumption | trivial | rfl) | (refine ⟨?_, ?_, ?_, ?_, ?_, ?_, ?_⟩ <;> first | omega | assumption | trivial | rfl) | (refine ⟨?_, ?_, ?_, ?_, ?_, ?_, ?_, ?_⟩ <;> first | omega | assumption | trivial | rfl))
      · refine ok_o2 (sp_X9_isThrown_ (0 : Int32) ) (fun r27_4 c_t_thrown_27_4 h10 => ?_)
        have h10 : (r27_4.toInt = 0 ∧ c_t_thrown_27_4.toInt = 0 ∧ (0 : Int32).toInt = 0) ∨ (r27_4.toInt = 1 ∧ c_t_thrown_27_4.toInt = 1 ∧ (0 : Int32).toInt ≠ 0) := h10
        refine ok_z (by first | omega | exact zr_of (by omega) | assumption) ?_
        exact ok_s (show (r27_4.toInt = 0 ∧ c_t_thrown_27_4.toInt = 0 ∧ 0 ≤ p0.toInt ∧ p0.toInt ≤ 5 ∧ 0 ≤ p1.toInt ∧ p1.toInt ≤ 5 ∧ 0 ≤ p2.toInt ∧ p2.toInt ≤ 5) ∨ (r27_4.toInt = 1 ∧ c_t_thrown_27_4.toInt = 1) from by first | omega | assumption | trivial | (refine ⟨?_, ?_⟩ <;> first | omega | assumption | trivial | rfl) | (refine ⟨?_, ?_, ?_⟩ <;> first | omega | assumption | trivial | rfl) | (refine ⟨?_, ?_, ?_, ?_⟩ <;> first | omega | assumption | trivial | rfl) | (refine ⟨?_, ?_, ?_, ?_, ?_⟩ <;> first | omega | assumption | trivial | rfl) | (refine ⟨?_, ?_, ?_, ?_, ?_, ?_⟩ <;> first | omega | assumption | trivial | rfl) | (refine ⟨?_, ?_, ?_, ?_, ?_, ?_, ?_⟩ <;> first | omega | assumption | trivial | rfl) | (refine ⟨?_, ?_, ?_, ?_, ?_, ?_, ?_, ?_⟩ <;> first | omega | assumption | trivial | rfl))
set_option maxHeartbeats 1000000 in
theorem sp_X9_done (c_t_acts : Int32) (p0 : Int32)  : ok (F_X9_done c_t_acts p0) (fun r => True) := by
  have l132 : (1 : Int32).toInt = 1 := by decide
  unfold F_X9_done
  refine ok_bx (fun c_t_acts_7 e_c_t_acts_7 => ?_)
  try have t_c_t_acts_7 : c_t_acts_7.toInt = c_t_acts.toInt + 1 := by rw [e_c_t_acts_7]; exact addT1 (show (1 : Int32).toInt = 1 from by decide) (by omega) (by omega)
  exact ok_s trivial
set_option maxHeartbeats 1000000 in
theorem sp_X9_no (c_t_refused : Int32)  : ok (F_X9_no c_t_refused) (fun r => True) := by
  have lm932 : (-9 : Int32).toInt = -9 := by decide
  have l132 : (1 : Int32).toInt = 1 := by decide
  unfold F_X9_no
  refine ok_bx (fun c_t_refused_7 e_c_t_refused_7 => ?_)
  try have t_c_t_refused_7 : c_t_refused_7.toInt = c_t_refused.toInt + 1 := by rw [e_c_t_refused_7]; exact addT1 (show (1 : Int32).toInt = 1 from by decide) (by omega) (by omega)
  exact ok_s trivial
set_option maxHeartbeats 1000000 in
theorem sp_X9_give (c_t_acts : Int32) (f_t_forms : Nat → Int64) (p0 : Int32) (p1 : Int64) (hp0 : FA f_t_forms) (hp1 : 0 ≤ p0.toInt) (hp2 : p0.toInt ≤ 5) (hp3 : DG p1 ≤ 39) : ok (F_X9_give c_t_acts f_t_forms p0 p1) (fun r => FA r.2.2) := by
  have l032 : (0 : Int32).toInt = 0 := by decide
  unfold F_X9_give
  refine ok_c (ixo (by omega) (by omega)) ?_
  refine ok_bx (fun f_t_forms_6 e_f_t_forms_6 => ?_)
  try have t_f_t_forms_6 : FA f_t_forms_6 := by rw [e_f_t_forms_6]; exact FA_upd (by first | assumption | exact FA_0) _ (by first | omega | assumption | trivial)
  refine ok_o (sp_X9_degreeOf p1 ) (fun r9 h1 => ?_)
  have h1 : r9.toInt = DG p1 ∧ -1 ≤ r9.toInt ∧ r9.toInt ≤ 63 := h1
  refine ok_o2 (sp_X9_done c_t_acts r9 ) (fun r12 c_t_acts_12 h2 => ?_)
  exact ok_s (show FA f_t_forms_6 from by first | omega | assumption | trivial | (refine ⟨?_, ?_⟩ <;> first | omega | assumption | trivial | rfl) | (refine ⟨?_, ?_, ?_⟩ <;> first | omega | assumption | trivial | rfl) | (refine ⟨?_, ?_, ?_, ?_⟩ <;> first | omega | assumption | trivial | rfl) | (refine ⟨?_, ?_, ?_, ?_, ?_⟩ <;> first | omega | assumption | trivial | rfl) | (refine ⟨?_, ?_, ?_, ?_, ?_, ?_⟩ <;> first | omega | assumption | trivial | rfl) | (refine ⟨?_, ?_, ?_, ?_, ?_, ?_, ?_⟩ <;> first | omega | assumption | trivial | rfl) | (refine ⟨?_, ?_, ?_, ?_, ?_, ?_, ?_, ?_⟩ <;> first | omega | assumption | trivial | rfl))
set_option maxHeartbeats 1000000 in
theorem sp_X9_set (c_t_acts : Int32) (c_t_thrown : Int32) (f_t_forms : Nat → Int64) (p0 : Int32) (p1 : Int32) (hp0 : FA f_t_forms) : ok (F_X9_set c_t_acts c_t_thrown f_t_forms p0 p1) (fun r => FA r.2.2.2) := by
  have l032 : (0 : Int32).toInt = 0 := by decide
  have l132 : (1 : Int32).toInt = 1 := by decide
  unfold F_X9_set
  refine ok_o (sp_X9_isForm p0 ) (fun r2 h1 => ?_)
  have h1 : (r2.toInt = 1 ∧ 0 ≤ p0.toInt ∧ p0.toInt ≤ 5) ∨ (r2.toInt = 0 ∧ (p0.toInt < 0 ∨ 6 ≤ p0.toInt)) := h1
  refine ok_eq (fun c2 => ?_) (fun c2 => ?_)
  · first | unfold J_X9_set_13 | skip
    refine ok_le (fun c3 => ?_) (fun c3 => ?_)
    · first | unfold J_X9_set_22 | skip
      refine ok_o2 (sp_X9_isThrown (1 : Int32) (0 : Int32) ) (fun r22 c_t_thrown_22 h4 => ?_)
      have h4 : (r22.toInt = 0 ∧ c_t_thrown_22.toInt = 0 ∧ (1 : Int32).toInt = 0 ∧ (0 : Int32).toInt = 0) ∨ (r22.toInt = 1 ∧ c_t_thrown_22.toInt = 1 ∧ (1 : Int32).toInt ≠ 0) ∨ (r22.toInt = 1 ∧ c_t_thrown_22.toInt = 2 ∧ (1 : Int32).toInt = 0 ∧ (0 : Int32).toInt ≠ 0) := h4
      refine ok_eq (fun c5 => ?_) (fun c5 => ?_)
      · exfalso; omega
      · exact ok_s (show FA f_t_forms from by first | omega | assumption | trivial | (refine ⟨?_, ?_⟩ <;> first | omega | assumption | trivial | rfl) | (refine ⟨?_, ?_, ?_⟩ <;> first | omega | assumption | trivial | rfl) | (refine ⟨?_, ?_, ?_, ?_⟩ <;> first | omega | assumption | trivial | rfl) | (refine ⟨?_, ?_, ?_, ?_, ?_⟩ <;> first | omega | assumption | trivial | rfl) | (refine ⟨?_, ?_, ?_, ?_, ?_, ?_⟩ <;> first | omega | assumption | trivial | rfl) | (refine ⟨?_, ?_, ?_, ?_, ?_, ?_, ?_⟩ <;> first | omega | assumption | trivial | rfl) | (refine ⟨?_, ?_, ?_, ?_, ?_, ?_, ?_, ?_⟩ <;> first | omega | assumption | trivial | rfl))
    · first | unfold J_X9_set_22 | skip
      refine ok_o2 (sp_X9_isThrown (1 : Int32) (1 : Int32) ) (fun r22_2 c_t_thrown_22_2 h6 => ?_)
      have h6 : (r22_2.toInt = 0 ∧ c_t_thrown_22_2.toInt = 0 ∧ (1 : Int32).toInt = 0 ∧ (1 : Int32).toInt = 0) ∨ (r22_2.toInt = 1 ∧ c_t_thrown_22_2.toInt = 1 ∧ (1 : Int32).toInt ≠ 0) ∨ (r22_2.toInt = 1 ∧ c_t_thrown_22_2.toInt = 2 ∧ (1 : Int32).toInt = 0 ∧ (1 : Int32).toInt ≠ 0) := h6
      refine ok_eq (fun c7 => ?_) (fun c7 => ?_)
      · exfalso; omega
      · exact ok_s (show FA f_t_forms from by first | omega | assumption | trivial | (refine ⟨?_, ?_⟩ <;> first | omega | assumption | trivial | rfl) | (refine ⟨?_, ?_, ?_⟩ <;> first | omega | assumption | trivial | rfl) | (refine ⟨?_, ?_, ?_, ?_⟩ <;> first | omega | assumption | trivial | rfl) | (refine ⟨?_, ?_, ?_, ?_, ?_⟩ <;> first | omega | assumption | trivial | rfl) | (refine ⟨?_, ?_, ?_, ?_, ?_, ?_⟩ <;> first | omega | assumption | trivial | rfl) | (refine ⟨?_, ?_, ?_, ?_, ?_, ?_, ?_⟩ <;> first | omega | assumption | trivial | rfl) | (refine ⟨?_, ?_, ?_, ?_, ?_, ?_, ?_, ?_⟩ <;> first | omega | assumption | trivial | rfl))
  · first | unfold J_X9_set_13 | skip
    refine ok_le (fun c8 => ?_) (fun c8 => ?_)
    · first | unfold J_X9_set_22 | skip
      refine ok_o2 (sp_X9_isThrown (0 : Int32) (0 : Int32) ) (fun r22_3 c_t_thrown_22_3 h9 => ?_)
      have h9 : (r22_3.toInt = 0 ∧ c_t_thrown_22_3.toInt = 0 ∧ (0 : Int32).toInt = 0 ∧ (0 : Int32).toInt = 0) ∨ (r22_3.toInt = 1 ∧ c_t_thrown_22_3.toInt = 1 ∧ (0 : Int32).toInt ≠ 0) ∨ (r22_3.toInt = 1 ∧ c_t_thrown_22_3.toInt = 2 ∧ (0 : Int32).toInt = 0 ∧ (0 : Int32).toInt ≠ 0) := h9
      refine ok_eq (fun c10 => ?_) (fun c10 => ?_)
      · refine ok_c (ixo (by omega) (by omega)) ?_
        try have a11 := FA_at (f := f_t_forms) (by assumption) p0.toNatClampNeg
        refine ok_o (sp_X9_degreeOf (f_t_forms p0.toNatClampNeg) ) (fun r36 h12 => ?_)
        have h12 : r36.toInt = DG (f_t_forms p0.toNatClampNeg) ∧ -1 ≤ r36.toInt ∧ r36.toInt ≤ 63 := h12
        refine ok_c (ixo (by omega) (by omega)) ?_
        have hd := DG_i2 (p := p1) (by omega)
        refine ok_bx (fun f_t_forms_47 e_f_t_forms_47 => ?_)
        try have t_f_t_forms_47 : FA f_t_forms_47 := by rw [e_f_t_forms_47]; exact FA_upd (by first | assumption | exact FA_0) _ (by first | omega | assumption | trivial)
        refine ok_o2 (sp_X9_done c_t_acts r36 ) (fun r50 c_t_acts_50 h13 => ?_)
        exact ok_s (show FA f_t_forms_47 from by first | omega | assumption | trivial | (refine ⟨?_, ?_⟩ <;> first | omega | assumption | trivial | rfl) | (refine ⟨?_, ?_, ?_⟩ <;> first | omega | assumption | trivial | rfl) | (refine ⟨?_, ?_, ?_, ?_⟩ <;> first | omega | assumption | trivial | rfl) | (refine ⟨?_, ?_, ?_, ?_, ?_⟩ <;> first | omega | assumption | trivial | rfl) | (refine ⟨?_, ?_, ?_, ?_, ?_, ?_⟩ <;> first | omega | assumption | trivial | rfl) | (refine ⟨?_, ?_, ?_, ?_, ?_, ?_, ?_⟩ <;> first | omega | assumption | trivial | rfl) | (refine ⟨?_, ?_, ?_, ?_, ?_, ?_, ?_, ?_⟩ <;> first | omega | assumption | trivial | rfl))
      · exfalso; omega
    · first | unfold J_X9_set_22 | skip
      refine ok_o2 (sp_X9_isThrown (0 : Int32) (1 : Int32) ) (fun r22_4 c_t_thrown_22_4 h14 => ?_)
      have h14 : (r22_4.toInt = 0 ∧ c_t_thrown_22_4.toInt = 0 ∧ (0 : Int32).toInt = 0 ∧ (1 : Int32).toInt = 0) ∨ (r22_4.toInt = 1 ∧ c_t_thrown_22_4.toInt = 1 ∧ (0 : Int32).toInt ≠ 0) ∨ (r22_4.toInt = 1 ∧ c_t_thrown_22_4.toInt = 2 ∧ (0 : Int32).toInt = 0 ∧ (1 : Int32).toInt ≠ 0) := h14
      refine ok_eq (fun c15 => ?_) (fun c15 => ?_)
      · exfalso; omega
      · exact ok_s (show FA f_t_forms from by first | omega | assumption | trivial | (refine ⟨?_, ?_⟩ <;> first | omega | assumption | trivial | rfl) | (refine ⟨?_, ?_, ?_⟩ <;> first | omega | assumption | trivial | rfl) | (refine ⟨?_, ?_, ?_, ?_⟩ <;> first | omega | assumption | trivial | rfl) | (refine ⟨?_, ?_, ?_, ?_, ?_⟩ <;> first | omega | assumption | trivial | rfl) | (refine ⟨?_, ?_, ?_, ?_, ?_, ?_⟩ <;> first | omega | assumption | trivial | rfl) | (refine ⟨?_, ?_, ?_, ?_, ?_, ?_, ?_⟩ <;> first | omega | assumption | trivial | rfl) | (refine ⟨?_, ?_, ?_, ?_, ?_, ?_, ?_, ?_⟩ <;> first | omega | assumption | trivial | rfl))
set_option maxHeartbeats 1000000 in
theorem sp_X9_digit (c_t_acts : Int32) (c_t_thrown : Int32) (f_t_forms : Nat → Int64) (p0 : Int32) (p1 : Int32) (p2 : Int32) (hp0 : FA f_t_forms) : ok (F_X9_digit c_t_acts c_t_thrown f_t_forms p0 p1 p2) (fun r => FA r.2.2.2) := by
  have lm164 : (-1 : Int64).toInt = -1 := by decide
  have l032 : (0 : Int32).toInt = 0 := by decide
  have l132 : (1 : Int32).toInt = 1 := by decide
  have l164 : (1 : Int64).toInt = 1 := by decide
  have l232 : (2 : Int32).toInt = 2 := by decide
  unfold F_X9_digit
  refine ok_o (sp_X9_isForm p0 ) (fun r2 h1 => ?_)
  have h1 : (r2.toInt = 1 ∧ 0 ≤ p0.toInt ∧ p0.toInt ≤ 5) ∨ (r2.toInt = 0 ∧ (p0.toInt < 0 ∨ 6 ≤ p0.toInt)) := h1
  refine ok_eq (fun c2 => ?_) (fun c2 => ?_)
  · first | unfold J_X9_digit_15 | skip
    first | unfold J_X9_digit_20 | skip
    refine ok_lt (fun c3 => ?_) (fun c3 => ?_)
    · first | unfold J_X9_digit_29 | skip
      first | unfold J_X9_digit_34 | skip
      refine ok_o2 (sp_X9_isThrown (1 : Int32) (1 : Int32) ) (fun r34 c_t_thrown_34 h4 => ?_)
      have h4 : (r34.toInt = 0 ∧ c_t_thrown_34.toInt = 0 ∧ (1 : Int32).toInt = 0 ∧ (1 : Int32).toInt = 0) ∨ (r34.toInt = 1 ∧ c_t_thrown_34.toInt = 1 ∧ (1 : Int32).toInt ≠ 0) ∨ (r34.toInt = 1 ∧ c_t_thrown_34.toInt = 2 ∧ (1 : Int32).toInt = 0 ∧ (1 : Int32).toInt ≠ 0) := h4
      refine ok_eq (fun c5 => ?_) (fun c5 => ?_)
      · exfalso; omega
      · exact ok_s (show FA f_t_forms from by first | omega | assumption | trivial | (refine ⟨?_, ?_⟩ <;> first | omega | assumption | trivial | rfl) | (refine ⟨?_, ?_, ?_⟩ <;> first | omega | assumption | trivial | rfl) | (refine ⟨?_, ?_, ?_, ?_⟩ <;> first | omega | assumption | trivial | rfl) | (refine ⟨?_, ?_, ?_, ?_, ?_⟩ <;> first | omega | assumption | trivial | rfl) | (refine ⟨?_, ?_, ?_, ?_, ?_, ?_⟩ <;> first | omega | assumption | trivial | rfl) | (refine ⟨?_, ?_, ?_, ?_, ?_, ?_, ?_⟩ <;> first | omega | assumption | trivial | rfl) | (refine ⟨?_, ?_, ?_, ?_, ?_, ?_, ?_, ?_⟩ <;> first | omega | assumption | trivial | rfl))
    · refine ok_le (fun c6 => ?_) (fun c6 => ?_)
      · first | unfold J_X9_digit_34 | skip
        refine ok_o2 (sp_X9_isThrown (1 : Int32) (0 : Int32) ) (fun r34_2 c_t_thrown_34_2 h7 => ?_)
        have h7 : (r34_2.toInt = 0 ∧ c_t_thrown_34_2.toInt = 0 ∧ (1 : Int32).toInt = 0 ∧ (0 : Int32).toInt = 0) ∨ (r34_2.toInt = 1 ∧ c_t_thrown_34_2.toInt = 1 ∧ (1 : Int32).toInt ≠ 0) ∨ (r34_2.toInt = 1 ∧ c_t_thrown_34_2.toInt = 2 ∧ (1 : Int32).toInt = 0 ∧ (0 : Int32).toInt ≠ 0) := h7
        refine ok_eq (fun c8 => ?_) (fun c8 => ?_)
        · exfalso; omega
        · exact ok_s (show FA f_t_forms from by first | omega | assumption | trivial | (refine ⟨?_, ?_⟩ <;> first | omega | assumption | trivial | rfl) | (refine ⟨?_, ?_, ?_⟩ <;> first | omega | assumption | trivial | rfl) | (refine ⟨?_, ?_, ?_, ?_⟩ <;> first | omega | assumption | trivial | rfl) | (refine ⟨?_, ?_, ?_, ?_, ?_⟩ <;> first | omega | assumption | trivial | rfl) | (refine ⟨?_, ?_, ?_, ?_, ?_, ?_⟩ <;> first | omega | assumption | trivial | rfl) | (refine ⟨?_, ?_, ?_, ?_, ?_, ?_, ?_⟩ <;> first | omega | assumption | trivial | rfl) | (refine ⟨?_, ?_, ?_, ?_, ?_, ?_, ?_, ?_⟩ <;> first | omega | assumption | trivial | rfl))
      · first | unfold J_X9_digit_29 | skip
        first | unfold J_X9_digit_34 | skip
        refine ok_o2 (sp_X9_isThrown (1 : Int32) (1 : Int32) ) (fun r34_3 c_t_thrown_34_3 h9 => ?_)
        have h9 : (r34_3.toInt = 0 ∧ c_t_thrown_34_3.toInt = 0 ∧ (1 : Int32).toInt = 0 ∧ (1 : Int32).toInt = 0) ∨ (r34_3.toInt = 1 ∧ c_t_thrown_34_3.toInt = 1 ∧ (1 : Int32).toInt ≠ 0) ∨ (r34_3.toInt = 1 ∧ c_t_thrown_34_3.toInt = 2 ∧ (1 : Int32).toInt = 0 ∧ (1 : Int32).toInt ≠ 0) := h9
        refine ok_eq (fun c10 => ?_) (fun c10 => ?_)
        · exfalso; omega
        · exact ok_s (show FA f_t_forms from by first | omega | assumption | trivial | (refine ⟨?_, ?_⟩ <;> first | omega | assumption | trivial | rfl) | (refine ⟨?_, ?_, ?_⟩ <;> first | omega | assumption | trivial | rfl) | (refine ⟨?_, ?_, ?_, ?_⟩ <;> first | omega | assumption | trivial | rfl) | (refine ⟨?_, ?_, ?_, ?_, ?_⟩ <;> first | omega | assumption | trivial | rfl) | (refine ⟨?_, ?_, ?_, ?_, ?_, ?_⟩ <;> first | omega | assumption | trivial | rfl) | (refine ⟨?_, ?_, ?_, ?_, ?_, ?_, ?_⟩ <;> first | omega | assumption | trivial | rfl) | (refine ⟨?_, ?_, ?_, ?_, ?_, ?_, ?_, ?_⟩ <;> first | omega | assumption | trivial | rfl))
  · refine ok_o (sp_X9_isPlace p1 ) (fun r9 h11 => ?_)
    have h11 : (r9.toInt = 1 ∧ 0 ≤ p1.toInt ∧ p1.toInt ≤ 39) ∨ (r9.toInt = 0 ∧ (p1.toInt < 0 ∨ 40 ≤ p1.toInt)) := h11
    refine ok_eq (fun c12 => ?_) (fun c12 => ?_)
    · first | unfold J_X9_digit_15 | skip
      first | unfold J_X9_digit_20 | skip
      refine ok_lt (fun c13 => ?_) (fun c13 => ?_)
      · first | unfold J_X9_digit_29 | skip
        first | unfold J_X9_digit_34 | skip
        refine ok_o2 (sp_X9_isThrown (1 : Int32) (1 : Int32) ) (fun r34_4 c_t_thrown_34_4 h14 => ?_)
        have h14 : (r34_4.toInt = 0 ∧ c_t_thrown_34_4.toInt = 0 ∧ (1 : Int32).toInt = 0 ∧ (1 : Int32).toInt = 0) ∨ (r34_4.toInt = 1 ∧ c_t_thrown_34_4.toInt = 1 ∧ (1 : Int32).toInt ≠ 0) ∨ (r34_4.toInt = 1 ∧ c_t_thrown_34_4.toInt = 2 ∧ (1 : Int32).toInt = 0 ∧ (1 : Int32).toInt ≠ 0) := h14
        refine ok_eq (fun c15 => ?_) (fun c15 => ?_)
        · exfalso; omega
        · exact ok_s (show FA f_t_forms from by first | omega | assumption | trivial | (refine ⟨?_, ?_⟩ <;> first | omega | assumption | trivial | rfl) | (refine ⟨?_, ?_, ?_⟩ <;> first | omega | assumption | trivial | rfl) | (refine ⟨?_, ?_, ?_, ?_⟩ <;> first | omega | assumption | trivial | rfl) | (refine ⟨?_, ?_, ?_, ?_, ?_⟩ <;> first | omega | assumption | trivial | rfl) | (refine ⟨?_, ?_, ?_, ?_, ?_, ?_⟩ <;> first | omega | assumption | trivial | rfl) | (refine ⟨?_, ?_, ?_, ?_, ?_, ?_, ?_⟩ <;> first | omega | assumption | trivial | rfl) | (refine ⟨?_, ?_, ?_, ?_, ?_, ?_, ?_, ?_⟩ <;> first | omega | assumption | trivial | rfl))
      · refine ok_le (fun c16 => ?_) (fun c16 => ?_)
        · first | unfold J_X9_digit_34 | skip
          refine ok_o2 (sp_X9_isThrown (1 : Int32) (0 : Int32) ) (fun r34_5 c_t_thrown_34_5 h17 => ?_)
          have h17 : (r34_5.toInt = 0 ∧ c_t_thrown_34_5.toInt = 0 ∧ (1 : Int32).toInt = 0 ∧ (0 : Int32).toInt = 0) ∨ (r34_5.toInt = 1 ∧ c_t_thrown_34_5.toInt = 1 ∧ (1 : Int32).toInt ≠ 0) ∨ (r34_5.toInt = 1 ∧ c_t_thrown_34_5.toInt = 2 ∧ (1 : Int32).toInt = 0 ∧ (0 : Int32).toInt ≠ 0) := h17
          refine ok_eq (fun c18 => ?_) (fun c18 => ?_)
          · exfalso; omega
          · exact ok_s (show FA f_t_forms from by first | omega | assumption | trivial | (refine ⟨?_, ?_⟩ <;> first | omega | assumption | trivial | rfl) | (refine ⟨?_, ?_, ?_⟩ <;> first | omega | assumption | trivial | rfl) | (refine ⟨?_, ?_, ?_, ?_⟩ <;> first | omega | assumption | trivial | rfl) | (refine ⟨?_, ?_, ?_, ?_, ?_⟩ <;> first | omega | assumption | trivial | rfl) | (refine ⟨?_, ?_, ?_, ?_, ?_, ?_⟩ <;> first | omega | assumption | trivial | rfl) | (refine ⟨?_, ?_, ?_, ?_, ?_, ?_, ?_⟩ <;> first | omega | assumption | trivial | rfl) | (refine ⟨?_, ?_, ?_, ?_, ?_, ?_, ?_, ?_⟩ <;> first | omega | assumption | trivial | rfl))
        · first | unfold J_X9_digit_29 | skip
          first | unfold J_X9_digit_34 | skip
          refine ok_o2 (sp_X9_isThrown (1 : Int32) (1 : Int32) ) (fun r34_6 c_t_thrown_34_6 h19 => ?_)
          have h19 : (r34_6.toInt = 0 ∧ c_t_thrown_34_6.toInt = 0 ∧ (1 : Int32).toInt = 0 ∧ (1 : Int32).toInt = 0) ∨ (r34_6.toInt = 1 ∧ c_t_thrown_34_6.toInt = 1 ∧ (1 : Int32).toInt ≠ 0) ∨ (r34_6.toInt = 1 ∧ c_t_thrown_34_6.toInt = 2 ∧ (1 : Int32).toInt = 0 ∧ (1 : Int32).toInt ≠ 0) := h19
          refine ok_eq (fun c20 => ?_) (fun c20 => ?_)
          · exfalso; omega
          · exact ok_s (show FA f_t_forms from by first | omega | assumption | trivial | (refine ⟨?_, ?_⟩ <;> first | omega | assumption | trivial | rfl) | (refine ⟨?_, ?_, ?_⟩ <;> first | omega | assumption | trivial | rfl) | (refine ⟨?_, ?_, ?_, ?_⟩ <;> first | omega | assumption | trivial | rfl) | (refine ⟨?_, ?_, ?_, ?_, ?_⟩ <;> first | omega | assumption | trivial | rfl) | (refine ⟨?_, ?_, ?_, ?_, ?_, ?_⟩ <;> first | omega | assumption | trivial | rfl) | (refine ⟨?_, ?_, ?_, ?_, ?_, ?_, ?_⟩ <;> first | omega | assumption | trivial | rfl) | (refine ⟨?_, ?_, ?_, ?_, ?_, ?_, ?_, ?_⟩ <;> first | omega | assumption | trivial | rfl))
    · first | unfold J_X9_digit_20 | skip
      refine ok_lt (fun c21 => ?_) (fun c21 => ?_)
      · first | unfold J_X9_digit_29 | skip
        first | unfold J_X9_digit_34 | skip
        refine ok_o2 (sp_X9_isThrown (0 : Int32) (1 : Int32) ) (fun r34_7 c_t_thrown_34_7 h22 => ?_)
        have h22 : (r34_7.toInt = 0 ∧ c_t_thrown_34_7.toInt = 0 ∧ (0 : Int32).toInt = 0 ∧ (1 : Int32).toInt = 0) ∨ (r34_7.toInt = 1 ∧ c_t_thrown_34_7.toInt = 1 ∧ (0 : Int32).toInt ≠ 0) ∨ (r34_7.toInt = 1 ∧ c_t_thrown_34_7.toInt = 2 ∧ (0 : Int32).toInt = 0 ∧ (1 : Int32).toInt ≠ 0) := h22
        refine ok_eq (fun c23 => ?_) (fun c23 => ?_)
        · exfalso; omega
        · exact ok_s (show FA f_t_forms from by first | omega | assumption | trivial | (refine ⟨?_, ?_⟩ <;> first | omega | assumption | trivial | rfl) | (refine ⟨?_, ?_, ?_⟩ <;> first | omega | assumption | trivial | rfl) | (refine ⟨?_, ?_, ?_, ?_⟩ <;> first | omega | assumption | trivial | rfl) | (refine ⟨?_, ?_, ?_, ?_, ?_⟩ <;> first | omega | assumption | trivial | rfl) | (refine ⟨?_, ?_, ?_, ?_, ?_, ?_⟩ <;> first | omega | assumption | trivial | rfl) | (refine ⟨?_, ?_, ?_, ?_, ?_, ?_, ?_⟩ <;> first | omega | assumption | trivial | rfl) | (refine ⟨?_, ?_, ?_, ?_, ?_, ?_, ?_, ?_⟩ <;> first | omega | assumption | trivial | rfl))
      · refine ok_le (fun c24 => ?_) (fun c24 => ?_)
        · first | unfold J_X9_digit_34 | skip
          refine ok_o2 (sp_X9_isThrown (0 : Int32) (0 : Int32) ) (fun r34_8 c_t_thrown_34_8 h25 => ?_)
          have h25 : (r34_8.toInt = 0 ∧ c_t_thrown_34_8.toInt = 0 ∧ (0 : Int32).toInt = 0 ∧ (0 : Int32).toInt = 0) ∨ (r34_8.toInt = 1 ∧ c_t_thrown_34_8.toInt = 1 ∧ (0 : Int32).toInt ≠ 0) ∨ (r34_8.toInt = 1 ∧ c_t_thrown_34_8.toInt = 2 ∧ (0 : Int32).toInt = 0 ∧ (0 : Int32).toInt ≠ 0) := h25
          refine ok_eq (fun c26 => ?_) (fun c26 => ?_)
          · refine ok_c (ixo (by omega) (by omega)) ?_
            try have a27 := FA_at (f := f_t_forms) (by assumption) p0.toNatClampNeg
            refine ok_bx (fun x4_48 e_x4_48 => ?_)
            try have q_x4_48 : DG x4_48 = DG (f_t_forms p0.toNatClampNeg) := by rw [e_x4_48]
            try have d_x4_48 : -1 ≤ DG x4_48 ∧ DG x4_48 ≤ 39 := by rw [e_x4_48]; exact FA_at (by assumption) _
            refine ok_bx (fun x6_53 e_x6_53 => ?_)
            have d6 : DG x6_53 ≤ 39 := by rw [e_x6_53]; exact DG_shlx (by omega) (by omega) (by rw [DG_1]; omega) (by decide) (by decide)
            refine ok_eq (fun c28 => ?_) (fun c28 => ?_)
            · first | unfold J_X9_digit_94 | skip
              refine ok_c (ixo (by omega) (by omega)) ?_
              have hj : DG (x4_48 &&& (x6_53 ^^^ (-1 : Int64))) ≤ 39 := Int.le_trans (DG_and _ _) (by omega)
              refine ok_bx (fun f_t_forms_94 e_f_t_forms_94 => ?_)
              try have t_f_t_forms_94 : FA f_t_forms_94 := by rw [e_f_t_forms_94]; exact FA_upd (by first | assumption | exact FA_0) _ (by first | omega | assumption | trivial)
              refine ok_c (ixo (by omega) (by omega)) ?_
              try have a30 := FA_at (f := f_t_forms_94) (by assumption) p0.toNatClampNeg
              refine ok_eqL (fun c29 => ?_) (fun c29 => ?_)
              · refine ok_o2 (sp_X9_done c_t_acts (0 : Int32) ) (fun r113 c_t_acts_113 h31 => ?_)
                exact ok_s (show FA f_t_forms_94 from by first | omega | assumption | trivial | (refine ⟨?_, ?_⟩ <;> first | omega | assumption | trivial | rfl) | (refine ⟨?_, ?_, ?_⟩ <;> first | omega | assumption | trivial | rfl) | (refine ⟨?_, ?_, ?_, ?_⟩ <;> first | omega | assumption | trivial | rfl) | (refine ⟨?_, ?_, ?_, ?_, ?_⟩ <;> first | omega | assumption | trivial | rfl) | (refine ⟨?_, ?_, ?_, ?_, ?_, ?_⟩ <;> first | omega | assumption | trivial | rfl) | (refine ⟨?_, ?_, ?_, ?_, ?_, ?_, ?_⟩ <;> first | omega | assumption | trivial | rfl) | (refine ⟨?_, ?_, ?_, ?_, ?_, ?_, ?_, ?_⟩ <;> first | omega | assumption | trivial | rfl))
              · refine ok_o2 (sp_X9_done c_t_acts (1 : Int32) ) (fun r113_2 c_t_acts_113_2 h32 => ?_)
                exact ok_s (show FA f_t_forms_94 from by first | omega | assumption | trivial | (refine ⟨?_, ?_⟩ <;> first | omega | assumption | trivial | rfl) | (refine ⟨?_, ?_, ?_⟩ <;> first | omega | assumption | trivial | rfl) | (refine ⟨?_, ?_, ?_, ?_⟩ <;> first | omega | assumption | trivial | rfl) | (refine ⟨?_, ?_, ?_, ?_, ?_⟩ <;> first | omega | assumption | trivial | rfl) | (refine ⟨?_, ?_, ?_, ?_, ?_, ?_⟩ <;> first | omega | assumption | trivial | rfl) | (refine ⟨?_, ?_, ?_, ?_, ?_, ?_, ?_⟩ <;> first | omega | assumption | trivial | rfl) | (refine ⟨?_, ?_, ?_, ?_, ?_, ?_, ?_, ?_⟩ <;> first | omega | assumption | trivial | rfl))
            · refine ok_eq (fun c33 => ?_) (fun c33 => ?_)
              · first | unfold J_X9_digit_94 | skip
                refine ok_c (ixo (by omega) (by omega)) ?_
                have hj : DG (x4_48 ||| x6_53) ≤ 39 := DG_or (by omega) (by omega)
                refine ok_bx (fun f_t_forms_94_2 e_f_t_forms_94_2 => ?_)
                try have t_f_t_forms_94_2 : FA f_t_forms_94_2 := by rw [e_f_t_forms_94_2]; exact FA_upd (by first | assumption | exact FA_0) _ (by first | omega | assumption | trivial)
                refine ok_c (ixo (by omega) (by omega)) ?_
                try have a35 := FA_at (f := f_t_forms_94_2) (by assumption) p0.toNatClampNeg
                refine ok_eqL (fun c34 => ?_) (fun c34 => ?_)
                · refine ok_o2 (sp_X9_done c_t_acts (0 : Int32) ) (fun r113_3 c_t_acts_113_3 h36 => ?_)
                  exact ok_s (show FA f_t_forms_94_2 from by first | omega | assumption | trivial | (refine ⟨?_, ?_⟩ <;> first | omega | assumption | trivial | rfl) | (refine ⟨?_, ?_, ?_⟩ <;> first | omega | assumption | trivial | rfl) | (refine ⟨?_, ?_, ?_, ?_⟩ <;> first | omega | assumption | trivial | rfl) | (refine ⟨?_, ?_, ?_, ?_, ?_⟩ <;> first | omega | assumption | trivial | rfl) | (refine ⟨?_, ?_, ?_, ?_, ?_, ?_⟩ <;> first | omega | assumption | trivial | rfl) | (refine ⟨?_, ?_, ?_, ?_, ?_, ?_, ?_⟩ <;> first | omega | assumption | trivial | rfl) | (refine ⟨?_, ?_, ?_, ?_, ?_, ?_, ?_, ?_⟩ <;> first | omega | assumption | trivial | rfl))
                · refine ok_o2 (sp_X9_done c_t_acts (1 : Int32) ) (fun r113_4 c_t_acts_113_4 h37 => ?_)
                  exact ok_s (show FA f_t_forms_94_2 from by first | omega | assumption | trivial | (refine ⟨?_, ?_⟩ <;> first | omega | assumption | trivial | rfl) | (refine ⟨?_, ?_, ?_⟩ <;> first | omega | assumption | trivial | rfl) | (refine ⟨?_, ?_, ?_, ?_⟩ <;> first | omega | assumption | trivial | rfl) | (refine ⟨?_, ?_, ?_, ?_, ?_⟩ <;> first | omega | assumption | trivial | rfl) | (refine ⟨?_, ?_, ?_, ?_, ?_, ?_⟩ <;> first | omega | assumption | trivial | rfl) | (refine ⟨?_, ?_, ?_, ?_, ?_, ?_, ?_⟩ <;> first | omega | assumption | trivial | rfl) | (refine ⟨?_, ?_, ?_, ?_, ?_, ?_, ?_, ?_⟩ <;> first | omega | assumption | trivial | rfl))
              · first | unfold J_X9_digit_94 | skip
                refine ok_c (ixo (by omega) (by omega)) ?_
                have hj : DG (x4_48 ^^^ x6_53) ≤ 39 := DG_xor (by omega) (by omega)
                refine ok_bx (fun f_t_forms_94_3 e_f_t_forms_94_3 => ?_)
                try have t_f_t_forms_94_3 : FA f_t_forms_94_3 := by rw [e_f_t_forms_94_3]; exact FA_upd (by first | assumption | exact FA_0) _ (by first | omega | assumption | trivial)
                refine ok_c (ixo (by omega) (by omega)) ?_
                try have a39 := FA_at (f := f_t_forms_94_3) (by assumption) p0.toNatClampNeg
                refine ok_eqL (fun c38 => ?_) (fun c38 => ?_)
                · refine ok_o2 (sp_X9_done c_t_acts (0 : Int32) ) (fun r113_5 c_t_acts_113_5 h40 => ?_)
                  exact ok_s (show FA f_t_forms_94_3 from by first | omega | assumption | trivial | (refine ⟨?_, ?_⟩ <;> first | omega | assumption | trivial | rfl) | (refine ⟨?_, ?_, ?_⟩ <;> first | omega | assumption | trivial | rfl) | (refine ⟨?_, ?_, ?_, ?_⟩ <;> first | omega | assumption | trivial | rfl) | (refine ⟨?_, ?_, ?_, ?_, ?_⟩ <;> first | omega | assumption | trivial | rfl) | (refine ⟨?_, ?_, ?_, ?_, ?_, ?_⟩ <;> first | omega | assumption | trivial | rfl) | (refine ⟨?_, ?_, ?_, ?_, ?_, ?_, ?_⟩ <;> first | omega | assumption | trivial | rfl) | (refine ⟨?_, ?_, ?_, ?_, ?_, ?_, ?_, ?_⟩ <;> first | omega | assumption | trivial | rfl))
                · refine ok_o2 (sp_X9_done c_t_acts (1 : Int32) ) (fun r113_6 c_t_acts_113_6 h41 => ?_)
                  exact ok_s (show FA f_t_forms_94_3 from by first | omega | assumption | trivial | (refine ⟨?_, ?_⟩ <;> first | omega | assumption | trivial | rfl) | (refine ⟨?_, ?_, ?_⟩ <;> first | omega | assumption | trivial | rfl) | (refine ⟨?_, ?_, ?_, ?_⟩ <;> first | omega | assumption | trivial | rfl) | (refine ⟨?_, ?_, ?_, ?_, ?_⟩ <;> first | omega | assumption | trivial | rfl) | (refine ⟨?_, ?_, ?_, ?_, ?_, ?_⟩ <;> first | omega | assumption | trivial | rfl) | (refine ⟨?_, ?_, ?_, ?_, ?_, ?_, ?_⟩ <;> first | omega | assumption | trivial | rfl) | (refine ⟨?_, ?_, ?_, ?_, ?_, ?_, ?_, ?_⟩ <;> first | omega | assumption | trivial | rfl))
          · exfalso; omega
        · first | unfold J_X9_digit_29 | skip
          first | unfold J_X9_digit_34 | skip
          refine ok_o2 (sp_X9_isThrown (0 : Int32) (1 : Int32) ) (fun r34_9 c_t_thrown_34_9 h42 => ?_)
          have h42 : (r34_9.toInt = 0 ∧ c_t_thrown_34_9.toInt = 0 ∧ (0 : Int32).toInt = 0 ∧ (1 : Int32).toInt = 0) ∨ (r34_9.toInt = 1 ∧ c_t_thrown_34_9.toInt = 1 ∧ (0 : Int32).toInt ≠ 0) ∨ (r34_9.toInt = 1 ∧ c_t_thrown_34_9.toInt = 2 ∧ (0 : Int32).toInt = 0 ∧ (1 : Int32).toInt ≠ 0) := h42
          refine ok_eq (fun c43 => ?_) (fun c43 => ?_)
          · exfalso; omega
          · exact ok_s (show FA f_t_forms from by first | omega | assumption | trivial | (refine ⟨?_, ?_⟩ <;> first | omega | assumption | trivial | rfl) | (refine ⟨?_, ?_, ?_⟩ <;> first | omega | assumption | trivial | rfl) | (refine ⟨?_, ?_, ?_, ?_⟩ <;> first | omega | assumption | trivial | rfl) | (refine ⟨?_, ?_, ?_, ?_, ?_⟩ <;> first | omega | assumption | trivial | rfl) | (refine ⟨?_, ?_, ?_, ?_, ?_, ?_⟩ <;> first | omega | assumption | trivial | rfl) | (refine ⟨?_, ?_, ?_, ?_, ?_, ?_, ?_⟩ <;> first | omega | assumption | trivial | rfl) | (refine ⟨?_, ?_, ?_, ?_, ?_, ?_, ?_, ?_⟩ <;> first | omega | assumption | trivial | rfl))
set_option maxHeartbeats 1000000 in
theorem sp_X9_run (c_t_acts : Int32) (c_t_thrown : Int32) (f_t_forms : Nat → Int64) (p0 : Int32) (p1 : Int32) (p2 : Int32) (hp0 : FA f_t_forms) : ok (F_X9_run c_t_acts c_t_thrown f_t_forms p0 p1 p2) (fun r => FA r.2.2.2) := by
  have l032 : (0 : Int32).toInt = 0 := by decide
  have l132 : (1 : Int32).toInt = 1 := by decide
  have l164 : (1 : Int64).toInt = 1 := by decide
  have l4032 : (40 : Int32).toInt = 40 := by decide
  unfold F_X9_run
  refine ok_o (sp_X9_isForm p0 ) (fun r2 h1 => ?_)
  have h1 : (r2.toInt = 1 ∧ 0 ≤ p0.toInt ∧ p0.toInt ≤ 5) ∨ (r2.toInt = 0 ∧ (p0.toInt < 0 ∨ 6 ≤ p0.toInt)) := h1
  refine ok_eq (fun c2 => ?_) (fun c2 => ?_)
  · first | unfold J_X9_run_13 | skip
    refine ok_lt (fun c3 => ?_) (fun c3 => ?_)
    · first | unfold J_X9_run_28 | skip
      first | unfold J_X9_run_33 | skip
      refine ok_o2 (sp_X9_isThrown (1 : Int32) (1 : Int32) ) (fun r33 c_t_thrown_33 h4 => ?_)
      have h4 : (r33.toInt = 0 ∧ c_t_thrown_33.toInt = 0 ∧ (1 : Int32).toInt = 0 ∧ (1 : Int32).toInt = 0) ∨ (r33.toInt = 1 ∧ c_t_thrown_33.toInt = 1 ∧ (1 : Int32).toInt ≠ 0) ∨ (r33.toInt = 1 ∧ c_t_thrown_33.toInt = 2 ∧ (1 : Int32).toInt = 0 ∧ (1 : Int32).toInt ≠ 0) := h4
      refine ok_eq (fun c5 => ?_) (fun c5 => ?_)
      · exfalso; omega
      · exact ok_s (show FA f_t_forms from by first | omega | assumption | trivial | (refine ⟨?_, ?_⟩ <;> first | omega | assumption | trivial | rfl) | (refine ⟨?_, ?_, ?_⟩ <;> first | omega | assumption | trivial | rfl) | (refine ⟨?_, ?_, ?_, ?_⟩ <;> first | omega | assumption | trivial | rfl) | (refine ⟨?_, ?_, ?_, ?_, ?_⟩ <;> first | omega | assumption | trivial | rfl) | (refine ⟨?_, ?_, ?_, ?_, ?_, ?_⟩ <;> first | omega | assumption | trivial | rfl) | (refine ⟨?_, ?_, ?_, ?_, ?_, ?_, ?_⟩ <;> first | omega | assumption | trivial | rfl) | (refine ⟨?_, ?_, ?_, ?_, ?_, ?_, ?_, ?_⟩ <;> first | omega | assumption | trivial | rfl))
    · refine ok_lt (fun c6 => ?_) (fun c6 => ?_)
      · first | unfold J_X9_run_28 | skip
        first | unfold J_X9_run_33 | skip
        refine ok_o2 (sp_X9_isThrown (1 : Int32) (1 : Int32) ) (fun r33_2 c_t_thrown_33_2 h7 => ?_)
        have h7 : (r33_2.toInt = 0 ∧ c_t_thrown_33_2.toInt = 0 ∧ (1 : Int32).toInt = 0 ∧ (1 : Int32).toInt = 0) ∨ (r33_2.toInt = 1 ∧ c_t_thrown_33_2.toInt = 1 ∧ (1 : Int32).toInt ≠ 0) ∨ (r33_2.toInt = 1 ∧ c_t_thrown_33_2.toInt = 2 ∧ (1 : Int32).toInt = 0 ∧ (1 : Int32).toInt ≠ 0) := h7
        refine ok_eq (fun c8 => ?_) (fun c8 => ?_)
        · exfalso; omega
        · exact ok_s (show FA f_t_forms from by first | omega | assumption | trivial | (refine ⟨?_, ?_⟩ <;> first | omega | assumption | trivial | rfl) | (refine ⟨?_, ?_, ?_⟩ <;> first | omega | assumption | trivial | rfl) | (refine ⟨?_, ?_, ?_, ?_⟩ <;> first | omega | assumption | trivial | rfl) | (refine ⟨?_, ?_, ?_, ?_, ?_⟩ <;> first | omega | assumption | trivial | rfl) | (refine ⟨?_, ?_, ?_, ?_, ?_, ?_⟩ <;> first | omega | assumption | trivial | rfl) | (refine ⟨?_, ?_, ?_, ?_, ?_, ?_, ?_⟩ <;> first | omega | assumption | trivial | rfl) | (refine ⟨?_, ?_, ?_, ?_, ?_, ?_, ?_, ?_⟩ <;> first | omega | assumption | trivial | rfl))
      · refine ok_le (fun c9 => ?_) (fun c9 => ?_)
        · first | unfold J_X9_run_33 | skip
          refine ok_o2 (sp_X9_isThrown (1 : Int32) (0 : Int32) ) (fun r33_3 c_t_thrown_33_3 h10 => ?_)
          have h10 : (r33_3.toInt = 0 ∧ c_t_thrown_33_3.toInt = 0 ∧ (1 : Int32).toInt = 0 ∧ (0 : Int32).toInt = 0) ∨ (r33_3.toInt = 1 ∧ c_t_thrown_33_3.toInt = 1 ∧ (1 : Int32).toInt ≠ 0) ∨ (r33_3.toInt = 1 ∧ c_t_thrown_33_3.toInt = 2 ∧ (1 : Int32).toInt = 0 ∧ (0 : Int32).toInt ≠ 0) := h10
          refine ok_eq (fun c11 => ?_) (fun c11 => ?_)
          · exfalso; omega
          · exact ok_s (show FA f_t_forms from by first | omega | assumption | trivial | (refine ⟨?_, ?_⟩ <;> first | omega | assumption | trivial | rfl) | (refine ⟨?_, ?_, ?_⟩ <;> first | omega | assumption | trivial | rfl) | (refine ⟨?_, ?_, ?_, ?_⟩ <;> first | omega | assumption | trivial | rfl) | (refine ⟨?_, ?_, ?_, ?_, ?_⟩ <;> first | omega | assumption | trivial | rfl) | (refine ⟨?_, ?_, ?_, ?_, ?_, ?_⟩ <;> first | omega | assumption | trivial | rfl) | (refine ⟨?_, ?_, ?_, ?_, ?_, ?_, ?_⟩ <;> first | omega | assumption | trivial | rfl) | (refine ⟨?_, ?_, ?_, ?_, ?_, ?_, ?_, ?_⟩ <;> first | omega | assumption | trivial | rfl))
        · first | unfold J_X9_run_28 | skip
          first | unfold J_X9_run_33 | skip
          refine ok_o2 (sp_X9_isThrown (1 : Int32) (1 : Int32) ) (fun r33_4 c_t_thrown_33_4 h12 => ?_)
          have h12 : (r33_4.toInt = 0 ∧ c_t_thrown_33_4.toInt = 0 ∧ (1 : Int32).toInt = 0 ∧ (1 : Int32).toInt = 0) ∨ (r33_4.toInt = 1 ∧ c_t_thrown_33_4.toInt = 1 ∧ (1 : Int32).toInt ≠ 0) ∨ (r33_4.toInt = 1 ∧ c_t_thrown_33_4.toInt = 2 ∧ (1 : Int32).toInt = 0 ∧ (1 : Int32).toInt ≠ 0) := h12
          refine ok_eq (fun c13 => ?_) (fun c13 => ?_)
          · exfalso; omega
          · exact ok_s (show FA f_t_forms from by first | omega | assumption | trivial | (refine ⟨?_, ?_⟩ <;> first | omega | assumption | trivial | rfl) | (refine ⟨?_, ?_, ?_⟩ <;> first | omega | assumption | trivial | rfl) | (refine ⟨?_, ?_, ?_, ?_⟩ <;> first | omega | assumption | trivial | rfl) | (refine ⟨?_, ?_, ?_, ?_, ?_⟩ <;> first | omega | assumption | trivial | rfl) | (refine ⟨?_, ?_, ?_, ?_, ?_, ?_⟩ <;> first | omega | assumption | trivial | rfl) | (refine ⟨?_, ?_, ?_, ?_, ?_, ?_, ?_⟩ <;> first | omega | assumption | trivial | rfl) | (refine ⟨?_, ?_, ?_, ?_, ?_, ?_, ?_, ?_⟩ <;> first | omega | assumption | trivial | rfl))
  · first | unfold J_X9_run_13 | skip
    refine ok_lt (fun c14 => ?_) (fun c14 => ?_)
    · first | unfold J_X9_run_28 | skip
      first | unfold J_X9_run_33 | skip
      refine ok_o2 (sp_X9_isThrown (0 : Int32) (1 : Int32) ) (fun r33_5 c_t_thrown_33_5 h15 => ?_)
      have h15 : (r33_5.toInt = 0 ∧ c_t_thrown_33_5.toInt = 0 ∧ (0 : Int32).toInt = 0 ∧ (1 : Int32).toInt = 0) ∨ (r33_5.toInt = 1 ∧ c_t_thrown_33_5.toInt = 1 ∧ (0 : Int32).toInt ≠ 0) ∨ (r33_5.toInt = 1 ∧ c_t_thrown_33_5.toInt = 2 ∧ (0 : Int32).toInt = 0 ∧ (1 : Int32).toInt ≠ 0) := h15
      refine ok_eq (fun c16 => ?_) (fun c16 => ?_)
      · exfalso; omega
      · exact ok_s (show FA f_t_forms from by first | omega | assumption | trivial | (refine ⟨?_, ?_⟩ <;> first | omega | assumption | trivial | rfl) | (refine ⟨?_, ?_, ?_⟩ <;> first | omega | assumption | trivial | rfl) | (refine ⟨?_, ?_, ?_, ?_⟩ <;> first | omega | assumption | trivial | rfl) | (refine ⟨?_, ?_, ?_, ?_, ?_⟩ <;> first | omega | assumption | trivial | rfl) | (refine ⟨?_, ?_, ?_, ?_, ?_, ?_⟩ <;> first | omega | assumption | trivial | rfl) | (refine ⟨?_, ?_, ?_, ?_, ?_, ?_, ?_⟩ <;> first | omega | assumption | trivial | rfl) | (refine ⟨?_, ?_, ?_, ?_, ?_, ?_, ?_, ?_⟩ <;> first | omega | assumption | trivial | rfl))
    · refine ok_lt (fun c17 => ?_) (fun c17 => ?_)
      · first | unfold J_X9_run_28 | skip
        first | unfold J_X9_run_33 | skip
        refine ok_o2 (sp_X9_isThrown (0 : Int32) (1 : Int32) ) (fun r33_6 c_t_thrown_33_6 h18 => ?_)
        have h18 : (r33_6.toInt = 0 ∧ c_t_thrown_33_6.toInt = 0 ∧ (0 : Int32).toInt = 0 ∧ (1 : Int32).toInt = 0) ∨ (r33_6.toInt = 1 ∧ c_t_thrown_33_6.toInt = 1 ∧ (0 : Int32).toInt ≠ 0) ∨ (r33_6.toInt = 1 ∧ c_t_thrown_33_6.toInt = 2 ∧ (0 : Int32).toInt = 0 ∧ (1 : Int32).toInt ≠ 0) := h18
        refine ok_eq (fun c19 => ?_) (fun c19 => ?_)
        · exfalso; omega
        · exact ok_s (show FA f_t_forms from by first | omega | assumption | trivial | (refine ⟨?_, ?_⟩ <;> first | omega | assumption | trivial | rfl) | (refine ⟨?_, ?_, ?_⟩ <;> first | omega | assumption | trivial | rfl) | (refine ⟨?_, ?_, ?_, ?_⟩ <;> first | omega | assumption | trivial | rfl) | (refine ⟨?_, ?_, ?_, ?_, ?_⟩ <;> first | omega | assumption | trivial | rfl) | (refine ⟨?_, ?_, ?_, ?_, ?_, ?_⟩ <;> first | omega | assumption | trivial | rfl) | (refine ⟨?_, ?_, ?_, ?_, ?_, ?_, ?_⟩ <;> first | omega | assumption | trivial | rfl) | (refine ⟨?_, ?_, ?_, ?_, ?_, ?_, ?_, ?_⟩ <;> first | omega | assumption | trivial | rfl))
      · refine ok_le (fun c20 => ?_) (fun c20 => ?_)
        · first | unfold J_X9_run_33 | skip
          refine ok_o2 (sp_X9_isThrown (0 : Int32) (0 : Int32) ) (fun r33_7 c_t_thrown_33_7 h21 => ?_)
          have h21 : (r33_7.toInt = 0 ∧ c_t_thrown_33_7.toInt = 0 ∧ (0 : Int32).toInt = 0 ∧ (0 : Int32).toInt = 0) ∨ (r33_7.toInt = 1 ∧ c_t_thrown_33_7.toInt = 1 ∧ (0 : Int32).toInt ≠ 0) ∨ (r33_7.toInt = 1 ∧ c_t_thrown_33_7.toInt = 2 ∧ (0 : Int32).toInt = 0 ∧ (0 : Int32).toInt ≠ 0) := h21
          refine ok_eq (fun c22 => ?_) (fun c22 => ?_)
          · refine ok_L2 (fun y4_44 f_t_forms_44 => 0 ≤ y4_44.toInt ∧ FA f_t_forms_44) (fun y4_44 f_t_forms_44 => (p2.toInt - y4_44.toInt + 1).toNat) (fun ih44 y4_44 f_t_forms_44 hI23 hih23 => ?_) 20000 p1 f_t_forms (show 0 ≤ p1.toInt ∧ FA f_t_forms from by first | omega | assumption | trivial | (refine ⟨?_, ?_⟩ <;> first | omega | assumption | trivial | rfl) | (refine ⟨?_, ?_, ?_⟩ <;> first | omega | assumption | trivial | rfl) | (refine ⟨?_, ?_, ?_, ?_⟩ <;> first | omega | assumption | trivial | rfl) | (refine ⟨?_, ?_, ?_, ?_, ?_⟩ <;> first | omega | assumption | trivial | rfl) | (refine ⟨?_, ?_, ?_, ?_, ?_, ?_⟩ <;> first | omega | assumption | trivial | rfl) | (refine ⟨?_, ?_, ?_, ?_, ?_, ?_, ?_⟩ <;> first | omega | assumption | trivial | rfl) | (refine ⟨?_, ?_, ?_, ?_, ?_, ?_, ?_, ?_⟩ <;> first | omega | assumption | trivial | rfl)) (show (p2.toInt - p1.toInt + 1).toNat < 20000 from by omega)
            have hI23 : 0 ≤ y4_44.toInt ∧ FA f_t_forms_44 := hI23
            obtain ⟨hI23_0, hI23_1⟩ := hI23
            unfold S_X9_run_44
            refine ok_le (fun c24 => ?_) (fun c24 => ?_)
            · refine ok_c (ixo (by omega) (by omega)) ?_
              try have a25 := FA_at (f := f_t_forms_44) (by assumption) p0.toNatClampNeg
              refine ok_o (sp_X9_onesOf (f_t_forms_44 p0.toNatClampNeg) ) (fun r76 h26 => ?_)
              have h26 : 0 ≤ r76.toInt ∧ r76.toInt ≤ 127 := h26
              refine ok_o2 (sp_X9_done c_t_acts r76 ) (fun r79 c_t_acts_79 h27 => ?_)
              exact ok_s (show FA f_t_forms_44 from by first | omega | assumption | trivial | (refine ⟨?_, ?_⟩ <;> first | omega | assumption | trivial | rfl) | (refine ⟨?_, ?_, ?_⟩ <;> first | omega | assumption | trivial | rfl) | (refine ⟨?_, ?_, ?_, ?_⟩ <;> first | omega | assumption | trivial | rfl) | (refine ⟨?_, ?_, ?_, ?_, ?_⟩ <;> first | omega | assumption | trivial | rfl) | (refine ⟨?_, ?_, ?_, ?_, ?_, ?_⟩ <;> first | omega | assumption | trivial | rfl) | (refine ⟨?_, ?_, ?_, ?_, ?_, ?_, ?_⟩ <;> first | omega | assumption | trivial | rfl) | (refine ⟨?_, ?_, ?_, ?_, ?_, ?_, ?_, ?_⟩ <;> first | omega | assumption | trivial | rfl))
            · refine ok_c (ixo (by omega) (by omega)) ?_
              refine ok_c (ixo (by omega) (by omega)) ?_
              try have a28 := FA_at (f := f_t_forms_44) (by assumption) p0.toNatClampNeg
              have hx : DG ((f_t_forms_44 p0.toNatClampNeg) ^^^ ((1 : Int64) <<< (y4_44.toInt64 &&& 63))) ≤ 39 := DG_xor (by omega) (DG_shlx (by omega) (by omega) (by rw [DG_1]; omega) (by decide) (by decide))
              refine ok_bx (fun f_t_forms_62 e_f_t_forms_62 => ?_)
              try have t_f_t_forms_62 : FA f_t_forms_62 := by rw [e_f_t_forms_62]; exact FA_upd (by first | assumption | exact FA_0) _ (by first | omega | assumption | trivial)
              refine ok_bx (fun x4_63 e_x4_63 => ?_)
              try have t_x4_63 : x4_63.toInt = y4_44.toInt + 1 := by rw [e_x4_63]; exact addT1 (show (1 : Int32).toInt = 1 from by decide) (by omega) (by omega)
              exact hih23 x4_63 f_t_forms_62 (show 0 ≤ x4_63.toInt ∧ FA f_t_forms_62 from by first | omega | assumption | trivial | (refine ⟨?_, ?_⟩ <;> first | omega | assumption | trivial | rfl) | (refine ⟨?_, ?_, ?_⟩ <;> first | omega | assumption | trivial | rfl) | (refine ⟨?_, ?_, ?_, ?_⟩ <;> first | omega | assumption | trivial | rfl) | (refine ⟨?_, ?_, ?_, ?_, ?_⟩ <;> first | omega | assumption | trivial | rfl) | (refine ⟨?_, ?_, ?_, ?_, ?_, ?_⟩ <;> first | omega | assumption | trivial | rfl) | (refine ⟨?_, ?_, ?_, ?_, ?_, ?_, ?_⟩ <;> first | omega | assumption | trivial | rfl) | (refine ⟨?_, ?_, ?_, ?_, ?_, ?_, ?_, ?_⟩ <;> first | omega | assumption | trivial | rfl)) (show (p2.toInt - x4_63.toInt + 1).toNat < (p2.toInt - y4_44.toInt + 1).toNat from by omega)
          · exfalso; omega
        · first | unfold J_X9_run_28 | skip
          first | unfold J_X9_run_33 | skip
          refine ok_o2 (sp_X9_isThrown (0 : Int32) (1 : Int32) ) (fun r33_8 c_t_thrown_33_8 h29 => ?_)
          have h29 : (r33_8.toInt = 0 ∧ c_t_thrown_33_8.toInt = 0 ∧ (0 : Int32).toInt = 0 ∧ (1 : Int32).toInt = 0) ∨ (r33_8.toInt = 1 ∧ c_t_thrown_33_8.toInt = 1 ∧ (0 : Int32).toInt ≠ 0) ∨ (r33_8.toInt = 1 ∧ c_t_thrown_33_8.toInt = 2 ∧ (0 : Int32).toInt = 0 ∧ (1 : Int32).toInt ≠ 0) := h29
          refine ok_eq (fun c30 => ?_) (fun c30 => ?_)
          · exfalso; omega
          · exact ok_s (show FA f_t_forms from by first | omega | assumption | trivial | (refine ⟨?_, ?_⟩ <;> first | omega | assumption | trivial | rfl) | (refine ⟨?_, ?_, ?_⟩ <;> first | omega | assumption | trivial | rfl) | (refine ⟨?_, ?_, ?_, ?_⟩ <;> first | omega | assumption | trivial | rfl) | (refine ⟨?_, ?_, ?_, ?_, ?_⟩ <;> first | omega | assumption | trivial | rfl) | (refine ⟨?_, ?_, ?_, ?_, ?_, ?_⟩ <;> first | omega | assumption | trivial | rfl) | (refine ⟨?_, ?_, ?_, ?_, ?_, ?_, ?_⟩ <;> first | omega | assumption | trivial | rfl) | (refine ⟨?_, ?_, ?_, ?_, ?_, ?_, ?_, ?_⟩ <;> first | omega | assumption | trivial | rfl))
set_option maxHeartbeats 1000000 in
theorem sp_X9_copy (c_t_acts : Int32) (f_t_forms : Nat → Int64) (p0 : Int32) (p1 : Int32) (hp0 : FA f_t_forms) : ok (F_X9_copy c_t_acts f_t_forms p0 p1) (fun r => FA r.2.2.2) := by
  have l032 : (0 : Int32).toInt = 0 := by decide
  have l132 : (1 : Int32).toInt = 1 := by decide
  unfold F_X9_copy
  refine ok_o (sp_X9_isForm p0 ) (fun r2 h1 => ?_)
  have h1 : (r2.toInt = 1 ∧ 0 ≤ p0.toInt ∧ p0.toInt ≤ 5) ∨ (r2.toInt = 0 ∧ (p0.toInt < 0 ∨ 6 ≤ p0.toInt)) := h1
  refine ok_eq (fun c2 => ?_) (fun c2 => ?_)
  · refine ok_o2 (sp_X9_isThrown_ (1 : Int32) ) (fun r20 c_t_thrown_20 h3 => ?_)
    have h3 : (r20.toInt = 0 ∧ c_t_thrown_20.toInt = 0 ∧ (1 : Int32).toInt = 0) ∨ (r20.toInt = 1 ∧ c_t_thrown_20.toInt = 1 ∧ (1 : Int32).toInt ≠ 0) := h3
    refine ok_eq (fun c4 => ?_) (fun c4 => ?_)
    · exfalso; omega
    · exact ok_s (show FA f_t_forms from by first | omega | assumption | trivial | (refine ⟨?_, ?_⟩ <;> first | omega | assumption | trivial | rfl) | (refine ⟨?_, ?_, ?_⟩ <;> first | omega | assumption | trivial | rfl) | (refine ⟨?_, ?_, ?_, ?_⟩ <;> first | omega | assumption | trivial | rfl) | (refine ⟨?_, ?_, ?_, ?_, ?_⟩ <;> first | omega | assumption | trivial | rfl) | (refine ⟨?_, ?_, ?_, ?_, ?_, ?_⟩ <;> first | omega | assumption | trivial | rfl) | (refine ⟨?_, ?_, ?_, ?_, ?_, ?_, ?_⟩ <;> first | omega | assumption | trivial | rfl) | (refine ⟨?_, ?_, ?_, ?_, ?_, ?_, ?_, ?_⟩ <;> first | omega | assumption | trivial | rfl))
  · refine ok_o (sp_X9_isForm p1 ) (fun r9 h5 => ?_)
    have h5 : (r9.toInt = 1 ∧ 0 ≤ p1.toInt ∧ p1.toInt ≤ 5) ∨ (r9.toInt = 0 ∧ (p1.toInt < 0 ∨ 6 ≤ p1.toInt)) := h5
    refine ok_eq (fun c6 => ?_) (fun c6 => ?_)
    · refine ok_o2 (sp_X9_isThrown_ (1 : Int32) ) (fun r20_2 c_t_thrown_20_2 h7 => ?_)
      have h7 : (r20_2.toInt = 0 ∧ c_t_thrown_20_2.toInt = 0 ∧ (1 : Int32).toInt = 0) ∨ (r20_2.toInt = 1 ∧ c_t_thrown_20_2.toInt = 1 ∧ (1 : Int32).toInt ≠ 0) := h7
      refine ok_eq (fun c8 => ?_) (fun c8 => ?_)
      · exfalso; omega
      · exact ok_s (show FA f_t_forms from by first | omega | assumption | trivial | (refine ⟨?_, ?_⟩ <;> first | omega | assumption | trivial | rfl) | (refine ⟨?_, ?_, ?_⟩ <;> first | omega | assumption | trivial | rfl) | (refine ⟨?_, ?_, ?_, ?_⟩ <;> first | omega | assumption | trivial | rfl) | (refine ⟨?_, ?_, ?_, ?_, ?_⟩ <;> first | omega | assumption | trivial | rfl) | (refine ⟨?_, ?_, ?_, ?_, ?_, ?_⟩ <;> first | omega | assumption | trivial | rfl) | (refine ⟨?_, ?_, ?_, ?_, ?_, ?_, ?_⟩ <;> first | omega | assumption | trivial | rfl) | (refine ⟨?_, ?_, ?_, ?_, ?_, ?_, ?_, ?_⟩ <;> first | omega | assumption | trivial | rfl))
    · refine ok_o2 (sp_X9_isThrown_ (0 : Int32) ) (fun r20_3 c_t_thrown_20_3 h9 => ?_)
      have h9 : (r20_3.toInt = 0 ∧ c_t_thrown_20_3.toInt = 0 ∧ (0 : Int32).toInt = 0) ∨ (r20_3.toInt = 1 ∧ c_t_thrown_20_3.toInt = 1 ∧ (0 : Int32).toInt ≠ 0) := h9
      refine ok_eq (fun c10 => ?_) (fun c10 => ?_)
      · refine ok_c (ixo (by omega) (by omega)) ?_
        try have a11 := FA_at (f := f_t_forms) (by assumption) p0.toNatClampNeg
        refine ok_o3 (sp_X9_give c_t_acts f_t_forms p1 (f_t_forms p0.toNatClampNeg) (by first | omega | assumption | trivial | exact wt_of (by assumption) (by omega)) (by first | omega | assumption | trivial | exact wt_of (by assumption) (by omega)) (by first | omega | assumption | trivial | exact wt_of (by assumption) (by omega)) (by first | omega | assumption | trivial | exact wt_of (by assumption) (by omega))) (fun r38 c_t_acts_38 f_t_forms_38 h12 => ?_)
        have h12 : FA f_t_forms_38 := h12
        exact ok_s (show FA f_t_forms_38 from by first | omega | assumption | trivial | (refine ⟨?_, ?_⟩ <;> first | omega | assumption | trivial | rfl) | (refine ⟨?_, ?_, ?_⟩ <;> first | omega | assumption | trivial | rfl) | (refine ⟨?_, ?_, ?_, ?_⟩ <;> first | omega | assumption | trivial | rfl) | (refine ⟨?_, ?_, ?_, ?_, ?_⟩ <;> first | omega | assumption | trivial | rfl) | (refine ⟨?_, ?_, ?_, ?_, ?_, ?_⟩ <;> first | omega | assumption | trivial | rfl) | (refine ⟨?_, ?_, ?_, ?_, ?_, ?_, ?_⟩ <;> first | omega | assumption | trivial | rfl) | (refine ⟨?_, ?_, ?_, ?_, ?_, ?_, ?_, ?_⟩ <;> first | omega | assumption | trivial | rfl))
      · exfalso; omega
set_option maxHeartbeats 1000000 in
theorem sp_X9_swap (c_t_acts : Int32) (c_t_thrown : Int32) (f_t_forms : Nat → Int64) (p0 : Int32) (p1 : Int32) (hp0 : FA f_t_forms) : ok (F_X9_swap c_t_acts c_t_thrown f_t_forms p0 p1) (fun r => FA r.2.2.2) := by
  have l032 : (0 : Int32).toInt = 0 := by decide
  have l132 : (1 : Int32).toInt = 1 := by decide
  unfold F_X9_swap
  refine ok_o (sp_X9_isForm p0 ) (fun r2 h1 => ?_)
  have h1 : (r2.toInt = 1 ∧ 0 ≤ p0.toInt ∧ p0.toInt ≤ 5) ∨ (r2.toInt = 0 ∧ (p0.toInt < 0 ∨ 6 ≤ p0.toInt)) := h1
  refine ok_eq (fun c2 => ?_) (fun c2 => ?_)
  · first | unfold J_X9_swap_15 | skip
    first | unfold J_X9_swap_20 | skip
    refine ok_o2 (sp_X9_isThrown_ (1 : Int32) ) (fun r20 c_t_thrown_20 h3 => ?_)
    have h3 : (r20.toInt = 0 ∧ c_t_thrown_20.toInt = 0 ∧ (1 : Int32).toInt = 0) ∨ (r20.toInt = 1 ∧ c_t_thrown_20.toInt = 1 ∧ (1 : Int32).toInt ≠ 0) := h3
    refine ok_eq (fun c4 => ?_) (fun c4 => ?_)
    · exfalso; omega
    · exact ok_s (show FA f_t_forms from by first | omega | assumption | trivial | (refine ⟨?_, ?_⟩ <;> first | omega | assumption | trivial | rfl) | (refine ⟨?_, ?_, ?_⟩ <;> first | omega | assumption | trivial | rfl) | (refine ⟨?_, ?_, ?_, ?_⟩ <;> first | omega | assumption | trivial | rfl) | (refine ⟨?_, ?_, ?_, ?_, ?_⟩ <;> first | omega | assumption | trivial | rfl) | (refine ⟨?_, ?_, ?_, ?_, ?_, ?_⟩ <;> first | omega | assumption | trivial | rfl) | (refine ⟨?_, ?_, ?_, ?_, ?_, ?_, ?_⟩ <;> first | omega | assumption | trivial | rfl) | (refine ⟨?_, ?_, ?_, ?_, ?_, ?_, ?_, ?_⟩ <;> first | omega | assumption | trivial | rfl))
  · refine ok_o (sp_X9_isForm p1 ) (fun r9 h5 => ?_)
    have h5 : (r9.toInt = 1 ∧ 0 ≤ p1.toInt ∧ p1.toInt ≤ 5) ∨ (r9.toInt = 0 ∧ (p1.toInt < 0 ∨ 6 ≤ p1.toInt)) := h5
    refine ok_eq (fun c6 => ?_) (fun c6 => ?_)
    · first | unfold J_X9_swap_15 | skip
      first | unfold J_X9_swap_20 | skip
      refine ok_o2 (sp_X9_isThrown_ (1 : Int32) ) (fun r20_2 c_t_thrown_20_2 h7 => ?_)
      have h7 : (r20_2.toInt = 0 ∧ c_t_thrown_20_2.toInt = 0 ∧ (1 : Int32).toInt = 0) ∨ (r20_2.toInt = 1 ∧ c_t_thrown_20_2.toInt = 1 ∧ (1 : Int32).toInt ≠ 0) := h7
      refine ok_eq (fun c8 => ?_) (fun c8 => ?_)
      · exfalso; omega
      · exact ok_s (show FA f_t_forms from by first | omega | assumption | trivial | (refine ⟨?_, ?_⟩ <;> first | omega | assumption | trivial | rfl) | (refine ⟨?_, ?_, ?_⟩ <;> first | omega | assumption | trivial | rfl) | (refine ⟨?_, ?_, ?_, ?_⟩ <;> first | omega | assumption | trivial | rfl) | (refine ⟨?_, ?_, ?_, ?_, ?_⟩ <;> first | omega | assumption | trivial | rfl) | (refine ⟨?_, ?_, ?_, ?_, ?_, ?_⟩ <;> first | omega | assumption | trivial | rfl) | (refine ⟨?_, ?_, ?_, ?_, ?_, ?_, ?_⟩ <;> first | omega | assumption | trivial | rfl) | (refine ⟨?_, ?_, ?_, ?_, ?_, ?_, ?_, ?_⟩ <;> first | omega | assumption | trivial | rfl))
    · first | unfold J_X9_swap_20 | skip
      refine ok_o2 (sp_X9_isThrown_ (0 : Int32) ) (fun r20_3 c_t_thrown_20_3 h9 => ?_)
      have h9 : (r20_3.toInt = 0 ∧ c_t_thrown_20_3.toInt = 0 ∧ (0 : Int32).toInt = 0) ∨ (r20_3.toInt = 1 ∧ c_t_thrown_20_3.toInt = 1 ∧ (0 : Int32).toInt ≠ 0) := h9
      refine ok_eq (fun c10 => ?_) (fun c10 => ?_)
      · refine ok_c (ixo (by omega) (by omega)) ?_
        try have a11 := FA_at (f := f_t_forms) (by assumption) p0.toNatClampNeg
        refine ok_bx (fun x3_34 e_x3_34 => ?_)
        try have q_x3_34 : DG x3_34 = DG (f_t_forms p0.toNatClampNeg) := by rw [e_x3_34]
        try have d_x3_34 : -1 ≤ DG x3_34 ∧ DG x3_34 ≤ 39 := by rw [e_x3_34]; exact FA_at (by assumption) _
        refine ok_c (ixo (by omega) (by omega)) ?_
        try have a13 := FA_at (f := f_t_forms) (by assumption) p1.toNatClampNeg
        refine ok_eqL (fun c12 => ?_) (fun c12 => ?_)
        · first | unfold J_X9_swap_51 | skip
          refine ok_c (ixo (by omega) (by omega)) ?_
          refine ok_c (ixo (by omega) (by omega)) ?_
          try have a14 := FA_at (f := f_t_forms) (by assumption) p1.toNatClampNeg
          refine ok_bx (fun f_t_forms_64 e_f_t_forms_64 => ?_)
          try have t_f_t_forms_64 : FA f_t_forms_64 := by rw [e_f_t_forms_64]; exact FA_upd (by first | assumption | exact FA_0) _ (by first | omega | assumption | trivial)
          refine ok_c (ixo (by omega) (by omega)) ?_
          refine ok_bx (fun f_t_forms_71 e_f_t_forms_71 => ?_)
          try have t_f_t_forms_71 : FA f_t_forms_71 := by rw [e_f_t_forms_71]; exact FA_upd (by first | assumption | exact FA_0) _ (by first | omega | assumption | trivial)
          refine ok_eq (fun c15 => ?_) (fun c15 => ?_)
          · exfalso; omega
          · refine ok_o2 (sp_X9_done c_t_acts (0 : Int32) ) (fun r83 c_t_acts_83 h16 => ?_)
            exact ok_s (show FA f_t_forms_71 from by first | omega | assumption | trivial | (refine ⟨?_, ?_⟩ <;> first | omega | assumption | trivial | rfl) | (refine ⟨?_, ?_, ?_⟩ <;> first | omega | assumption | trivial | rfl) | (refine ⟨?_, ?_, ?_, ?_⟩ <;> first | omega | assumption | trivial | rfl) | (refine ⟨?_, ?_, ?_, ?_, ?_⟩ <;> first | omega | assumption | trivial | rfl) | (refine ⟨?_, ?_, ?_, ?_, ?_, ?_⟩ <;> first | omega | assumption | trivial | rfl) | (refine ⟨?_, ?_, ?_, ?_, ?_, ?_, ?_⟩ <;> first | omega | assumption | trivial | rfl) | (refine ⟨?_, ?_, ?_, ?_, ?_, ?_, ?_, ?_⟩ <;> first | omega | assumption | trivial | rfl))
        · first | unfold J_X9_swap_51 | skip
          refine ok_c (ixo (by omega) (by omega)) ?_
          refine ok_c (ixo (by omega) (by omega)) ?_
          try have a17 := FA_at (f := f_t_forms) (by assumption) p1.toNatClampNeg
          refine ok_bx (fun f_t_forms_64_2 e_f_t_forms_64_2 => ?_)
          try have t_f_t_forms_64_2 : FA f_t_forms_64_2 := by rw [e_f_t_forms_64_2]; exact FA_upd (by first | assumption | exact FA_0) _ (by first | omega | assumption | trivial)
          refine ok_c (ixo (by omega) (by omega)) ?_
          refine ok_bx (fun f_t_forms_71_2 e_f_t_forms_71_2 => ?_)
          try have t_f_t_forms_71_2 : FA f_t_forms_71_2 := by rw [e_f_t_forms_71_2]; exact FA_upd (by first | assumption | exact FA_0) _ (by first | omega | assumption | trivial)
          refine ok_eq (fun c18 => ?_) (fun c18 => ?_)
          · refine ok_o2 (sp_X9_done c_t_acts (1 : Int32) ) (fun r83_2 c_t_acts_83_2 h19 => ?_)
            exact ok_s (show FA f_t_forms_71_2 from by first | omega | assumption | trivial | (refine ⟨?_, ?_⟩ <;> first | omega | assumption | trivial | rfl) | (refine ⟨?_, ?_, ?_⟩ <;> first | omega | assumption | trivial | rfl) | (refine ⟨?_, ?_, ?_, ?_⟩ <;> first | omega | assumption | trivial | rfl) | (refine ⟨?_, ?_, ?_, ?_, ?_⟩ <;> first | omega | assumption | trivial | rfl) | (refine ⟨?_, ?_, ?_, ?_, ?_, ?_⟩ <;> first | omega | assumption | trivial | rfl) | (refine ⟨?_, ?_, ?_, ?_, ?_, ?_, ?_⟩ <;> first | omega | assumption | trivial | rfl) | (refine ⟨?_, ?_, ?_, ?_, ?_, ?_, ?_, ?_⟩ <;> first | omega | assumption | trivial | rfl))
          · exfalso; omega
      · exfalso; omega
set_option maxHeartbeats 1000000 in
theorem sp_X9_shift (c_t_acts : Int32) (c_t_refused : Int32) (c_t_thrown : Int32) (f_t_forms : Nat → Int64) (p0 : Int32) (p1 : Int32) (hp0 : FA f_t_forms) : ok (F_X9_shift c_t_acts c_t_refused c_t_thrown f_t_forms p0 p1) (fun r => FA r.2.2.2.2) := by
  have lm4032 : (-40 : Int32).toInt = -40 := by decide
  have l032 : (0 : Int32).toInt = 0 := by decide
  have l064 : (0 : Int64).toInt = 0 := by decide
  have l132 : (1 : Int32).toInt = 1 := by decide
  have l4032 : (40 : Int32).toInt = 40 := by decide
  unfold F_X9_shift
  refine ok_o (sp_X9_isForm p0 ) (fun r2 h1 => ?_)
  have h1 : (r2.toInt = 1 ∧ 0 ≤ p0.toInt ∧ p0.toInt ≤ 5) ∨ (r2.toInt = 0 ∧ (p0.toInt < 0 ∨ 6 ≤ p0.toInt)) := h1
  refine ok_eq (fun c2 => ?_) (fun c2 => ?_)
  · first | unfold J_X9_shift_13 | skip
    refine ok_le (fun c3 => ?_) (fun c3 => ?_)
    · first | unfold J_X9_shift_25 | skip
      first | unfold J_X9_shift_30 | skip
      refine ok_o2 (sp_X9_isThrown (1 : Int32) (1 : Int32) ) (fun r30 c_t_thrown_30 h4 => ?_)
      have h4 : (r30.toInt = 0 ∧ c_t_thrown_30.toInt = 0 ∧ (1 : Int32).toInt = 0 ∧ (1 : Int32).toInt = 0) ∨ (r30.toInt = 1 ∧ c_t_thrown_30.toInt = 1 ∧ (1 : Int32).toInt ≠ 0) ∨ (r30.toInt = 1 ∧ c_t_thrown_30.toInt = 2 ∧ (1 : Int32).toInt = 0 ∧ (1 : Int32).toInt ≠ 0) := h4
      refine ok_eq (fun c5 => ?_) (fun c5 => ?_)
      · exfalso; omega
      · exact ok_s (show FA f_t_forms from by first | omega | assumption | trivial | (refine ⟨?_, ?_⟩ <;> first | omega | assumption | trivial | rfl) | (refine ⟨?_, ?_, ?_⟩ <;> first | omega | assumption | trivial | rfl) | (refine ⟨?_, ?_, ?_, ?_⟩ <;> first | omega | assumption | trivial | rfl) | (refine ⟨?_, ?_, ?_, ?_, ?_⟩ <;> first | omega | assumption | trivial | rfl) | (refine ⟨?_, ?_, ?_, ?_, ?_, ?_⟩ <;> first | omega | assumption | trivial | rfl) | (refine ⟨?_, ?_, ?_, ?_, ?_, ?_, ?_⟩ <;> first | omega | assumption | trivial | rfl) | (refine ⟨?_, ?_, ?_, ?_, ?_, ?_, ?_, ?_⟩ <;> first | omega | assumption | trivial | rfl))
    · refine ok_lt (fun c6 => ?_) (fun c6 => ?_)
      · first | unfold J_X9_shift_30 | skip
        refine ok_o2 (sp_X9_isThrown (1 : Int32) (0 : Int32) ) (fun r30_2 c_t_thrown_30_2 h7 => ?_)
        have h7 : (r30_2.toInt = 0 ∧ c_t_thrown_30_2.toInt = 0 ∧ (1 : Int32).toInt = 0 ∧ (0 : Int32).toInt = 0) ∨ (r30_2.toInt = 1 ∧ c_t_thrown_30_2.toInt = 1 ∧ (1 : Int32).toInt ≠ 0) ∨ (r30_2.toInt = 1 ∧ c_t_thrown_30_2.toInt = 2 ∧ (1 : Int32).toInt = 0 ∧ (0 : Int32).toInt ≠ 0) := h7
        refine ok_eq (fun c8 => ?_) (fun c8 => ?_)
        · exfalso; omega
        · exact ok_s (show FA f_t_forms from by first | omega | assumption | trivial | (refine ⟨?_, ?_⟩ <;> first | omega | assumption | trivial | rfl) | (refine ⟨?_, ?_, ?_⟩ <;> first | omega | assumption | trivial | rfl) | (refine ⟨?_, ?_, ?_, ?_⟩ <;> first | omega | assumption | trivial | rfl) | (refine ⟨?_, ?_, ?_, ?_, ?_⟩ <;> first | omega | assumption | trivial | rfl) | (refine ⟨?_, ?_, ?_, ?_, ?_, ?_⟩ <;> first | omega | assumption | trivial | rfl) | (refine ⟨?_, ?_, ?_, ?_, ?_, ?_, ?_⟩ <;> first | omega | assumption | trivial | rfl) | (refine ⟨?_, ?_, ?_, ?_, ?_, ?_, ?_, ?_⟩ <;> first | omega | assumption | trivial | rfl))
      · first | unfold J_X9_shift_25 | skip
        first | unfold J_X9_shift_30 | skip
        refine ok_o2 (sp_X9_isThrown (1 : Int32) (1 : Int32) ) (fun r30_3 c_t_thrown_30_3 h9 => ?_)
        have h9 : (r30_3.toInt = 0 ∧ c_t_thrown_30_3.toInt = 0 ∧ (1 : Int32).toInt = 0 ∧ (1 : Int32).toInt = 0) ∨ (r30_3.toInt = 1 ∧ c_t_thrown_30_3.toInt = 1 ∧ (1 : Int32).toInt ≠ 0) ∨ (r30_3.toInt = 1 ∧ c_t_thrown_30_3.toInt = 2 ∧ (1 : Int32).toInt = 0 ∧ (1 : Int32).toInt ≠ 0) := h9
        refine ok_eq (fun c10 => ?_) (fun c10 => ?_)
        · exfalso; omega
        · exact ok_s (show FA f_t_forms from by first | omega | assumption | trivial | (refine ⟨?_, ?_⟩ <;> first | omega | assumption | trivial | rfl) | (refine ⟨?_, ?_, ?_⟩ <;> first | omega | assumption | trivial | rfl) | (refine ⟨?_, ?_, ?_, ?_⟩ <;> first | omega | assumption | trivial | rfl) | (refine ⟨?_, ?_, ?_, ?_, ?_⟩ <;> first | omega | assumption | trivial | rfl) | (refine ⟨?_, ?_, ?_, ?_, ?_, ?_⟩ <;> first | omega | assumption | trivial | rfl) | (refine ⟨?_, ?_, ?_, ?_, ?_, ?_, ?_⟩ <;> first | omega | assumption | trivial | rfl) | (refine ⟨?_, ?_, ?_, ?_, ?_, ?_, ?_, ?_⟩ <;> first | omega | assumption | trivial | rfl))
  · first | unfold J_X9_shift_13 | skip
    refine ok_le (fun c11 => ?_) (fun c11 => ?_)
    · first | unfold J_X9_shift_25 | skip
      first | unfold J_X9_shift_30 | skip
      refine ok_o2 (sp_X9_isThrown (0 : Int32) (1 : Int32) ) (fun r30_4 c_t_thrown_30_4 h12 => ?_)
      have h12 : (r30_4.toInt = 0 ∧ c_t_thrown_30_4.toInt = 0 ∧ (0 : Int32).toInt = 0 ∧ (1 : Int32).toInt = 0) ∨ (r30_4.toInt = 1 ∧ c_t_thrown_30_4.toInt = 1 ∧ (0 : Int32).toInt ≠ 0) ∨ (r30_4.toInt = 1 ∧ c_t_thrown_30_4.toInt = 2 ∧ (0 : Int32).toInt = 0 ∧ (1 : Int32).toInt ≠ 0) := h12
      refine ok_eq (fun c13 => ?_) (fun c13 => ?_)
      · exfalso; omega
      · exact ok_s (show FA f_t_forms from by first | omega | assumption | trivial | (refine ⟨?_, ?_⟩ <;> first | omega | assumption | trivial | rfl) | (refine ⟨?_, ?_, ?_⟩ <;> first | omega | assumption | trivial | rfl) | (refine ⟨?_, ?_, ?_, ?_⟩ <;> first | omega | assumption | trivial | rfl) | (refine ⟨?_, ?_, ?_, ?_, ?_⟩ <;> first | omega | assumption | trivial | rfl) | (refine ⟨?_, ?_, ?_, ?_, ?_, ?_⟩ <;> first | omega | assumption | trivial | rfl) | (refine ⟨?_, ?_, ?_, ?_, ?_, ?_, ?_⟩ <;> first | omega | assumption | trivial | rfl) | (refine ⟨?_, ?_, ?_, ?_, ?_, ?_, ?_, ?_⟩ <;> first | omega | assumption | trivial | rfl))
    · refine ok_lt (fun c14 => ?_) (fun c14 => ?_)
      · first | unfold J_X9_shift_30 | skip
        refine ok_o2 (sp_X9_isThrown (0 : Int32) (0 : Int32) ) (fun r30_5 c_t_thrown_30_5 h15 => ?_)
        have h15 : (r30_5.toInt = 0 ∧ c_t_thrown_30_5.toInt = 0 ∧ (0 : Int32).toInt = 0 ∧ (0 : Int32).toInt = 0) ∨ (r30_5.toInt = 1 ∧ c_t_thrown_30_5.toInt = 1 ∧ (0 : Int32).toInt ≠ 0) ∨ (r30_5.toInt = 1 ∧ c_t_thrown_30_5.toInt = 2 ∧ (0 : Int32).toInt = 0 ∧ (0 : Int32).toInt ≠ 0) := h15
        refine ok_eq (fun c16 => ?_) (fun c16 => ?_)
        · refine ok_c (ixo (by omega) (by omega)) ?_
          try have a18 := FA_at (f := f_t_forms) (by assumption) p0.toNatClampNeg
          have z_c17 := DG_z (f_t_forms p0.toNatClampNeg)
          refine ok_eqL (fun c17 => ?_) (fun c17 => ?_)
          · first | unfold J_X9_shift_70 | skip
            refine ok_le (fun c19 => ?_) (fun c19 => ?_)
            · refine ok_c (ixo (by omega) (by omega)) ?_
              try have a20 := FA_at (f := f_t_forms) (by assumption) p0.toNatClampNeg
              try have hs : DG ((f_t_forms p0.toNatClampNeg) <<< (p1.toInt64 &&& 63)) ≤ 39 := DG_shlx (by omega) (by omega) (by omega) (by decide) (by decide)
              try have hn := negT (a := p1) (by omega)
              try have hs : DG ((f_t_forms p0.toNatClampNeg) >>> ((-p1).toInt64 &&& 63)) ≤ 39 := Int.le_trans (DG_shr (by rw [hn]; omega) (by rw [hn]; omega) (by omega)) (by omega)
              refine ok_o3 (sp_X9_give c_t_acts f_t_forms p0 ((f_t_forms p0.toNatClampNeg) <<< (p1.toInt64 &&& 63)) (by first | omega | assumption | trivial | exact wt_of (by assumption) (by omega)) (by first | omega | assumption | trivial | exact wt_of (by assumption) (by omega)) (by first | omega | assumption | trivial | exact wt_of (by assumption) (by omega)) (by first | omega | assumption | trivial | exact wt_of (by assumption) (by omega))) (fun r96 c_t_acts_96 f_t_forms_96 h21 => ?_)
              have h21 : FA f_t_forms_96 := h21
              exact ok_s (show FA f_t_forms_96 from by first | omega | assumption | trivial | (refine ⟨?_, ?_⟩ <;> first | omega | assumption | trivial | rfl) | (refine ⟨?_, ?_, ?_⟩ <;> first | omega | assumption | trivial | rfl) | (refine ⟨?_, ?_, ?_, ?_⟩ <;> first | omega | assumption | trivial | rfl) | (refine ⟨?_, ?_, ?_, ?_, ?_⟩ <;> first | omega | assumption | trivial | rfl) | (refine ⟨?_, ?_, ?_, ?_, ?_, ?_⟩ <;> first | omega | assumption | trivial | rfl) | (refine ⟨?_, ?_, ?_, ?_, ?_, ?_, ?_⟩ <;> first | omega | assumption | trivial | rfl) | (refine ⟨?_, ?_, ?_, ?_, ?_, ?_, ?_, ?_⟩ <;> first | omega | assumption | trivial | rfl))
            · refine ok_c (ixo (by omega) (by omega)) ?_
              try have a22 := FA_at (f := f_t_forms) (by assumption) p0.toNatClampNeg
              try have hs : DG ((f_t_forms p0.toNatClampNeg) <<< (p1.toInt64 &&& 63)) ≤ 39 := DG_shlx (by omega) (by omega) (by omega) (by decide) (by decide)
              try have hn := negT (a := p1) (by omega)
              try have hs : DG ((f_t_forms p0.toNatClampNeg) >>> ((-p1).toInt64 &&& 63)) ≤ 39 := Int.le_trans (DG_shr (by rw [hn]; omega) (by rw [hn]; omega) (by omega)) (by omega)
              refine ok_o3 (sp_X9_give c_t_acts f_t_forms p0 ((f_t_forms p0.toNatClampNeg) >>> ((-p1).toInt64 &&& 63)) (by first | omega | assumption | trivial | exact wt_of (by assumption) (by omega)) (by first | omega | assumption | trivial | exact wt_of (by assumption) (by omega)) (by first | omega | assumption | trivial | exact wt_of (by assumption) (by omega)) (by first | omega | assumption | trivial | exact wt_of (by assumption) (by omega))) (fun r96_2 c_t_acts_96_2 f_t_forms_96_2 h23 => ?_)
              have h23 : FA f_t_forms_96_2 := h23
              exact ok_s (show FA f_t_forms_96_2 from by first | omega | assumption | trivial | (refine ⟨?_, ?_⟩ <;> first | omega | assumption | trivial | rfl) | (refine ⟨?_, ?_, ?_⟩ <;> first | omega | assumption | trivial | rfl) | (refine ⟨?_, ?_, ?_, ?_⟩ <;> first | omega | assumption | trivial | rfl) | (refine ⟨?_, ?_, ?_, ?_, ?_⟩ <;> first | omega | assumption | trivial | rfl) | (refine ⟨?_, ?_, ?_, ?_, ?_, ?_⟩ <;> first | omega | assumption | trivial | rfl) | (refine ⟨?_, ?_, ?_, ?_, ?_, ?_, ?_⟩ <;> first | omega | assumption | trivial | rfl) | (refine ⟨?_, ?_, ?_, ?_, ?_, ?_, ?_, ?_⟩ <;> first | omega | assumption | trivial | rfl))
          · refine ok_c (ixo (by omega) (by omega)) ?_
            try have a24 := FA_at (f := f_t_forms) (by assumption) p0.toNatClampNeg
            refine ok_o (sp_X9_degreeOf (f_t_forms p0.toNatClampNeg) ) (fun r55 h25 => ?_)
            have h25 : r55.toInt = DG (f_t_forms p0.toNatClampNeg) ∧ -1 ≤ r55.toInt ∧ r55.toInt ≤ 63 := h25
            obtain ⟨w26, e_w26⟩ : ∃ w : Int32, w = r55 + p1 := ⟨_, rfl⟩
            try have t_w26 : w26.toInt = r55.toInt + p1.toInt := by rw [e_w26]; exact addT1 (Eq.refl _) (by omega) (by omega)
            try rw [← e_w26]
            refine ok_lt (fun c27 => ?_) (fun c27 => ?_)
            · first | unfold J_X9_shift_70 | skip
              try rw [← e_w26]
              refine ok_le (fun c28 => ?_) (fun c28 => ?_)
              · refine ok_c (ixo (by omega) (by omega)) ?_
                try have a29 := FA_at (f := f_t_forms) (by assumption) p0.toNatClampNeg
                try have hs : DG ((f_t_forms p0.toNatClampNeg) <<< (p1.toInt64 &&& 63)) ≤ 39 := DG_shlx (by omega) (by omega) (by omega) (by decide) (by decide)
                try have hn := negT (a := p1) (by omega)
                try have hs : DG ((f_t_forms p0.toNatClampNeg) >>> ((-p1).toInt64 &&& 63)) ≤ 39 := Int.le_trans (DG_shr (by rw [hn]; omega) (by rw [hn]; omega) (by omega)) (by omega)
                refine ok_o3 (sp_X9_give c_t_acts f_t_forms p0 ((f_t_forms p0.toNatClampNeg) <<< (p1.toInt64 &&& 63)) (by first | omega | assumption | trivial | exact wt_of (by assumption) (by omega)) (by first | omega | assumption | trivial | exact wt_of (by assumption) (by omega)) (by first | omega | assumption | trivial | exact wt_of (by assumption) (by omega)) (by first | omega | assumption | trivial | exact wt_of (by assumption) (by omega))) (fun r96_3 c_t_acts_96_3 f_t_forms_96_3 h30 => ?_)
                have h30 : FA f_t_forms_96_3 := h30
                exact ok_s (show FA f_t_forms_96_3 from by first | omega | assumption | trivial | (refine ⟨?_, ?_⟩ <;> first | omega | assumption | trivial | rfl) | (refine ⟨?_, ?_, ?_⟩ <;> first | omega | assumption | trivial | rfl) | (refine ⟨?_, ?_, ?_, ?_⟩ <;> first | omega | assumption | trivial | rfl) | (refine ⟨?_, ?_, ?_, ?_, ?_⟩ <;> first | omega | assumption | trivial | rfl) | (refine ⟨?_, ?_, ?_, ?_, ?_, ?_⟩ <;> first | omega | assumption | trivial | rfl) | (refine ⟨?_, ?_, ?_, ?_, ?_, ?_, ?_⟩ <;> first | omega | assumption | trivial | rfl) | (refine ⟨?_, ?_, ?_, ?_, ?_, ?_, ?_, ?_⟩ <;> first | omega | assumption | trivial | rfl))
              · refine ok_c (ixo (by omega) (by omega)) ?_
                try have a31 := FA_at (f := f_t_forms) (by assumption) p0.toNatClampNeg
                try have hs : DG ((f_t_forms p0.toNatClampNeg) <<< (p1.toInt64 &&& 63)) ≤ 39 := DG_shlx (by omega) (by omega) (by omega) (by decide) (by decide)
                try have hn := negT (a := p1) (by omega)
                try have hs : DG ((f_t_forms p0.toNatClampNeg) >>> ((-p1).toInt64 &&& 63)) ≤ 39 := Int.le_trans (DG_shr (by rw [hn]; omega) (by rw [hn]; omega) (by omega)) (by omega)
                refine ok_o3 (sp_X9_give c_t_acts f_t_forms p0 ((f_t_forms p0.toNatClampNeg) >>> ((-p1).toInt64 &&& 63)) (by first | omega | assumption | trivial | exact wt_of (by assumption) (by omega)) (by first | omega | assumption | trivial | exact wt_of (by assumption) (by omega)) (by first | omega | assumption | trivial | exact wt_of (by assumption) (by omega)) (by first | omega | assumption | trivial | exact wt_of (by assumption) (by omega))) (fun r96_4 c_t_acts_96_4 f_t_forms_96_4 h32 => ?_)
                have h32 : FA f_t_forms_96_4 := h32
                exact ok_s (show FA f_t_forms_96_4 from by first | omega | assumption | trivial | (refine ⟨?_, ?_⟩ <;> first | omega | assumption | trivial | rfl) | (refine ⟨?_, ?_, ?_⟩ <;> first | omega | assumption | trivial | rfl) | (refine ⟨?_, ?_, ?_, ?_⟩ <;> first | omega | assumption | trivial | rfl) | (refine ⟨?_, ?_, ?_, ?_, ?_⟩ <;> first | omega | assumption | trivial | rfl) | (refine ⟨?_, ?_, ?_, ?_, ?_, ?_⟩ <;> first | omega | assumption | trivial | rfl) | (refine ⟨?_, ?_, ?_, ?_, ?_, ?_, ?_⟩ <;> first | omega | assumption | trivial | rfl) | (refine ⟨?_, ?_, ?_, ?_, ?_, ?_, ?_, ?_⟩ <;> first | omega | assumption | trivial | rfl))
            · refine ok_o2 (sp_X9_no c_t_refused ) (fun r66 c_t_refused_66 h33 => ?_)
              exact ok_s (show FA f_t_forms from by first | omega | assumption | trivial | (refine ⟨?_, ?_⟩ <;> first | omega | assumption | trivial | rfl) | (refine ⟨?_, ?_, ?_⟩ <;> first | omega | assumption | trivial | rfl) | (refine ⟨?_, ?_, ?_, ?_⟩ <;> first | omega | assumption | trivial | rfl) | (refine ⟨?_, ?_, ?_, ?_, ?_⟩ <;> first | omega | assumption | trivial | rfl) | (refine ⟨?_, ?_, ?_, ?_, ?_, ?_⟩ <;> first | omega | assumption | trivial | rfl) | (refine ⟨?_, ?_, ?_, ?_, ?_, ?_, ?_⟩ <;> first | omega | assumption | trivial | rfl) | (refine ⟨?_, ?_, ?_, ?_, ?_, ?_, ?_, ?_⟩ <;> first | omega | assumption | trivial | rfl))
        · exfalso; omega
      · first | unfold J_X9_shift_25 | skip
        first | unfold J_X9_shift_30 | skip
        refine ok_o2 (sp_X9_isThrown (0 : Int32) (1 : Int32) ) (fun r30_6 c_t_thrown_30_6 h34 => ?_)
        have h34 : (r30_6.toInt = 0 ∧ c_t_thrown_30_6.toInt = 0 ∧ (0 : Int32).toInt = 0 ∧ (1 : Int32).toInt = 0) ∨ (r30_6.toInt = 1 ∧ c_t_thrown_30_6.toInt = 1 ∧ (0 : Int32).toInt ≠ 0) ∨ (r30_6.toInt = 1 ∧ c_t_thrown_30_6.toInt = 2 ∧ (0 : Int32).toInt = 0 ∧ (1 : Int32).toInt ≠ 0) := h34
        refine ok_eq (fun c35 => ?_) (fun c35 => ?_)
        · exfalso; omega
        · exact ok_s (show FA f_t_forms from by first | omega | assumption | trivial | (refine ⟨?_, ?_⟩ <;> first | omega | assumption | trivial | rfl) | (refine ⟨?_, ?_, ?_⟩ <;> first | omega | assumption | trivial | rfl) | (refine ⟨?_, ?_, ?_, ?_⟩ <;> first | omega | assumption | trivial | rfl) | (refine ⟨?_, ?_, ?_, ?_, ?_⟩ <;> first | omega | assumption | trivial | rfl) | (refine ⟨?_, ?_, ?_, ?_, ?_, ?_⟩ <;> first | omega | assumption | trivial | rfl) | (refine ⟨?_, ?_, ?_, ?_, ?_, ?_, ?_⟩ <;> first | omega | assumption | trivial | rfl) | (refine ⟨?_, ?_, ?_, ?_, ?_, ?_, ?_, ?_⟩ <;> first | omega | assumption | trivial | rfl))
set_option maxHeartbeats 1000000 in
theorem sp_X9_turn (c_t_acts : Int32) (f_t_forms : Nat → Int64) (p0 : Int32) (hp0 : FA f_t_forms) : ok (F_X9_turn c_t_acts f_t_forms p0) (fun r => FA r.2.2.2) := by
  have l032 : (0 : Int32).toInt = 0 := by decide
  have l132 : (1 : Int32).toInt = 1 := by decide
  unfold F_X9_turn
  refine ok_o (sp_X9_isForm p0 ) (fun r2 h1 => ?_)
  have h1 : (r2.toInt = 1 ∧ 0 ≤ p0.toInt ∧ p0.toInt ≤ 5) ∨ (r2.toInt = 0 ∧ (p0.toInt < 0 ∨ 6 ≤ p0.toInt)) := h1
  refine ok_eq (fun c2 => ?_) (fun c2 => ?_)
  · refine ok_o2 (sp_X9_isThrown_ (1 : Int32) ) (fun r13 c_t_thrown_13 h3 => ?_)
    have h3 : (r13.toInt = 0 ∧ c_t_thrown_13.toInt = 0 ∧ (1 : Int32).toInt = 0) ∨ (r13.toInt = 1 ∧ c_t_thrown_13.toInt = 1 ∧ (1 : Int32).toInt ≠ 0) := h3
    refine ok_eq (fun c4 => ?_) (fun c4 => ?_)
    · exfalso; omega
    · exact ok_s (show FA f_t_forms from by first | omega | assumption | trivial | (refine ⟨?_, ?_⟩ <;> first | omega | assumption | trivial | rfl) | (refine ⟨?_, ?_, ?_⟩ <;> first | omega | assumption | trivial | rfl) | (refine ⟨?_, ?_, ?_, ?_⟩ <;> first | omega | assumption | trivial | rfl) | (refine ⟨?_, ?_, ?_, ?_, ?_⟩ <;> first | omega | assumption | trivial | rfl) | (refine ⟨?_, ?_, ?_, ?_, ?_, ?_⟩ <;> first | omega | assumption | trivial | rfl) | (refine ⟨?_, ?_, ?_, ?_, ?_, ?_, ?_⟩ <;> first | omega | assumption | trivial | rfl) | (refine ⟨?_, ?_, ?_, ?_, ?_, ?_, ?_, ?_⟩ <;> first | omega | assumption | trivial | rfl))
  · refine ok_o2 (sp_X9_isThrown_ (0 : Int32) ) (fun r13_2 c_t_thrown_13_2 h5 => ?_)
    have h5 : (r13_2.toInt = 0 ∧ c_t_thrown_13_2.toInt = 0 ∧ (0 : Int32).toInt = 0) ∨ (r13_2.toInt = 1 ∧ c_t_thrown_13_2.toInt = 1 ∧ (0 : Int32).toInt ≠ 0) := h5
    refine ok_eq (fun c6 => ?_) (fun c6 => ?_)
    · refine ok_c (ixo (by omega) (by omega)) ?_
      try have a7 := FA_at (f := f_t_forms) (by assumption) p0.toNatClampNeg
      refine ok_o (sp_X9_turnedOf (f_t_forms p0.toNatClampNeg) (by first | omega | assumption | trivial | exact wt_of (by assumption) (by omega))) (fun r31 h8 => ?_)
      have h8 : DG r31 ≤ 39 := h8
      refine ok_o3 (sp_X9_give c_t_acts f_t_forms p0 r31 (by first | omega | assumption | trivial | exact wt_of (by assumption) (by omega)) (by first | omega | assumption | trivial | exact wt_of (by assumption) (by omega)) (by first | omega | assumption | trivial | exact wt_of (by assumption) (by omega)) (by first | omega | assumption | trivial | exact wt_of (by assumption) (by omega))) (fun r34 c_t_acts_34 f_t_forms_34 h9 => ?_)
      have h9 : FA f_t_forms_34 := h9
      exact ok_s (show FA f_t_forms_34 from by first | omega | assumption | trivial | (refine ⟨?_, ?_⟩ <;> first | omega | assumption | trivial | rfl) | (refine ⟨?_, ?_, ?_⟩ <;> first | omega | assumption | trivial | rfl) | (refine ⟨?_, ?_, ?_, ?_⟩ <;> first | omega | assumption | trivial | rfl) | (refine ⟨?_, ?_, ?_, ?_, ?_⟩ <;> first | omega | assumption | trivial | rfl) | (refine ⟨?_, ?_, ?_, ?_, ?_, ?_⟩ <;> first | omega | assumption | trivial | rfl) | (refine ⟨?_, ?_, ?_, ?_, ?_, ?_, ?_⟩ <;> first | omega | assumption | trivial | rfl) | (refine ⟨?_, ?_, ?_, ?_, ?_, ?_, ?_, ?_⟩ <;> first | omega | assumption | trivial | rfl))
    · exfalso; omega
set_option maxHeartbeats 1000000 in
theorem sp_X9_slope (c_t_acts : Int32) (f_t_forms : Nat → Int64) (p0 : Int32) (hp0 : FA f_t_forms) : ok (F_X9_slope c_t_acts f_t_forms p0) (fun r => FA r.2.2.2) := by
  have l032 : (0 : Int32).toInt = 0 := by decide
  have l064 : (0 : Int64).toInt = 0 := by decide
  have l132 : (1 : Int32).toInt = 1 := by decide
  have l164 : (1 : Int64).toInt = 1 := by decide
  have l232 : (2 : Int32).toInt = 2 := by decide
  have l4032 : (40 : Int32).toInt = 40 := by decide
  have g0 := DG_0
  unfold F_X9_slope
  refine ok_o (sp_X9_isForm p0 ) (fun r2 h1 => ?_)
  have h1 : (r2.toInt = 1 ∧ 0 ≤ p0.toInt ∧ p0.toInt ≤ 5) ∨ (r2.toInt = 0 ∧ (p0.toInt < 0 ∨ 6 ≤ p0.toInt)) := h1
  refine ok_eq (fun c2 => ?_) (fun c2 => ?_)
  · refine ok_o2 (sp_X9_isThrown_ (1 : Int32) ) (fun r13 c_t_thrown_13 h3 => ?_)
    have h3 : (r13.toInt = 0 ∧ c_t_thrown_13.toInt = 0 ∧ (1 : Int32).toInt = 0) ∨ (r13.toInt = 1 ∧ c_t_thrown_13.toInt = 1 ∧ (1 : Int32).toInt ≠ 0) := h3
    refine ok_eq (fun c4 => ?_) (fun c4 => ?_)
    · exfalso; omega
    · exact ok_s (show FA f_t_forms from by first | omega | assumption | trivial | (refine ⟨?_, ?_⟩ <;> first | omega | assumption | trivial | rfl) | (refine ⟨?_, ?_, ?_⟩ <;> first | omega | assumption | trivial | rfl) | (refine ⟨?_, ?_, ?_, ?_⟩ <;> first | omega | assumption | trivial | rfl) | (refine ⟨?_, ?_, ?_, ?_, ?_⟩ <;> first | omega | assumption | trivial | rfl) | (refine ⟨?_, ?_, ?_, ?_, ?_, ?_⟩ <;> first | omega | assumption | trivial | rfl) | (refine ⟨?_, ?_, ?_, ?_, ?_, ?_, ?_⟩ <;> first | omega | assumption | trivial | rfl) | (refine ⟨?_, ?_, ?_, ?_, ?_, ?_, ?_, ?_⟩ <;> first | omega | assumption | trivial | rfl))
  · refine ok_o2 (sp_X9_isThrown_ (0 : Int32) ) (fun r13_2 c_t_thrown_13_2 h5 => ?_)
    have h5 : (r13_2.toInt = 0 ∧ c_t_thrown_13_2.toInt = 0 ∧ (0 : Int32).toInt = 0) ∨ (r13_2.toInt = 1 ∧ c_t_thrown_13_2.toInt = 1 ∧ (0 : Int32).toInt ≠ 0) := h5
    refine ok_eq (fun c6 => ?_) (fun c6 => ?_)
    · refine ok_L2 (fun y2_26 y4_26 => 0 ≤ y4_26.toInt ∧ DG y2_26 ≤ 39) (fun y2_26 y4_26 => (42 - y4_26.toInt).toNat) (fun ih26 y2_26 y4_26 hI7 hih7 => ?_) 20000 (0 : Int64) (0 : Int32) (show 0 ≤ (0 : Int32).toInt ∧ DG (0 : Int64) ≤ 39 from by first | omega | assumption | trivial | (refine ⟨?_, ?_⟩ <;> first | omega | assumption | trivial | rfl) | (refine ⟨?_, ?_, ?_⟩ <;> first | omega | assumption | trivial | rfl) | (refine ⟨?_, ?_, ?_, ?_⟩ <;> first | omega | assumption | trivial | rfl) | (refine ⟨?_, ?_, ?_, ?_, ?_⟩ <;> first | omega | assumption | trivial | rfl) | (refine ⟨?_, ?_, ?_, ?_, ?_, ?_⟩ <;> first | omega | assumption | trivial | rfl) | (refine ⟨?_, ?_, ?_, ?_, ?_, ?_, ?_⟩ <;> first | omega | assumption | trivial | rfl) | (refine ⟨?_, ?_, ?_, ?_, ?_, ?_, ?_, ?_⟩ <;> first | omega | assumption | trivial | rfl)) (show (42 - (0 : Int32).toInt).toNat < 20000 from by omega)
      have hI7 : 0 ≤ y4_26.toInt ∧ DG y2_26 ≤ 39 := hI7
      unfold S_X9_slope_26
      refine ok_le (fun c8 => ?_) (fun c8 => ?_)
      · refine ok_o3 (sp_X9_give c_t_acts f_t_forms p0 y2_26 (by first | omega | assumption | trivial | exact wt_of (by assumption) (by omega)) (by first | omega | assumption | trivial | exact wt_of (by assumption) (by omega)) (by first | omega | assumption | trivial | exact wt_of (by assumption) (by omega)) (by first | omega | assumption | trivial | exact wt_of (by assumption) (by omega))) (fun r61 c_t_acts_61 f_t_forms_61 h9 => ?_)
        have h9 : FA f_t_forms_61 := h9
        exact ok_s (show FA f_t_forms_61 from by first | omega | assumption | trivial | (refine ⟨?_, ?_⟩ <;> first | omega | assumption | trivial | rfl) | (refine ⟨?_, ?_, ?_⟩ <;> first | omega | assumption | trivial | rfl) | (refine ⟨?_, ?_, ?_, ?_⟩ <;> first | omega | assumption | trivial | rfl) | (refine ⟨?_, ?_, ?_, ?_, ?_⟩ <;> first | omega | assumption | trivial | rfl) | (refine ⟨?_, ?_, ?_, ?_, ?_, ?_⟩ <;> first | omega | assumption | trivial | rfl) | (refine ⟨?_, ?_, ?_, ?_, ?_, ?_, ?_⟩ <;> first | omega | assumption | trivial | rfl) | (refine ⟨?_, ?_, ?_, ?_, ?_, ?_, ?_, ?_⟩ <;> first | omega | assumption | trivial | rfl))
      · refine ok_c (ixo (by omega) (by omega)) ?_
        try have a10 := FA_at (f := f_t_forms) (by assumption) p0.toNatClampNeg
        have hk : DG ((((f_t_forms p0.toNatClampNeg) >>> ((y4_26 + (1 : Int32)).toInt64 &&& 63)) &&& (1 : Int64)) <<< (y4_26.toInt64 &&& 63)) ≤ 39 := DG_shlx (by omega) (by omega) (by have := DG_a1 ((f_t_forms p0.toNatClampNeg) >>> ((y4_26 + (1 : Int32)).toInt64 &&& 63)); omega) (by decide) (by decide)
        refine ok_bx (fun x2_51 e_x2_51 => ?_)
        have d_x2 : DG x2_51 ≤ 39 := by rw [e_x2_51]; exact DG_or (by omega) hk
        refine ok_bx (fun x4_52 e_x4_52 => ?_)
        try have t_x4_52 : x4_52.toInt = y4_26.toInt + 2 := by rw [e_x4_52]; exact addT1 (show (2 : Int32).toInt = 2 from by decide) (by omega) (by omega)
        exact hih7 x2_51 x4_52 (show 0 ≤ x4_52.toInt ∧ DG x2_51 ≤ 39 from by first | omega | assumption | trivial | (refine ⟨?_, ?_⟩ <;> first | omega | assumption | trivial | rfl) | (refine ⟨?_, ?_, ?_⟩ <;> first | omega | assumption | trivial | rfl) | (refine ⟨?_, ?_, ?_, ?_⟩ <;> first | omega | assumption | trivial | rfl) | (refine ⟨?_, ?_, ?_, ?_, ?_⟩ <;> first | omega | assumption | trivial | rfl) | (refine ⟨?_, ?_, ?_, ?_, ?_, ?_⟩ <;> first | omega | assumption | trivial | rfl) | (refine ⟨?_, ?_, ?_, ?_, ?_, ?_, ?_⟩ <;> first | omega | assumption | trivial | rfl) | (refine ⟨?_, ?_, ?_, ?_, ?_, ?_, ?_, ?_⟩ <;> first | omega | assumption | trivial | rfl)) (show (42 - x4_52.toInt).toNat < (42 - y4_26.toInt).toNat from by omega)
    · exfalso; omega
set_option maxHeartbeats 1000000 in
theorem sp_X9_add (c_t_acts : Int32) (f_t_forms : Nat → Int64) (p0 : Int32) (p1 : Int32) (p2 : Int32) (hp0 : FA f_t_forms) : ok (F_X9_add c_t_acts f_t_forms p0 p1 p2) (fun r => FA r.2.2.2) := by
  have l032 : (0 : Int32).toInt = 0 := by decide
  unfold F_X9_add
  refine ok_o2 (sp_X9_areNot p0 p1 p2 ) (fun r4 c_t_thrown_4 h1 => ?_)
  have h1 : (r4.toInt = 0 ∧ c_t_thrown_4.toInt = 0 ∧ 0 ≤ p0.toInt ∧ p0.toInt ≤ 5 ∧ 0 ≤ p1.toInt ∧ p1.toInt ≤ 5 ∧ 0 ≤ p2.toInt ∧ p2.toInt ≤ 5) ∨ (r4.toInt = 1 ∧ c_t_thrown_4.toInt = 1) := h1
  refine ok_eq (fun c2 => ?_) (fun c2 => ?_)
  · refine ok_c (ixo (by omega) (by omega)) ?_
    refine ok_c (ixo (by omega) (by omega)) ?_
    try have a3 := FA_at (f := f_t_forms) (by assumption) p0.toNatClampNeg
    try have a4 := FA_at (f := f_t_forms) (by assumption) p1.toNatClampNeg
    have hx : DG ((f_t_forms p0.toNatClampNeg) ^^^ (f_t_forms p1.toNatClampNeg)) ≤ 39 := DG_xor (by omega) (by omega)
    refine ok_o3 (sp_X9_give c_t_acts f_t_forms p2 ((f_t_forms p0.toNatClampNeg) ^^^ (f_t_forms p1.toNatClampNeg)) (by first | omega | assumption | trivial | exact wt_of (by assumption) (by omega)) (by first | omega | assumption | trivial | exact wt_of (by assumption) (by omega)) (by first | omega | assumption | trivial | exact wt_of (by assumption) (by omega)) (by first | omega | assumption | trivial | exact wt_of (by assumption) (by omega))) (fun r29 c_t_acts_29 f_t_forms_29 h5 => ?_)
    have h5 : FA f_t_forms_29 := h5
    exact ok_s (show FA f_t_forms_29 from by first | omega | assumption | trivial | (refine ⟨?_, ?_⟩ <;> first | omega | assumption | trivial | rfl) | (refine ⟨?_, ?_, ?_⟩ <;> first | omega | assumption | trivial | rfl) | (refine ⟨?_, ?_, ?_, ?_⟩ <;> first | omega | assumption | trivial | rfl) | (refine ⟨?_, ?_, ?_, ?_, ?_⟩ <;> first | omega | assumption | trivial | rfl) | (refine ⟨?_, ?_, ?_, ?_, ?_, ?_⟩ <;> first | omega | assumption | trivial | rfl) | (refine ⟨?_, ?_, ?_, ?_, ?_, ?_, ?_⟩ <;> first | omega | assumption | trivial | rfl) | (refine ⟨?_, ?_, ?_, ?_, ?_, ?_, ?_, ?_⟩ <;> first | omega | assumption | trivial | rfl))
  · exact ok_s (show FA f_t_forms from by first | omega | assumption | trivial | (refine ⟨?_, ?_⟩ <;> first | omega | assumption | trivial | rfl) | (refine ⟨?_, ?_, ?_⟩ <;> first | omega | assumption | trivial | rfl) | (refine ⟨?_, ?_, ?_, ?_⟩ <;> first | omega | assumption | trivial | rfl) | (refine ⟨?_, ?_, ?_, ?_, ?_⟩ <;> first | omega | assumption | trivial | rfl) | (refine ⟨?_, ?_, ?_, ?_, ?_, ?_⟩ <;> first | omega | assumption | trivial | rfl) | (refine ⟨?_, ?_, ?_, ?_, ?_, ?_, ?_⟩ <;> first | omega | assumption | trivial | rfl) | (refine ⟨?_, ?_, ?_, ?_, ?_, ?_, ?_, ?_⟩ <;> first | omega | assumption | trivial | rfl))
set_option maxHeartbeats 1000000 in
theorem sp_X9_isTooHigh (p0 : Int64) (p1 : Int64) (hp0 : DG p0 ≤ 39) (hp1 : DG p1 ≤ 39) : ok (F_X9_isTooHigh p0 p1) (fun r => (r.toInt = 0 ∧ (DG p0 = -1 ∨ DG p1 = -1 ∨ DG p0 + DG p1 ≤ 39)) ∨ (r.toInt = 1 ∧ 0 ≤ DG p0 ∧ 0 ≤ DG p1 ∧ 40 ≤ DG p0 + DG p1)) := by
  have l032 : (0 : Int32).toInt = 0 := by decide
  have l064 : (0 : Int64).toInt = 0 := by decide
  have l132 : (1 : Int32).toInt = 1 := by decide
  have l4032 : (40 : Int32).toInt = 40 := by decide
  unfold F_X9_isTooHigh
  have z_c1 := DG_z p0
  refine ok_eqL (fun c1 => ?_) (fun c1 => ?_)
  · exact ok_s (show ((0 : Int32).toInt = 0 ∧ (DG p0 = -1 ∨ DG p1 = -1 ∨ DG p0 + DG p1 ≤ 39)) ∨ ((0 : Int32).toInt = 1 ∧ 0 ≤ DG p0 ∧ 0 ≤ DG p1 ∧ 40 ≤ DG p0 + DG p1) from by first | omega | assumption | trivial | (refine ⟨?_, ?_⟩ <;> first | omega | assumption | trivial | rfl) | (refine ⟨?_, ?_, ?_⟩ <;> first | omega | assumption | trivial | rfl) | (refine ⟨?_, ?_, ?_, ?_⟩ <;> first | omega | assumption | trivial | rfl) | (refine ⟨?_, ?_, ?_, ?_, ?_⟩ <;> first | omega | assumption | trivial | rfl) | (refine ⟨?_, ?_, ?_, ?_, ?_, ?_⟩ <;> first | omega | assumption | trivial | rfl) | (refine ⟨?_, ?_, ?_, ?_, ?_, ?_, ?_⟩ <;> first | omega | assumption | trivial | rfl) | (refine ⟨?_, ?_, ?_, ?_, ?_, ?_, ?_, ?_⟩ <;> first | omega | assumption | trivial | rfl))
  · have z_c2 := DG_z p1
    refine ok_eqL (fun c2 => ?_) (fun c2 => ?_)
    · exact ok_s (show ((0 : Int32).toInt = 0 ∧ (DG p0 = -1 ∨ DG p1 = -1 ∨ DG p0 + DG p1 ≤ 39)) ∨ ((0 : Int32).toInt = 1 ∧ 0 ≤ DG p0 ∧ 0 ≤ DG p1 ∧ 40 ≤ DG p0 + DG p1) from by first | omega | assumption | trivial | (refine ⟨?_, ?_⟩ <;> first | omega | assumption | trivial | rfl) | (refine ⟨?_, ?_, ?_⟩ <;> first | omega | assumption | trivial | rfl) | (refine ⟨?_, ?_, ?_, ?_⟩ <;> first | omega | assumption | trivial | rfl) | (refine ⟨?_, ?_, ?_, ?_, ?_⟩ <;> first | omega | assumption | trivial | rfl) | (refine ⟨?_, ?_, ?_, ?_, ?_, ?_⟩ <;> first | omega | assumption | trivial | rfl) | (refine ⟨?_, ?_, ?_, ?_, ?_, ?_, ?_⟩ <;> first | omega | assumption | trivial | rfl) | (refine ⟨?_, ?_, ?_, ?_, ?_, ?_, ?_, ?_⟩ <;> first | omega | assumption | trivial | rfl))
    · refine ok_o (sp_X9_degreeOf p0 ) (fun r13 h3 => ?_)
      have h3 : r13.toInt = DG p0 ∧ -1 ≤ r13.toInt ∧ r13.toInt ≤ 63 := h3
      refine ok_o (sp_X9_degreeOf p1 ) (fun r17 h4 => ?_)
      have h4 : r17.toInt = DG p1 ∧ -1 ≤ r17.toInt ∧ r17.toInt ≤ 63 := h4
      obtain ⟨w5, e_w5⟩ : ∃ w : Int32, w = r13 + r17 := ⟨_, rfl⟩
      try have t_w5 : w5.toInt = r13.toInt + r17.toInt := by rw [e_w5]; exact addT1 (Eq.refl _) (by omega) (by omega)
      try rw [← e_w5]
      refine ok_lt (fun c6 => ?_) (fun c6 => ?_)
      · exact ok_s (show ((0 : Int32).toInt = 0 ∧ (DG p0 = -1 ∨ DG p1 = -1 ∨ DG p0 + DG p1 ≤ 39)) ∨ ((0 : Int32).toInt = 1 ∧ 0 ≤ DG p0 ∧ 0 ≤ DG p1 ∧ 40 ≤ DG p0 + DG p1) from by first | omega | assumption | trivial | (refine ⟨?_, ?_⟩ <;> first | omega | assumption | trivial | rfl) | (refine ⟨?_, ?_, ?_⟩ <;> first | omega | assumption | trivial | rfl) | (refine ⟨?_, ?_, ?_, ?_⟩ <;> first | omega | assumption | trivial | rfl) | (refine ⟨?_, ?_, ?_, ?_, ?_⟩ <;> first | omega | assumption | trivial | rfl) | (refine ⟨?_, ?_, ?_, ?_, ?_, ?_⟩ <;> first | omega | assumption | trivial | rfl) | (refine ⟨?_, ?_, ?_, ?_, ?_, ?_, ?_⟩ <;> first | omega | assumption | trivial | rfl) | (refine ⟨?_, ?_, ?_, ?_, ?_, ?_, ?_, ?_⟩ <;> first | omega | assumption | trivial | rfl))
      · exact ok_s (show ((1 : Int32).toInt = 0 ∧ (DG p0 = -1 ∨ DG p1 = -1 ∨ DG p0 + DG p1 ≤ 39)) ∨ ((1 : Int32).toInt = 1 ∧ 0 ≤ DG p0 ∧ 0 ≤ DG p1 ∧ 40 ≤ DG p0 + DG p1) from by first | omega | assumption | trivial | (refine ⟨?_, ?_⟩ <;> first | omega | assumption | trivial | rfl) | (refine ⟨?_, ?_, ?_⟩ <;> first | omega | assumption | trivial | rfl) | (refine ⟨?_, ?_, ?_, ?_⟩ <;> first | omega | assumption | trivial | rfl) | (refine ⟨?_, ?_, ?_, ?_, ?_⟩ <;> first | omega | assumption | trivial | rfl) | (refine ⟨?_, ?_, ?_, ?_, ?_, ?_⟩ <;> first | omega | assumption | trivial | rfl) | (refine ⟨?_, ?_, ?_, ?_, ?_, ?_, ?_⟩ <;> first | omega | assumption | trivial | rfl) | (refine ⟨?_, ?_, ?_, ?_, ?_, ?_, ?_, ?_⟩ <;> first | omega | assumption | trivial | rfl))
set_option maxHeartbeats 1000000 in
theorem sp_X9_multiply (c_t_acts : Int32) (c_t_refused : Int32) (f_t_forms : Nat → Int64) (p0 : Int32) (p1 : Int32) (p2 : Int32) (hp0 : FA f_t_forms) : ok (F_X9_multiply c_t_acts c_t_refused f_t_forms p0 p1 p2) (fun r => FA r.2.2.2.2) := by
  have l032 : (0 : Int32).toInt = 0 := by decide
  unfold F_X9_multiply
  refine ok_o2 (sp_X9_areNot p0 p1 p2 ) (fun r4 c_t_thrown_4 h1 => ?_)
  have h1 : (r4.toInt = 0 ∧ c_t_thrown_4.toInt = 0 ∧ 0 ≤ p0.toInt ∧ p0.toInt ≤ 5 ∧ 0 ≤ p1.toInt ∧ p1.toInt ≤ 5 ∧ 0 ≤ p2.toInt ∧ p2.toInt ≤ 5) ∨ (r4.toInt = 1 ∧ c_t_thrown_4.toInt = 1) := h1
  refine ok_eq (fun c2 => ?_) (fun c2 => ?_)
  · refine ok_c (ixo (by omega) (by omega)) ?_
    refine ok_c (ixo (by omega) (by omega)) ?_
    try have a3 := FA_at (f := f_t_forms) (by assumption) p0.toNatClampNeg
    try have a4 := FA_at (f := f_t_forms) (by assumption) p1.toNatClampNeg
    refine ok_o (sp_X9_isTooHigh (f_t_forms p0.toNatClampNeg) (f_t_forms p1.toNatClampNeg) (by first | omega | assumption | trivial | exact wt_of (by assumption) (by omega)) (by first | omega | assumption | trivial | exact wt_of (by assumption) (by omega))) (fun r25 h5 => ?_)
    have h5 : (r25.toInt = 0 ∧ (DG (f_t_forms p0.toNatClampNeg) = -1 ∨ DG (f_t_forms p1.toNatClampNeg) = -1 ∨ DG (f_t_forms p0.toNatClampNeg) + DG (f_t_forms p1.toNatClampNeg) ≤ 39)) ∨ (r25.toInt = 1 ∧ 0 ≤ DG (f_t_forms p0.toNatClampNeg) ∧ 0 ≤ DG (f_t_forms p1.toNatClampNeg) ∧ 40 ≤ DG (f_t_forms p0.toNatClampNeg) + DG (f_t_forms p1.toNatClampNeg)) := h5
    refine ok_eq (fun c6 => ?_) (fun c6 => ?_)
    · refine ok_c (ixo (by omega) (by omega)) ?_
      refine ok_c (ixo (by omega) (by omega)) ?_
      try have a7 := FA_at (f := f_t_forms) (by assumption) p0.toNatClampNeg
      try have a8 := FA_at (f := f_t_forms) (by assumption) p1.toNatClampNeg
      refine ok_o (sp_X9_productOf (f_t_forms p0.toNatClampNeg) (f_t_forms p1.toNatClampNeg) (by first | omega | assumption | trivial | exact wt_of (by assumption) (by omega)) (by first | omega | assumption | trivial | exact wt_of (by assumption) (by omega))) (fun r52 h9 => ?_)
      have h9 : ((DG (f_t_forms p0.toNatClampNeg) = -1 ∨ DG (f_t_forms p1.toNatClampNeg) = -1) ∧ DG r52 = -1) ∨ (0 ≤ DG (f_t_forms p0.toNatClampNeg) ∧ 0 ≤ DG (f_t_forms p1.toNatClampNeg) ∧ DG r52 = DG (f_t_forms p0.toNatClampNeg) + DG (f_t_forms p1.toNatClampNeg)) := h9
      refine ok_o3 (sp_X9_give c_t_acts f_t_forms p2 r52 (by first | omega | assumption | trivial | exact wt_of (by assumption) (by omega)) (by first | omega | assumption | trivial | exact wt_of (by assumption) (by omega)) (by first | omega | assumption | trivial | exact wt_of (by assumption) (by omega)) (by first | omega | assumption | trivial | exact wt_of (by assumption) (by omega))) (fun r55 c_t_acts_55 f_t_forms_55 h10 => ?_)
      have h10 : FA f_t_forms_55 := h10
      exact ok_s (show FA f_t_forms_55 from by first | omega | assumption | trivial | (refine ⟨?_, ?_⟩ <;> first | omega | assumption | trivial | rfl) | (refine ⟨?_, ?_, ?_⟩ <;> first | omega | assumption | trivial | rfl) | (refine ⟨?_, ?_, ?_, ?_⟩ <;> first | omega | assumption | trivial | rfl) | (refine ⟨?_, ?_, ?_, ?_, ?_⟩ <;> first | omega | assumption | trivial | rfl) | (refine ⟨?_, ?_, ?_, ?_, ?_, ?_⟩ <;> first | omega | assumption | trivial | rfl) | (refine ⟨?_, ?_, ?_, ?_, ?_, ?_, ?_⟩ <;> first | omega | assumption | trivial | rfl) | (refine ⟨?_, ?_, ?_, ?_, ?_, ?_, ?_, ?_⟩ <;> first | omega | assumption | trivial | rfl))
    · refine ok_o2 (sp_X9_no c_t_refused ) (fun r32 c_t_refused_32 h11 => ?_)
      exact ok_s (show FA f_t_forms from by first | omega | assumption | trivial | (refine ⟨?_, ?_⟩ <;> first | omega | assumption | trivial | rfl) | (refine ⟨?_, ?_, ?_⟩ <;> first | omega | assumption | trivial | rfl) | (refine ⟨?_, ?_, ?_, ?_⟩ <;> first | omega | assumption | trivial | rfl) | (refine ⟨?_, ?_, ?_, ?_, ?_⟩ <;> first | omega | assumption | trivial | rfl) | (refine ⟨?_, ?_, ?_, ?_, ?_, ?_⟩ <;> first | omega | assumption | trivial | rfl) | (refine ⟨?_, ?_, ?_, ?_, ?_, ?_, ?_⟩ <;> first | omega | assumption | trivial | rfl) | (refine ⟨?_, ?_, ?_, ?_, ?_, ?_, ?_, ?_⟩ <;> first | omega | assumption | trivial | rfl))
  · exact ok_s (show FA f_t_forms from by first | omega | assumption | trivial | (refine ⟨?_, ?_⟩ <;> first | omega | assumption | trivial | rfl) | (refine ⟨?_, ?_, ?_⟩ <;> first | omega | assumption | trivial | rfl) | (refine ⟨?_, ?_, ?_, ?_⟩ <;> first | omega | assumption | trivial | rfl) | (refine ⟨?_, ?_, ?_, ?_, ?_⟩ <;> first | omega | assumption | trivial | rfl) | (refine ⟨?_, ?_, ?_, ?_, ?_, ?_⟩ <;> first | omega | assumption | trivial | rfl) | (refine ⟨?_, ?_, ?_, ?_, ?_, ?_, ?_⟩ <;> first | omega | assumption | trivial | rfl) | (refine ⟨?_, ?_, ?_, ?_, ?_, ?_, ?_, ?_⟩ <;> first | omega | assumption | trivial | rfl))
set_option maxHeartbeats 1000000 in
theorem sp_X9_square (c_t_acts : Int32) (c_t_refused : Int32) (c_t_thrown : Int32) (f_t_forms : Nat → Int64) (p0 : Int32) (p1 : Int32) (hp0 : FA f_t_forms) : ok (F_X9_square c_t_acts c_t_refused c_t_thrown f_t_forms p0 p1) (fun r => FA r.2.2.2.2) := by
  have l032 : (0 : Int32).toInt = 0 := by decide
  have l132 : (1 : Int32).toInt = 1 := by decide
  unfold F_X9_square
  refine ok_o (sp_X9_isForm p0 ) (fun r2 h1 => ?_)
  have h1 : (r2.toInt = 1 ∧ 0 ≤ p0.toInt ∧ p0.toInt ≤ 5) ∨ (r2.toInt = 0 ∧ (p0.toInt < 0 ∨ 6 ≤ p0.toInt)) := h1
  refine ok_eq (fun c2 => ?_) (fun c2 => ?_)
  · first | unfold J_X9_square_15 | skip
    first | unfold J_X9_square_20 | skip
    refine ok_o2 (sp_X9_isThrown_ (1 : Int32) ) (fun r20 c_t_thrown_20 h3 => ?_)
    have h3 : (r20.toInt = 0 ∧ c_t_thrown_20.toInt = 0 ∧ (1 : Int32).toInt = 0) ∨ (r20.toInt = 1 ∧ c_t_thrown_20.toInt = 1 ∧ (1 : Int32).toInt ≠ 0) := h3
    refine ok_eq (fun c4 => ?_) (fun c4 => ?_)
    · exfalso; omega
    · exact ok_s (show FA f_t_forms from by first | omega | assumption | trivial | (refine ⟨?_, ?_⟩ <;> first | omega | assumption | trivial | rfl) | (refine ⟨?_, ?_, ?_⟩ <;> first | omega | assumption | trivial | rfl) | (refine ⟨?_, ?_, ?_, ?_⟩ <;> first | omega | assumption | trivial | rfl) | (refine ⟨?_, ?_, ?_, ?_, ?_⟩ <;> first | omega | assumption | trivial | rfl) | (refine ⟨?_, ?_, ?_, ?_, ?_, ?_⟩ <;> first | omega | assumption | trivial | rfl) | (refine ⟨?_, ?_, ?_, ?_, ?_, ?_, ?_⟩ <;> first | omega | assumption | trivial | rfl) | (refine ⟨?_, ?_, ?_, ?_, ?_, ?_, ?_, ?_⟩ <;> first | omega | assumption | trivial | rfl))
  · refine ok_o (sp_X9_isForm p1 ) (fun r9 h5 => ?_)
    have h5 : (r9.toInt = 1 ∧ 0 ≤ p1.toInt ∧ p1.toInt ≤ 5) ∨ (r9.toInt = 0 ∧ (p1.toInt < 0 ∨ 6 ≤ p1.toInt)) := h5
    refine ok_eq (fun c6 => ?_) (fun c6 => ?_)
    · first | unfold J_X9_square_15 | skip
      first | unfold J_X9_square_20 | skip
      refine ok_o2 (sp_X9_isThrown_ (1 : Int32) ) (fun r20_2 c_t_thrown_20_2 h7 => ?_)
      have h7 : (r20_2.toInt = 0 ∧ c_t_thrown_20_2.toInt = 0 ∧ (1 : Int32).toInt = 0) ∨ (r20_2.toInt = 1 ∧ c_t_thrown_20_2.toInt = 1 ∧ (1 : Int32).toInt ≠ 0) := h7
      refine ok_eq (fun c8 => ?_) (fun c8 => ?_)
      · exfalso; omega
      · exact ok_s (show FA f_t_forms from by first | omega | assumption | trivial | (refine ⟨?_, ?_⟩ <;> first | omega | assumption | trivial | rfl) | (refine ⟨?_, ?_, ?_⟩ <;> first | omega | assumption | trivial | rfl) | (refine ⟨?_, ?_, ?_, ?_⟩ <;> first | omega | assumption | trivial | rfl) | (refine ⟨?_, ?_, ?_, ?_, ?_⟩ <;> first | omega | assumption | trivial | rfl) | (refine ⟨?_, ?_, ?_, ?_, ?_, ?_⟩ <;> first | omega | assumption | trivial | rfl) | (refine ⟨?_, ?_, ?_, ?_, ?_, ?_, ?_⟩ <;> first | omega | assumption | trivial | rfl) | (refine ⟨?_, ?_, ?_, ?_, ?_, ?_, ?_, ?_⟩ <;> first | omega | assumption | trivial | rfl))
    · first | unfold J_X9_square_20 | skip
      refine ok_o2 (sp_X9_isThrown_ (0 : Int32) ) (fun r20_3 c_t_thrown_20_3 h9 => ?_)
      have h9 : (r20_3.toInt = 0 ∧ c_t_thrown_20_3.toInt = 0 ∧ (0 : Int32).toInt = 0) ∨ (r20_3.toInt = 1 ∧ c_t_thrown_20_3.toInt = 1 ∧ (0 : Int32).toInt ≠ 0) := h9
      refine ok_eq (fun c10 => ?_) (fun c10 => ?_)
      · refine ok_c (ixo (by omega) (by omega)) ?_
        refine ok_c (ixo (by omega) (by omega)) ?_
        try have a11 := FA_at (f := f_t_forms) (by assumption) p0.toNatClampNeg
        try have a12 := FA_at (f := f_t_forms) (by assumption) p0.toNatClampNeg
        refine ok_o (sp_X9_isTooHigh (f_t_forms p0.toNatClampNeg) (f_t_forms p0.toNatClampNeg) (by first | omega | assumption | trivial | exact wt_of (by assumption) (by omega)) (by first | omega | assumption | trivial | exact wt_of (by assumption) (by omega))) (fun r41 h13 => ?_)
        have h13 : (r41.toInt = 0 ∧ (DG (f_t_forms p0.toNatClampNeg) = -1 ∨ DG (f_t_forms p0.toNatClampNeg) = -1 ∨ DG (f_t_forms p0.toNatClampNeg) + DG (f_t_forms p0.toNatClampNeg) ≤ 39)) ∨ (r41.toInt = 1 ∧ 0 ≤ DG (f_t_forms p0.toNatClampNeg) ∧ 0 ≤ DG (f_t_forms p0.toNatClampNeg) ∧ 40 ≤ DG (f_t_forms p0.toNatClampNeg) + DG (f_t_forms p0.toNatClampNeg)) := h13
        refine ok_eq (fun c14 => ?_) (fun c14 => ?_)
        · refine ok_c (ixo (by omega) (by omega)) ?_
          refine ok_c (ixo (by omega) (by omega)) ?_
          try have a15 := FA_at (f := f_t_forms) (by assumption) p0.toNatClampNeg
          try have a16 := FA_at (f := f_t_forms) (by assumption) p0.toNatClampNeg
          refine ok_o (sp_X9_productOf (f_t_forms p0.toNatClampNeg) (f_t_forms p0.toNatClampNeg) (by first | omega | assumption | trivial | exact wt_of (by assumption) (by omega)) (by first | omega | assumption | trivial | exact wt_of (by assumption) (by omega))) (fun r68 h17 => ?_)
          have h17 : ((DG (f_t_forms p0.toNatClampNeg) = -1 ∨ DG (f_t_forms p0.toNatClampNeg) = -1) ∧ DG r68 = -1) ∨ (0 ≤ DG (f_t_forms p0.toNatClampNeg) ∧ 0 ≤ DG (f_t_forms p0.toNatClampNeg) ∧ DG r68 = DG (f_t_forms p0.toNatClampNeg) + DG (f_t_forms p0.toNatClampNeg)) := h17
          refine ok_o3 (sp_X9_give c_t_acts f_t_forms p1 r68 (by first | omega | assumption | trivial | exact wt_of (by assumption) (by omega)) (by first | omega | assumption | trivial | exact wt_of (by assumption) (by omega)) (by first | omega | assumption | trivial | exact wt_of (by assumption) (by omega)) (by first | omega | assumption | trivial | exact wt_of (by assumption) (by omega))) (fun r71 c_t_acts_71 f_t_forms_71 h18 => ?_)
          have h18 : FA f_t_forms_71 := h18
          exact ok_s (show FA f_t_forms_71 from by first | omega | assumption | trivial | (refine ⟨?_, ?_⟩ <;> first | omega | assumption | trivial | rfl) | (refine ⟨?_, ?_, ?_⟩ <;> first | omega | assumption | trivial | rfl) | (refine ⟨?_, ?_, ?_, ?_⟩ <;> first | omega | assumption | trivial | rfl) | (refine ⟨?_, ?_, ?_, ?_, ?_⟩ <;> first | omega | assumption | trivial | rfl) | (refine ⟨?_, ?_, ?_, ?_, ?_, ?_⟩ <;> first | omega | assumption | trivial | rfl) | (refine ⟨?_, ?_, ?_, ?_, ?_, ?_, ?_⟩ <;> first | omega | assumption | trivial | rfl) | (refine ⟨?_, ?_, ?_, ?_, ?_, ?_, ?_, ?_⟩ <;> first | omega | assumption | trivial | rfl))
        · refine ok_o2 (sp_X9_no c_t_refused ) (fun r48 c_t_refused_48 h19 => ?_)
          exact ok_s (show FA f_t_forms from by first | omega | assumption | trivial | (refine ⟨?_, ?_⟩ <;> first | omega | assumption | trivial | rfl) | (refine ⟨?_, ?_, ?_⟩ <;> first | omega | assumption | trivial | rfl) | (refine ⟨?_, ?_, ?_, ?_⟩ <;> first | omega | assumption | trivial | rfl) | (refine ⟨?_, ?_, ?_, ?_, ?_⟩ <;> first | omega | assumption | trivial | rfl) | (refine ⟨?_, ?_, ?_, ?_, ?_, ?_⟩ <;> first | omega | assumption | trivial | rfl) | (refine ⟨?_, ?_, ?_, ?_, ?_, ?_, ?_⟩ <;> first | omega | assumption | trivial | rfl) | (refine ⟨?_, ?_, ?_, ?_, ?_, ?_, ?_, ?_⟩ <;> first | omega | assumption | trivial | rfl))
      · exfalso; omega
set_option maxHeartbeats 1000000 in
theorem sp_X9_divide (c_t_acts : Int32) (c_t_refused : Int32) (f_t_forms : Nat → Int64) (p0 : Int32) (p1 : Int32) (p2 : Int32) (hp0 : FA f_t_forms) : ok (F_X9_divide c_t_acts c_t_refused f_t_forms p0 p1 p2) (fun r => FA r.2.2.2.2) := by
  have l032 : (0 : Int32).toInt = 0 := by decide
  have l064 : (0 : Int64).toInt = 0 := by decide
  unfold F_X9_divide
  refine ok_o2 (sp_X9_areNot p0 p1 p2 ) (fun r4 c_t_thrown_4 h1 => ?_)
  have h1 : (r4.toInt = 0 ∧ c_t_thrown_4.toInt = 0 ∧ 0 ≤ p0.toInt ∧ p0.toInt ≤ 5 ∧ 0 ≤ p1.toInt ∧ p1.toInt ≤ 5 ∧ 0 ≤ p2.toInt ∧ p2.toInt ≤ 5) ∨ (r4.toInt = 1 ∧ c_t_thrown_4.toInt = 1) := h1
  refine ok_eq (fun c2 => ?_) (fun c2 => ?_)
  · refine ok_c (ixo (by omega) (by omega)) ?_
    try have a4 := FA_at (f := f_t_forms) (by assumption) p1.toNatClampNeg
    have z_c3 := DG_z (f_t_forms p1.toNatClampNeg)
    refine ok_eqL (fun c3 => ?_) (fun c3 => ?_)
    · refine ok_o2 (sp_X9_no c_t_refused ) (fun r24 c_t_refused_24 h5 => ?_)
      exact ok_s (show FA f_t_forms from by first | omega | assumption | trivial | (refine ⟨?_, ?_⟩ <;> first | omega | assumption | trivial | rfl) | (refine ⟨?_, ?_, ?_⟩ <;> first | omega | assumption | trivial | rfl) | (refine ⟨?_, ?_, ?_, ?_⟩ <;> first | omega | assumption | trivial | rfl) | (refine ⟨?_, ?_, ?_, ?_, ?_⟩ <;> first | omega | assumption | trivial | rfl) | (refine ⟨?_, ?_, ?_, ?_, ?_, ?_⟩ <;> first | omega | assumption | trivial | rfl) | (refine ⟨?_, ?_, ?_, ?_, ?_, ?_, ?_⟩ <;> first | omega | assumption | trivial | rfl) | (refine ⟨?_, ?_, ?_, ?_, ?_, ?_, ?_, ?_⟩ <;> first | omega | assumption | trivial | rfl))
    · refine ok_c (ixo (by omega) (by omega)) ?_
      refine ok_c (ixo (by omega) (by omega)) ?_
      try have a6 := FA_at (f := f_t_forms) (by assumption) p0.toNatClampNeg
      try have a7 := FA_at (f := f_t_forms) (by assumption) p1.toNatClampNeg
      refine ok_o (sp_X9_quotientOf (f_t_forms p0.toNatClampNeg) (f_t_forms p1.toNatClampNeg) (by first | omega | assumption | trivial | exact wt_of (by assumption) (by omega)) (by first | omega | assumption | trivial | exact wt_of (by assumption) (by omega)) (by first | omega | assumption | trivial | exact wt_of (by assumption) (by omega))) (fun r44 h8 => ?_)
      have h8 : (DG (f_t_forms p0.toNatClampNeg) < DG (f_t_forms p1.toNatClampNeg) ∧ DG r44 = -1) ∨ (DG (f_t_forms p1.toNatClampNeg) ≤ DG (f_t_forms p0.toNatClampNeg) ∧ DG r44 = DG (f_t_forms p0.toNatClampNeg) - DG (f_t_forms p1.toNatClampNeg)) := h8
      refine ok_o3 (sp_X9_give c_t_acts f_t_forms p2 r44 (by first | omega | assumption | trivial | exact wt_of (by assumption) (by omega)) (by first | omega | assumption | trivial | exact wt_of (by assumption) (by omega)) (by first | omega | assumption | trivial | exact wt_of (by assumption) (by omega)) (by first | omega | assumption | trivial | exact wt_of (by assumption) (by omega))) (fun r47 c_t_acts_47 f_t_forms_47 h9 => ?_)
      have h9 : FA f_t_forms_47 := h9
      exact ok_s (show FA f_t_forms_47 from by first | omega | assumption | trivial | (refine ⟨?_, ?_⟩ <;> first | omega | assumption | trivial | rfl) | (refine ⟨?_, ?_, ?_⟩ <;> first | omega | assumption | trivial | rfl) | (refine ⟨?_, ?_, ?_, ?_⟩ <;> first | omega | assumption | trivial | rfl) | (refine ⟨?_, ?_, ?_, ?_, ?_⟩ <;> first | omega | assumption | trivial | rfl) | (refine ⟨?_, ?_, ?_, ?_, ?_, ?_⟩ <;> first | omega | assumption | trivial | rfl) | (refine ⟨?_, ?_, ?_, ?_, ?_, ?_, ?_⟩ <;> first | omega | assumption | trivial | rfl) | (refine ⟨?_, ?_, ?_, ?_, ?_, ?_, ?_, ?_⟩ <;> first | omega | assumption | trivial | rfl))
  · exact ok_s (show FA f_t_forms from by first | omega | assumption | trivial | (refine ⟨?_, ?_⟩ <;> first | omega | assumption | trivial | rfl) | (refine ⟨?_, ?_, ?_⟩ <;> first | omega | assumption | trivial | rfl) | (refine ⟨?_, ?_, ?_, ?_⟩ <;> first | omega | assumption | trivial | rfl) | (refine ⟨?_, ?_, ?_, ?_, ?_⟩ <;> first | omega | assumption | trivial | rfl) | (refine ⟨?_, ?_, ?_, ?_, ?_, ?_⟩ <;> first | omega | assumption | trivial | rfl) | (refine ⟨?_, ?_, ?_, ?_, ?_, ?_, ?_⟩ <;> first | omega | assumption | trivial | rfl) | (refine ⟨?_, ?_, ?_, ?_, ?_, ?_, ?_, ?_⟩ <;> first | omega | assumption | trivial | rfl))
set_option maxHeartbeats 1000000 in
theorem sp_X9_remain (c_t_acts : Int32) (c_t_refused : Int32) (f_t_forms : Nat → Int64) (p0 : Int32) (p1 : Int32) (p2 : Int32) (hp0 : FA f_t_forms) : ok (F_X9_remain c_t_acts c_t_refused f_t_forms p0 p1 p2) (fun r => FA r.2.2.2.2) := by
  have l032 : (0 : Int32).toInt = 0 := by decide
  have l064 : (0 : Int64).toInt = 0 := by decide
  unfold F_X9_remain
  refine ok_o2 (sp_X9_areNot p0 p1 p2 ) (fun r4 c_t_thrown_4 h1 => ?_)
  have h1 : (r4.toInt = 0 ∧ c_t_thrown_4.toInt = 0 ∧ 0 ≤ p0.toInt ∧ p0.toInt ≤ 5 ∧ 0 ≤ p1.toInt ∧ p1.toInt ≤ 5 ∧ 0 ≤ p2.toInt ∧ p2.toInt ≤ 5) ∨ (r4.toInt = 1 ∧ c_t_thrown_4.toInt = 1) := h1
  refine ok_eq (fun c2 => ?_) (fun c2 => ?_)
  · refine ok_c (ixo (by omega) (by omega)) ?_
    try have a4 := FA_at (f := f_t_forms) (by assumption) p1.toNatClampNeg
    have z_c3 := DG_z (f_t_forms p1.toNatClampNeg)
    refine ok_eqL (fun c3 => ?_) (fun c3 => ?_)
    · refine ok_o2 (sp_X9_no c_t_refused ) (fun r24 c_t_refused_24 h5 => ?_)
      exact ok_s (show FA f_t_forms from by first | omega | assumption | trivial | (refine ⟨?_, ?_⟩ <;> first | omega | assumption | trivial | rfl) | (refine ⟨?_, ?_, ?_⟩ <;> first | omega | assumption | trivial | rfl) | (refine ⟨?_, ?_, ?_, ?_⟩ <;> first | omega | assumption | trivial | rfl) | (refine ⟨?_, ?_, ?_, ?_, ?_⟩ <;> first | omega | assumption | trivial | rfl) | (refine ⟨?_, ?_, ?_, ?_, ?_, ?_⟩ <;> first | omega | assumption | trivial | rfl) | (refine ⟨?_, ?_, ?_, ?_, ?_, ?_, ?_⟩ <;> first | omega | assumption | trivial | rfl) | (refine ⟨?_, ?_, ?_, ?_, ?_, ?_, ?_, ?_⟩ <;> first | omega | assumption | trivial | rfl))
    · refine ok_c (ixo (by omega) (by omega)) ?_
      refine ok_c (ixo (by omega) (by omega)) ?_
      try have a6 := FA_at (f := f_t_forms) (by assumption) p0.toNatClampNeg
      try have a7 := FA_at (f := f_t_forms) (by assumption) p1.toNatClampNeg
      refine ok_o (sp_X9_restOf (f_t_forms p0.toNatClampNeg) (f_t_forms p1.toNatClampNeg) (by first | omega | assumption | trivial | exact wt_of (by assumption) (by omega)) (by first | omega | assumption | trivial | exact wt_of (by assumption) (by omega)) (by first | omega | assumption | trivial | exact wt_of (by assumption) (by omega))) (fun r44 h8 => ?_)
      have h8 : -1 ≤ DG r44 ∧ DG r44 < DG (f_t_forms p1.toNatClampNeg) ∧ DG r44 ≤ DG (f_t_forms p0.toNatClampNeg) := h8
      refine ok_o3 (sp_X9_give c_t_acts f_t_forms p2 r44 (by first | omega | assumption | trivial | exact wt_of (by assumption) (by omega)) (by first | omega | assumption | trivial | exact wt_of (by assumption) (by omega)) (by first | omega | assumption | trivial | exact wt_of (by assumption) (by omega)) (by first | omega | assumption | trivial | exact wt_of (by assumption) (by omega))) (fun r47 c_t_acts_47 f_t_forms_47 h9 => ?_)
      have h9 : FA f_t_forms_47 := h9
      exact ok_s (show FA f_t_forms_47 from by first | omega | assumption | trivial | (refine ⟨?_, ?_⟩ <;> first | omega | assumption | trivial | rfl) | (refine ⟨?_, ?_, ?_⟩ <;> first | omega | assumption | trivial | rfl) | (refine ⟨?_, ?_, ?_, ?_⟩ <;> first | omega | assumption | trivial | rfl) | (refine ⟨?_, ?_, ?_, ?_, ?_⟩ <;> first | omega | assumption | trivial | rfl) | (refine ⟨?_, ?_, ?_, ?_, ?_, ?_⟩ <;> first | omega | assumption | trivial | rfl) | (refine ⟨?_, ?_, ?_, ?_, ?_, ?_, ?_⟩ <;> first | omega | assumption | trivial | rfl) | (refine ⟨?_, ?_, ?_, ?_, ?_, ?_, ?_, ?_⟩ <;> first | omega | assumption | trivial | rfl))
  · exact ok_s (show FA f_t_forms from by first | omega | assumption | trivial | (refine ⟨?_, ?_⟩ <;> first | omega | assumption | trivial | rfl) | (refine ⟨?_, ?_, ?_⟩ <;> first | omega | assumption | trivial | rfl) | (refine ⟨?_, ?_, ?_, ?_⟩ <;> first | omega | assumption | trivial | rfl) | (refine ⟨?_, ?_, ?_, ?_, ?_⟩ <;> first | omega | assumption | trivial | rfl) | (refine ⟨?_, ?_, ?_, ?_, ?_, ?_⟩ <;> first | omega | assumption | trivial | rfl) | (refine ⟨?_, ?_, ?_, ?_, ?_, ?_, ?_⟩ <;> first | omega | assumption | trivial | rfl) | (refine ⟨?_, ?_, ?_, ?_, ?_, ?_, ?_, ?_⟩ <;> first | omega | assumption | trivial | rfl))
set_option maxHeartbeats 1000000 in
theorem sp_X9_common (c_t_acts : Int32) (f_t_forms : Nat → Int64) (p0 : Int32) (p1 : Int32) (p2 : Int32) (hp0 : FA f_t_forms) : ok (F_X9_common c_t_acts f_t_forms p0 p1 p2) (fun r => FA r.2.2.2) := by
  have l032 : (0 : Int32).toInt = 0 := by decide
  unfold F_X9_common
  refine ok_o2 (sp_X9_areNot p0 p1 p2 ) (fun r4 c_t_thrown_4 h1 => ?_)
  have h1 : (r4.toInt = 0 ∧ c_t_thrown_4.toInt = 0 ∧ 0 ≤ p0.toInt ∧ p0.toInt ≤ 5 ∧ 0 ≤ p1.toInt ∧ p1.toInt ≤ 5 ∧ 0 ≤ p2.toInt ∧ p2.toInt ≤ 5) ∨ (r4.toInt = 1 ∧ c_t_thrown_4.toInt = 1) := h1
  refine ok_eq (fun c2 => ?_) (fun c2 => ?_)
  · refine ok_c (ixo (by omega) (by omega)) ?_
    refine ok_c (ixo (by omega) (by omega)) ?_
    try have a3 := FA_at (f := f_t_forms) (by assumption) p0.toNatClampNeg
    try have a4 := FA_at (f := f_t_forms) (by assumption) p1.toNatClampNeg
    refine ok_o (sp_X9_commonOf (f_t_forms p0.toNatClampNeg) (f_t_forms p1.toNatClampNeg) (by first | omega | assumption | trivial | exact wt_of (by assumption) (by omega)) (by first | omega | assumption | trivial | exact wt_of (by assumption) (by omega))) (fun r28 h5 => ?_)
    have h5 : DG r28 ≤ 39 := h5
    refine ok_o3 (sp_X9_give c_t_acts f_t_forms p2 r28 (by first | omega | assumption | trivial | exact wt_of (by assumption) (by omega)) (by first | omega | assumption | trivial | exact wt_of (by assumption) (by omega)) (by first | omega | assumption | trivial | exact wt_of (by assumption) (by omega)) (by first | omega | assumption | trivial | exact wt_of (by assumption) (by omega))) (fun r31 c_t_acts_31 f_t_forms_31 h6 => ?_)
    have h6 : FA f_t_forms_31 := h6
    exact ok_s (show FA f_t_forms_31 from by first | omega | assumption | trivial | (refine ⟨?_, ?_⟩ <;> first | omega | assumption | trivial | rfl) | (refine ⟨?_, ?_, ?_⟩ <;> first | omega | assumption | trivial | rfl) | (refine ⟨?_, ?_, ?_, ?_⟩ <;> first | omega | assumption | trivial | rfl) | (refine ⟨?_, ?_, ?_, ?_, ?_⟩ <;> first | omega | assumption | trivial | rfl) | (refine ⟨?_, ?_, ?_, ?_, ?_, ?_⟩ <;> first | omega | assumption | trivial | rfl) | (refine ⟨?_, ?_, ?_, ?_, ?_, ?_, ?_⟩ <;> first | omega | assumption | trivial | rfl) | (refine ⟨?_, ?_, ?_, ?_, ?_, ?_, ?_, ?_⟩ <;> first | omega | assumption | trivial | rfl))
  · exact ok_s (show FA f_t_forms from by first | omega | assumption | trivial | (refine ⟨?_, ?_⟩ <;> first | omega | assumption | trivial | rfl) | (refine ⟨?_, ?_, ?_⟩ <;> first | omega | assumption | trivial | rfl) | (refine ⟨?_, ?_, ?_, ?_⟩ <;> first | omega | assumption | trivial | rfl) | (refine ⟨?_, ?_, ?_, ?_, ?_⟩ <;> first | omega | assumption | trivial | rfl) | (refine ⟨?_, ?_, ?_, ?_, ?_, ?_⟩ <;> first | omega | assumption | trivial | rfl) | (refine ⟨?_, ?_, ?_, ?_, ?_, ?_, ?_⟩ <;> first | omega | assumption | trivial | rfl) | (refine ⟨?_, ?_, ?_, ?_, ?_, ?_, ?_, ?_⟩ <;> first | omega | assumption | trivial | rfl))
set_option maxHeartbeats 1000000 in
theorem sp_X9_multipliers (c_t_acts : Int32) (c_t_thrown : Int32) (f_t_forms : Nat → Int64) (p0 : Int32) (p1 : Int32) (p2 : Int32) (p3 : Int32) (hp0 : FA f_t_forms) : ok (F_X9_multipliers c_t_acts c_t_thrown f_t_forms p0 p1 p2 p3) (fun r => FA r.2.2.2) := by
  have l032 : (0 : Int32).toInt = 0 := by decide
  have l064 : (0 : Int64).toInt = 0 := by decide
  have l132 : (1 : Int32).toInt = 1 := by decide
  have l164 : (1 : Int64).toInt = 1 := by decide
  have l232 : (2 : Int32).toInt = 2 := by decide
  have l332 : (3 : Int32).toInt = 3 := by decide
  unfold F_X9_multipliers
  refine ok_o (sp_X9_isForm p0 ) (fun r2 h1 => ?_)
  have h1 : (r2.toInt = 1 ∧ 0 ≤ p0.toInt ∧ p0.toInt ≤ 5) ∨ (r2.toInt = 0 ∧ (p0.toInt < 0 ∨ 6 ≤ p0.toInt)) := h1
  refine ok_eq (fun c2 => ?_) (fun c2 => ?_)
  · first | unfold J_X9_multipliers_30 | skip
    first | unfold J_X9_multipliers_35 | skip
    refine ok_eq (fun c3 => ?_) (fun c3 => ?_)
    · first | unfold J_X9_multipliers_46 | skip
      refine ok_o2 (sp_X9_isThrown (1 : Int32) (1 : Int32) ) (fun r46 c_t_thrown_46 h4 => ?_)
      have h4 : (r46.toInt = 0 ∧ c_t_thrown_46.toInt = 0 ∧ (1 : Int32).toInt = 0 ∧ (1 : Int32).toInt = 0) ∨ (r46.toInt = 1 ∧ c_t_thrown_46.toInt = 1 ∧ (1 : Int32).toInt ≠ 0) ∨ (r46.toInt = 1 ∧ c_t_thrown_46.toInt = 2 ∧ (1 : Int32).toInt = 0 ∧ (1 : Int32).toInt ≠ 0) := h4
      refine ok_eq (fun c5 => ?_) (fun c5 => ?_)
      · exfalso; omega
      · exact ok_s (show FA f_t_forms from by first | omega | assumption | trivial | (refine ⟨?_, ?_⟩ <;> first | omega | assumption | trivial | rfl) | (refine ⟨?_, ?_, ?_⟩ <;> first | omega | assumption | trivial | rfl) | (refine ⟨?_, ?_, ?_, ?_⟩ <;> first | omega | assumption | trivial | rfl) | (refine ⟨?_, ?_, ?_, ?_, ?_⟩ <;> first | omega | assumption | trivial | rfl) | (refine ⟨?_, ?_, ?_, ?_, ?_, ?_⟩ <;> first | omega | assumption | trivial | rfl) | (refine ⟨?_, ?_, ?_, ?_, ?_, ?_, ?_⟩ <;> first | omega | assumption | trivial | rfl) | (refine ⟨?_, ?_, ?_, ?_, ?_, ?_, ?_, ?_⟩ <;> first | omega | assumption | trivial | rfl))
    · first | unfold J_X9_multipliers_46 | skip
      refine ok_o2 (sp_X9_isThrown (1 : Int32) (0 : Int32) ) (fun r46_2 c_t_thrown_46_2 h6 => ?_)
      have h6 : (r46_2.toInt = 0 ∧ c_t_thrown_46_2.toInt = 0 ∧ (1 : Int32).toInt = 0 ∧ (0 : Int32).toInt = 0) ∨ (r46_2.toInt = 1 ∧ c_t_thrown_46_2.toInt = 1 ∧ (1 : Int32).toInt ≠ 0) ∨ (r46_2.toInt = 1 ∧ c_t_thrown_46_2.toInt = 2 ∧ (1 : Int32).toInt = 0 ∧ (0 : Int32).toInt ≠ 0) := h6
      refine ok_eq (fun c7 => ?_) (fun c7 => ?_)
      · exfalso; omega
      · exact ok_s (show FA f_t_forms from by first | omega | assumption | trivial | (refine ⟨?_, ?_⟩ <;> first | omega | assumption | trivial | rfl) | (refine ⟨?_, ?_, ?_⟩ <;> first | omega | assumption | trivial | rfl) | (refine ⟨?_, ?_, ?_, ?_⟩ <;> first | omega | assumption | trivial | rfl) | (refine ⟨?_, ?_, ?_, ?_, ?_⟩ <;> first | omega | assumption | trivial | rfl) | (refine ⟨?_, ?_, ?_, ?_, ?_, ?_⟩ <;> first | omega | assumption | trivial | rfl) | (refine ⟨?_, ?_, ?_, ?_, ?_, ?_, ?_⟩ <;> first | omega | assumption | trivial | rfl) | (refine ⟨?_, ?_, ?_, ?_, ?_, ?_, ?_, ?_⟩ <;> first | omega | assumption | trivial | rfl))
  · refine ok_o (sp_X9_isForm p1 ) (fun r9 h8 => ?_)
    have h8 : (r9.toInt = 1 ∧ 0 ≤ p1.toInt ∧ p1.toInt ≤ 5) ∨ (r9.toInt = 0 ∧ (p1.toInt < 0 ∨ 6 ≤ p1.toInt)) := h8
    refine ok_eq (fun c9 => ?_) (fun c9 => ?_)
    · first | unfold J_X9_multipliers_30 | skip
      first | unfold J_X9_multipliers_35 | skip
      refine ok_eq (fun c10 => ?_) (fun c10 => ?_)
      · first | unfold J_X9_multipliers_46 | skip
        refine ok_o2 (sp_X9_isThrown (1 : Int32) (1 : Int32) ) (fun r46_3 c_t_thrown_46_3 h11 => ?_)
        have h11 : (r46_3.toInt = 0 ∧ c_t_thrown_46_3.toInt = 0 ∧ (1 : Int32).toInt = 0 ∧ (1 : Int32).toInt = 0) ∨ (r46_3.toInt = 1 ∧ c_t_thrown_46_3.toInt = 1 ∧ (1 : Int32).toInt ≠ 0) ∨ (r46_3.toInt = 1 ∧ c_t_thrown_46_3.toInt = 2 ∧ (1 : Int32).toInt = 0 ∧ (1 : Int32).toInt ≠ 0) := h11
        refine ok_eq (fun c12 => ?_) (fun c12 => ?_)
        · exfalso; omega
        · exact ok_s (show FA f_t_forms from by first | omega | assumption | trivial | (refine ⟨?_, ?_⟩ <;> first | omega | assumption | trivial | rfl) | (refine ⟨?_, ?_, ?_⟩ <;> first | omega | assumption | trivial | rfl) | (refine ⟨?_, ?_, ?_, ?_⟩ <;> first | omega | assumption | trivial | rfl) | (refine ⟨?_, ?_, ?_, ?_, ?_⟩ <;> first | omega | assumption | trivial | rfl) | (refine ⟨?_, ?_, ?_, ?_, ?_, ?_⟩ <;> first | omega | assumption | trivial | rfl) | (refine ⟨?_, ?_, ?_, ?_, ?_, ?_, ?_⟩ <;> first | omega | assumption | trivial | rfl) | (refine ⟨?_, ?_, ?_, ?_, ?_, ?_, ?_, ?_⟩ <;> first | omega | assumption | trivial | rfl))
      · first | unfold J_X9_multipliers_46 | skip
        refine ok_o2 (sp_X9_isThrown (1 : Int32) (0 : Int32) ) (fun r46_4 c_t_thrown_46_4 h13 => ?_)
        have h13 : (r46_4.toInt = 0 ∧ c_t_thrown_46_4.toInt = 0 ∧ (1 : Int32).toInt = 0 ∧ (0 : Int32).toInt = 0) ∨ (r46_4.toInt = 1 ∧ c_t_thrown_46_4.toInt = 1 ∧ (1 : Int32).toInt ≠ 0) ∨ (r46_4.toInt = 1 ∧ c_t_thrown_46_4.toInt = 2 ∧ (1 : Int32).toInt = 0 ∧ (0 : Int32).toInt ≠ 0) := h13
        refine ok_eq (fun c14 => ?_) (fun c14 => ?_)
        · exfalso; omega
        · exact ok_s (show FA f_t_forms from by first | omega | assumption | trivial | (refine ⟨?_, ?_⟩ <;> first | omega | assumption | trivial | rfl) | (refine ⟨?_, ?_, ?_⟩ <;> first | omega | assumption | trivial | rfl) | (refine ⟨?_, ?_, ?_, ?_⟩ <;> first | omega | assumption | trivial | rfl) | (refine ⟨?_, ?_, ?_, ?_, ?_⟩ <;> first | omega | assumption | trivial | rfl) | (refine ⟨?_, ?_, ?_, ?_, ?_, ?_⟩ <;> first | omega | assumption | trivial | rfl) | (refine ⟨?_, ?_, ?_, ?_, ?_, ?_, ?_⟩ <;> first | omega | assumption | trivial | rfl) | (refine ⟨?_, ?_, ?_, ?_, ?_, ?_, ?_, ?_⟩ <;> first | omega | assumption | trivial | rfl))
    · refine ok_o (sp_X9_isForm p2 ) (fun r16 h15 => ?_)
      have h15 : (r16.toInt = 1 ∧ 0 ≤ p2.toInt ∧ p2.toInt ≤ 5) ∨ (r16.toInt = 0 ∧ (p2.toInt < 0 ∨ 6 ≤ p2.toInt)) := h15
      refine ok_eq (fun c16 => ?_) (fun c16 => ?_)
      · first | unfold J_X9_multipliers_30 | skip
        first | unfold J_X9_multipliers_35 | skip
        refine ok_eq (fun c17 => ?_) (fun c17 => ?_)
        · first | unfold J_X9_multipliers_46 | skip
          refine ok_o2 (sp_X9_isThrown (1 : Int32) (1 : Int32) ) (fun r46_5 c_t_thrown_46_5 h18 => ?_)
          have h18 : (r46_5.toInt = 0 ∧ c_t_thrown_46_5.toInt = 0 ∧ (1 : Int32).toInt = 0 ∧ (1 : Int32).toInt = 0) ∨ (r46_5.toInt = 1 ∧ c_t_thrown_46_5.toInt = 1 ∧ (1 : Int32).toInt ≠ 0) ∨ (r46_5.toInt = 1 ∧ c_t_thrown_46_5.toInt = 2 ∧ (1 : Int32).toInt = 0 ∧ (1 : Int32).toInt ≠ 0) := h18
          refine ok_eq (fun c19 => ?_) (fun c19 => ?_)
          · exfalso; omega
          · exact ok_s (show FA f_t_forms from by first | omega | assumption | trivial | (refine ⟨?_, ?_⟩ <;> first | omega | assumption | trivial | rfl) | (refine ⟨?_, ?_, ?_⟩ <;> first | omega | assumption | trivial | rfl) | (refine ⟨?_, ?_, ?_, ?_⟩ <;> first | omega | assumption | trivial | rfl) | (refine ⟨?_, ?_, ?_, ?_, ?_⟩ <;> first | omega | assumption | trivial | rfl) | (refine ⟨?_, ?_, ?_, ?_, ?_, ?_⟩ <;> first | omega | assumption | trivial | rfl) | (refine ⟨?_, ?_, ?_, ?_, ?_, ?_, ?_⟩ <;> first | omega | assumption | trivial | rfl) | (refine ⟨?_, ?_, ?_, ?_, ?_, ?_, ?_, ?_⟩ <;> first | omega | assumption | trivial | rfl))
        · first | unfold J_X9_multipliers_46 | skip
          refine ok_o2 (sp_X9_isThrown (1 : Int32) (0 : Int32) ) (fun r46_6 c_t_thrown_46_6 h20 => ?_)
          have h20 : (r46_6.toInt = 0 ∧ c_t_thrown_46_6.toInt = 0 ∧ (1 : Int32).toInt = 0 ∧ (0 : Int32).toInt = 0) ∨ (r46_6.toInt = 1 ∧ c_t_thrown_46_6.toInt = 1 ∧ (1 : Int32).toInt ≠ 0) ∨ (r46_6.toInt = 1 ∧ c_t_thrown_46_6.toInt = 2 ∧ (1 : Int32).toInt = 0 ∧ (0 : Int32).toInt ≠ 0) := h20
          refine ok_eq (fun c21 => ?_) (fun c21 => ?_)
          · exfalso; omega
          · exact ok_s (show FA f_t_forms from by first | omega | assumption | trivial | (refine ⟨?_, ?_⟩ <;> first | omega | assumption | trivial | rfl) | (refine ⟨?_, ?_, ?_⟩ <;> first | omega | assumption | trivial | rfl) | (refine ⟨?_, ?_, ?_, ?_⟩ <;> first | omega | assumption | trivial | rfl) | (refine ⟨?_, ?_, ?_, ?_, ?_⟩ <;> first | omega | assumption | trivial | rfl) | (refine ⟨?_, ?_, ?_, ?_, ?_, ?_⟩ <;> first | omega | assumption | trivial | rfl) | (refine ⟨?_, ?_, ?_, ?_, ?_, ?_, ?_⟩ <;> first | omega | assumption | trivial | rfl) | (refine ⟨?_, ?_, ?_, ?_, ?_, ?_, ?_, ?_⟩ <;> first | omega | assumption | trivial | rfl))
      · refine ok_o (sp_X9_isForm p3 ) (fun r24 h22 => ?_)
        have h22 : (r24.toInt = 1 ∧ 0 ≤ p3.toInt ∧ p3.toInt ≤ 5) ∨ (r24.toInt = 0 ∧ (p3.toInt < 0 ∨ 6 ≤ p3.toInt)) := h22
        refine ok_eq (fun c23 => ?_) (fun c23 => ?_)
        · first | unfold J_X9_multipliers_30 | skip
          first | unfold J_X9_multipliers_35 | skip
          refine ok_eq (fun c24 => ?_) (fun c24 => ?_)
          · exfalso; omega
          · first | unfold J_X9_multipliers_46 | skip
            refine ok_o2 (sp_X9_isThrown (1 : Int32) (0 : Int32) ) (fun r46_7 c_t_thrown_46_7 h25 => ?_)
            have h25 : (r46_7.toInt = 0 ∧ c_t_thrown_46_7.toInt = 0 ∧ (1 : Int32).toInt = 0 ∧ (0 : Int32).toInt = 0) ∨ (r46_7.toInt = 1 ∧ c_t_thrown_46_7.toInt = 1 ∧ (1 : Int32).toInt ≠ 0) ∨ (r46_7.toInt = 1 ∧ c_t_thrown_46_7.toInt = 2 ∧ (1 : Int32).toInt = 0 ∧ (0 : Int32).toInt ≠ 0) := h25
            refine ok_eq (fun c26 => ?_) (fun c26 => ?_)
            · exfalso; omega
            · exact ok_s (show FA f_t_forms from by first | omega | assumption | trivial | (refine ⟨?_, ?_⟩ <;> first | omega | assumption | trivial | rfl) | (refine ⟨?_, ?_, ?_⟩ <;> first | omega | assumption | trivial | rfl) | (refine ⟨?_, ?_, ?_, ?_⟩ <;> first | omega | assumption | trivial | rfl) | (refine ⟨?_, ?_, ?_, ?_, ?_⟩ <;> first | omega | assumption | trivial | rfl) | (refine ⟨?_, ?_, ?_, ?_, ?_, ?_⟩ <;> first | omega | assumption | trivial | rfl) | (refine ⟨?_, ?_, ?_, ?_, ?_, ?_, ?_⟩ <;> first | omega | assumption | trivial | rfl) | (refine ⟨?_, ?_, ?_, ?_, ?_, ?_, ?_, ?_⟩ <;> first | omega | assumption | trivial | rfl))
        · first | unfold J_X9_multipliers_35 | skip
          refine ok_eq (fun c27 => ?_) (fun c27 => ?_)
          · first | unfold J_X9_multipliers_46 | skip
            refine ok_o2 (sp_X9_isThrown (0 : Int32) (1 : Int32) ) (fun r46_8 c_t_thrown_46_8 h28 => ?_)
            have h28 : (r46_8.toInt = 0 ∧ c_t_thrown_46_8.toInt = 0 ∧ (0 : Int32).toInt = 0 ∧ (1 : Int32).toInt = 0) ∨ (r46_8.toInt = 1 ∧ c_t_thrown_46_8.toInt = 1 ∧ (0 : Int32).toInt ≠ 0) ∨ (r46_8.toInt = 1 ∧ c_t_thrown_46_8.toInt = 2 ∧ (0 : Int32).toInt = 0 ∧ (1 : Int32).toInt ≠ 0) := h28
            refine ok_eq (fun c29 => ?_) (fun c29 => ?_)
            · exfalso; omega
            · exact ok_s (show FA f_t_forms from by first | omega | assumption | trivial | (refine ⟨?_, ?_⟩ <;> first | omega | assumption | trivial | rfl) | (refine ⟨?_, ?_, ?_⟩ <;> first | omega | assumption | trivial | rfl) | (refine ⟨?_, ?_, ?_, ?_⟩ <;> first | omega | assumption | trivial | rfl) | (refine ⟨?_, ?_, ?_, ?_, ?_⟩ <;> first | omega | assumption | trivial | rfl) | (refine ⟨?_, ?_, ?_, ?_, ?_, ?_⟩ <;> first | omega | assumption | trivial | rfl) | (refine ⟨?_, ?_, ?_, ?_, ?_, ?_, ?_⟩ <;> first | omega | assumption | trivial | rfl) | (refine ⟨?_, ?_, ?_, ?_, ?_, ?_, ?_, ?_⟩ <;> first | omega | assumption | trivial | rfl))
          · first | unfold J_X9_multipliers_46 | skip
            refine ok_o2 (sp_X9_isThrown (0 : Int32) (0 : Int32) ) (fun r46_9 c_t_thrown_46_9 h30 => ?_)
            have h30 : (r46_9.toInt = 0 ∧ c_t_thrown_46_9.toInt = 0 ∧ (0 : Int32).toInt = 0 ∧ (0 : Int32).toInt = 0) ∨ (r46_9.toInt = 1 ∧ c_t_thrown_46_9.toInt = 1 ∧ (0 : Int32).toInt ≠ 0) ∨ (r46_9.toInt = 1 ∧ c_t_thrown_46_9.toInt = 2 ∧ (0 : Int32).toInt = 0 ∧ (0 : Int32).toInt ≠ 0) := h30
            refine ok_eq (fun c31 => ?_) (fun c31 => ?_)
            · refine ok_c (ixo (by omega) (by omega)) ?_
              try have a32 := FA_at (f := f_t_forms) (by assumption) p0.toNatClampNeg
              refine ok_bx (fun f_n55_65 e_f_n55_65 => ?_)
              try have t_f_n55_65 : FA f_n55_65 := by rw [e_f_n55_65]; exact FA_upd (by first | assumption | exact FA_0) _ (by first | omega | assumption | trivial)
              refine ok_bx (fun f_n55_69 e_f_n55_69 => ?_)
              try have t_f_n55_69 : FA f_n55_69 := by rw [e_f_n55_69]; exact FA_upd (by first | assumption | exact FA_0) _ (by first | omega | assumption | trivial)
              refine ok_bx (fun f_n55_73 e_f_n55_73 => ?_)
              try have t_f_n55_73 : FA f_n55_73 := by rw [e_f_n55_73]; exact FA_upd (by first | assumption | exact FA_0) _ (by first | omega | assumption | trivial)
              refine ok_c (ixo (by omega) (by omega)) ?_
              try have a33 := FA_at (f := f_t_forms) (by assumption) p1.toNatClampNeg
              refine ok_bx (fun f_n77_87 e_f_n77_87 => ?_)
              try have t_f_n77_87 : FA f_n77_87 := by rw [e_f_n77_87]; exact FA_upd (by first | assumption | exact FA_0) _ (by first | omega | assumption | trivial)
              refine ok_bx (fun f_n77_91 e_f_n77_91 => ?_)
              try have t_f_n77_91 : FA f_n77_91 := by rw [e_f_n77_91]; exact FA_upd (by first | assumption | exact FA_0) _ (by first | omega | assumption | trivial)
              refine ok_bx (fun f_n77_95 e_f_n77_95 => ?_)
              try have t_f_n77_95 : FA f_n77_95 := by rw [e_f_n77_95]; exact FA_upd (by first | assumption | exact FA_0) _ (by first | omega | assumption | trivial)
              refine mi_loop _ (fun f_n55_98_173 f_n77_98_173 hI34 => ?_) _ _ (by rw [e_f_n55_73, e_f_n55_69, e_f_n55_65, e_f_n77_95, e_f_n77_91, e_f_n77_87]; exact mi_init (by omega) (by omega))
              have m1 : DG (f_n55_98_173 (1 : Int32).toNatClampNeg) ≤ 39 := (hI34.2.2 1 (Or.inl rfl)).1
              have m2 : DG (f_n55_98_173 (2 : Int32).toNatClampNeg) ≤ 39 := (hI34.2.2 2 (Or.inr rfl)).1
              refine ok_c (ixo (by omega) (by omega)) ?_
              try have a35 := FA_at (f := f_n55_98_173) (by assumption) (1 : Int32).toNatClampNeg
              refine ok_bx (fun f_t_forms_182 e_f_t_forms_182 => ?_)
              try have t_f_t_forms_182 : FA f_t_forms_182 := by rw [e_f_t_forms_182]; exact FA_upd (by first | assumption | exact FA_0) _ (by first | omega | assumption | trivial)
              refine ok_c (ixo (by omega) (by omega)) ?_
              try have a36 := FA_at (f := f_n55_98_173) (by assumption) (2 : Int32).toNatClampNeg
              refine ok_bx (fun f_t_forms_193 e_f_t_forms_193 => ?_)
              try have t_f_t_forms_193 : FA f_t_forms_193 := by rw [e_f_t_forms_193]; exact FA_upd (by first | assumption | exact FA_0) _ (by first | omega | assumption | trivial)
              try have a37 := FA_at (f := f_n55_98_173) (by assumption) (0 : Int32).toNatClampNeg
              refine ok_o (sp_X9_degreeOf (f_n55_98_173 (0 : Int32).toNatClampNeg) ) (fun r199 h38 => ?_)
              have h38 : r199.toInt = DG (f_n55_98_173 (0 : Int32).toNatClampNeg) ∧ -1 ≤ r199.toInt ∧ r199.toInt ≤ 63 := h38
              refine ok_o2 (sp_X9_done c_t_acts r199 ) (fun r202 c_t_acts_202 h39 => ?_)
              exact ok_s (show FA f_t_forms_193 from by first | omega | assumption | trivial | (refine ⟨?_, ?_⟩ <;> first | omega | assumption | trivial | rfl) | (refine ⟨?_, ?_, ?_⟩ <;> first | omega | assumption | trivial | rfl) | (refine ⟨?_, ?_, ?_, ?_⟩ <;> first | omega | assumption | trivial | rfl) | (refine ⟨?_, ?_, ?_, ?_, ?_⟩ <;> first | omega | assumption | trivial | rfl) | (refine ⟨?_, ?_, ?_, ?_, ?_, ?_⟩ <;> first | omega | assumption | trivial | rfl) | (refine ⟨?_, ?_, ?_, ?_, ?_, ?_, ?_⟩ <;> first | omega | assumption | trivial | rfl) | (refine ⟨?_, ?_, ?_, ?_, ?_, ?_, ?_, ?_⟩ <;> first | omega | assumption | trivial | rfl))
            · exfalso; omega
set_option maxHeartbeats 1000000 in
theorem sp_X9_power (c_t_acts : Int32) (c_t_refused : Int32) (c_t_thrown : Int32) (f_t_forms : Nat → Int64) (p0 : Int32) (p1 : Int32) (p2 : Int32) (p3 : Int32) (hp0 : FA f_t_forms) : ok (F_X9_power c_t_acts c_t_refused c_t_thrown f_t_forms p0 p1 p2 p3) (fun r => FA r.2.2.2.2) := by
  have l032 : (0 : Int32).toInt = 0 := by decide
  have l064 : (0 : Int64).toInt = 0 := by decide
  have l132 : (1 : Int32).toInt = 1 := by decide
  have l2032 : (20 : Int32).toInt = 20 := by decide
  have l25532 : (255 : Int32).toInt = 255 := by decide
  unfold F_X9_power
  refine ok_o (sp_X9_isForm p0 ) (fun r2 h1 => ?_)
  have h1 : (r2.toInt = 1 ∧ 0 ≤ p0.toInt ∧ p0.toInt ≤ 5) ∨ (r2.toInt = 0 ∧ (p0.toInt < 0 ∨ 6 ≤ p0.toInt)) := h1
  refine ok_eq (fun c2 => ?_) (fun c2 => ?_)
  · first | unfold J_X9_power_23 | skip
    first | unfold J_X9_power_28 | skip
    refine ok_lt (fun c3 => ?_) (fun c3 => ?_)
    · first | unfold J_X9_power_39 | skip
      first | unfold J_X9_power_44 | skip
      refine ok_o2 (sp_X9_isThrown (1 : Int32) (1 : Int32) ) (fun r44 c_t_thrown_44 h4 => ?_)
      have h4 : (r44.toInt = 0 ∧ c_t_thrown_44.toInt = 0 ∧ (1 : Int32).toInt = 0 ∧ (1 : Int32).toInt = 0) ∨ (r44.toInt = 1 ∧ c_t_thrown_44.toInt = 1 ∧ (1 : Int32).toInt ≠ 0) ∨ (r44.toInt = 1 ∧ c_t_thrown_44.toInt = 2 ∧ (1 : Int32).toInt = 0 ∧ (1 : Int32).toInt ≠ 0) := h4
      refine ok_eq (fun c5 => ?_) (fun c5 => ?_)
      · exfalso; omega
      · exact ok_s (show FA f_t_forms from by first | omega | assumption | trivial | (refine ⟨?_, ?_⟩ <;> first | omega | assumption | trivial | rfl) | (refine ⟨?_, ?_, ?_⟩ <;> first | omega | assumption | trivial | rfl) | (refine ⟨?_, ?_, ?_, ?_⟩ <;> first | omega | assumption | trivial | rfl) | (refine ⟨?_, ?_, ?_, ?_, ?_⟩ <;> first | omega | assumption | trivial | rfl) | (refine ⟨?_, ?_, ?_, ?_, ?_, ?_⟩ <;> first | omega | assumption | trivial | rfl) | (refine ⟨?_, ?_, ?_, ?_, ?_, ?_, ?_⟩ <;> first | omega | assumption | trivial | rfl) | (refine ⟨?_, ?_, ?_, ?_, ?_, ?_, ?_, ?_⟩ <;> first | omega | assumption | trivial | rfl))
    · refine ok_le (fun c6 => ?_) (fun c6 => ?_)
      · first | unfold J_X9_power_44 | skip
        refine ok_o2 (sp_X9_isThrown (1 : Int32) (0 : Int32) ) (fun r44_2 c_t_thrown_44_2 h7 => ?_)
        have h7 : (r44_2.toInt = 0 ∧ c_t_thrown_44_2.toInt = 0 ∧ (1 : Int32).toInt = 0 ∧ (0 : Int32).toInt = 0) ∨ (r44_2.toInt = 1 ∧ c_t_thrown_44_2.toInt = 1 ∧ (1 : Int32).toInt ≠ 0) ∨ (r44_2.toInt = 1 ∧ c_t_thrown_44_2.toInt = 2 ∧ (1 : Int32).toInt = 0 ∧ (0 : Int32).toInt ≠ 0) := h7
        refine ok_eq (fun c8 => ?_) (fun c8 => ?_)
        · exfalso; omega
        · exact ok_s (show FA f_t_forms from by first | omega | assumption | trivial | (refine ⟨?_, ?_⟩ <;> first | omega | assumption | trivial | rfl) | (refine ⟨?_, ?_, ?_⟩ <;> first | omega | assumption | trivial | rfl) | (refine ⟨?_, ?_, ?_, ?_⟩ <;> first | omega | assumption | trivial | rfl) | (refine ⟨?_, ?_, ?_, ?_, ?_⟩ <;> first | omega | assumption | trivial | rfl) | (refine ⟨?_, ?_, ?_, ?_, ?_, ?_⟩ <;> first | omega | assumption | trivial | rfl) | (refine ⟨?_, ?_, ?_, ?_, ?_, ?_, ?_⟩ <;> first | omega | assumption | trivial | rfl) | (refine ⟨?_, ?_, ?_, ?_, ?_, ?_, ?_, ?_⟩ <;> first | omega | assumption | trivial | rfl))
      · first | unfold J_X9_power_39 | skip
        first | unfold J_X9_power_44 | skip
        refine ok_o2 (sp_X9_isThrown (1 : Int32) (1 : Int32) ) (fun r44_3 c_t_thrown_44_3 h9 => ?_)
        have h9 : (r44_3.toInt = 0 ∧ c_t_thrown_44_3.toInt = 0 ∧ (1 : Int32).toInt = 0 ∧ (1 : Int32).toInt = 0) ∨ (r44_3.toInt = 1 ∧ c_t_thrown_44_3.toInt = 1 ∧ (1 : Int32).toInt ≠ 0) ∨ (r44_3.toInt = 1 ∧ c_t_thrown_44_3.toInt = 2 ∧ (1 : Int32).toInt = 0 ∧ (1 : Int32).toInt ≠ 0) := h9
        refine ok_eq (fun c10 => ?_) (fun c10 => ?_)
        · exfalso; omega
        · exact ok_s (show FA f_t_forms from by first | omega | assumption | trivial | (refine ⟨?_, ?_⟩ <;> first | omega | assumption | trivial | rfl) | (refine ⟨?_, ?_, ?_⟩ <;> first | omega | assumption | trivial | rfl) | (refine ⟨?_, ?_, ?_, ?_⟩ <;> first | omega | assumption | trivial | rfl) | (refine ⟨?_, ?_, ?_, ?_, ?_⟩ <;> first | omega | assumption | trivial | rfl) | (refine ⟨?_, ?_, ?_, ?_, ?_, ?_⟩ <;> first | omega | assumption | trivial | rfl) | (refine ⟨?_, ?_, ?_, ?_, ?_, ?_, ?_⟩ <;> first | omega | assumption | trivial | rfl) | (refine ⟨?_, ?_, ?_, ?_, ?_, ?_, ?_, ?_⟩ <;> first | omega | assumption | trivial | rfl))
  · refine ok_o (sp_X9_isForm p2 ) (fun r9 h11 => ?_)
    have h11 : (r9.toInt = 1 ∧ 0 ≤ p2.toInt ∧ p2.toInt ≤ 5) ∨ (r9.toInt = 0 ∧ (p2.toInt < 0 ∨ 6 ≤ p2.toInt)) := h11
    refine ok_eq (fun c12 => ?_) (fun c12 => ?_)
    · first | unfold J_X9_power_23 | skip
      first | unfold J_X9_power_28 | skip
      refine ok_lt (fun c13 => ?_) (fun c13 => ?_)
      · first | unfold J_X9_power_39 | skip
        first | unfold J_X9_power_44 | skip
        refine ok_o2 (sp_X9_isThrown (1 : Int32) (1 : Int32) ) (fun r44_4 c_t_thrown_44_4 h14 => ?_)
        have h14 : (r44_4.toInt = 0 ∧ c_t_thrown_44_4.toInt = 0 ∧ (1 : Int32).toInt = 0 ∧ (1 : Int32).toInt = 0) ∨ (r44_4.toInt = 1 ∧ c_t_thrown_44_4.toInt = 1 ∧ (1 : Int32).toInt ≠ 0) ∨ (r44_4.toInt = 1 ∧ c_t_thrown_44_4.toInt = 2 ∧ (1 : Int32).toInt = 0 ∧ (1 : Int32).toInt ≠ 0) := h14
        refine ok_eq (fun c15 => ?_) (fun c15 => ?_)
        · exfalso; omega
        · exact ok_s (show FA f_t_forms from by first | omega | assumption | trivial | (refine ⟨?_, ?_⟩ <;> first | omega | assumption | trivial | rfl) | (refine ⟨?_, ?_, ?_⟩ <;> first | omega | assumption | trivial | rfl) | (refine ⟨?_, ?_, ?_, ?_⟩ <;> first | omega | assumption | trivial | rfl) | (refine ⟨?_, ?_, ?_, ?_, ?_⟩ <;> first | omega | assumption | trivial | rfl) | (refine ⟨?_, ?_, ?_, ?_, ?_, ?_⟩ <;> first | omega | assumption | trivial | rfl) | (refine ⟨?_, ?_, ?_, ?_, ?_, ?_, ?_⟩ <;> first | omega | assumption | trivial | rfl) | (refine ⟨?_, ?_, ?_, ?_, ?_, ?_, ?_, ?_⟩ <;> first | omega | assumption | trivial | rfl))
      · refine ok_le (fun c16 => ?_) (fun c16 => ?_)
        · first | unfold J_X9_power_44 | skip
          refine ok_o2 (sp_X9_isThrown (1 : Int32) (0 : Int32) ) (fun r44_5 c_t_thrown_44_5 h17 => ?_)
          have h17 : (r44_5.toInt = 0 ∧ c_t_thrown_44_5.toInt = 0 ∧ (1 : Int32).toInt = 0 ∧ (0 : Int32).toInt = 0) ∨ (r44_5.toInt = 1 ∧ c_t_thrown_44_5.toInt = 1 ∧ (1 : Int32).toInt ≠ 0) ∨ (r44_5.toInt = 1 ∧ c_t_thrown_44_5.toInt = 2 ∧ (1 : Int32).toInt = 0 ∧ (0 : Int32).toInt ≠ 0) := h17
          refine ok_eq (fun c18 => ?_) (fun c18 => ?_)
          · exfalso; omega
          · exact ok_s (show FA f_t_forms from by first | omega | assumption | trivial | (refine ⟨?_, ?_⟩ <;> first | omega | assumption | trivial | rfl) | (refine ⟨?_, ?_, ?_⟩ <;> first | omega | assumption | trivial | rfl) | (refine ⟨?_, ?_, ?_, ?_⟩ <;> first | omega | assumption | trivial | rfl) | (refine ⟨?_, ?_, ?_, ?_, ?_⟩ <;> first | omega | assumption | trivial | rfl) | (refine ⟨?_, ?_, ?_, ?_, ?_, ?_⟩ <;> first | omega | assumption | trivial | rfl) | (refine ⟨?_, ?_, ?_, ?_, ?_, ?_, ?_⟩ <;> first | omega | assumption | trivial | rfl) | (refine ⟨?_, ?_, ?_, ?_, ?_, ?_, ?_, ?_⟩ <;> first | omega | assumption | trivial | rfl))
        · first | unfold J_X9_power_39 | skip
          first | unfold J_X9_power_44 | skip
          refine ok_o2 (sp_X9_isThrown (1 : Int32) (1 : Int32) ) (fun r44_6 c_t_thrown_44_6 h19 => ?_)
          have h19 : (r44_6.toInt = 0 ∧ c_t_thrown_44_6.toInt = 0 ∧ (1 : Int32).toInt = 0 ∧ (1 : Int32).toInt = 0) ∨ (r44_6.toInt = 1 ∧ c_t_thrown_44_6.toInt = 1 ∧ (1 : Int32).toInt ≠ 0) ∨ (r44_6.toInt = 1 ∧ c_t_thrown_44_6.toInt = 2 ∧ (1 : Int32).toInt = 0 ∧ (1 : Int32).toInt ≠ 0) := h19
          refine ok_eq (fun c20 => ?_) (fun c20 => ?_)
          · exfalso; omega
          · exact ok_s (show FA f_t_forms from by first | omega | assumption | trivial | (refine ⟨?_, ?_⟩ <;> first | omega | assumption | trivial | rfl) | (refine ⟨?_, ?_, ?_⟩ <;> first | omega | assumption | trivial | rfl) | (refine ⟨?_, ?_, ?_, ?_⟩ <;> first | omega | assumption | trivial | rfl) | (refine ⟨?_, ?_, ?_, ?_, ?_⟩ <;> first | omega | assumption | trivial | rfl) | (refine ⟨?_, ?_, ?_, ?_, ?_, ?_⟩ <;> first | omega | assumption | trivial | rfl) | (refine ⟨?_, ?_, ?_, ?_, ?_, ?_, ?_⟩ <;> first | omega | assumption | trivial | rfl) | (refine ⟨?_, ?_, ?_, ?_, ?_, ?_, ?_, ?_⟩ <;> first | omega | assumption | trivial | rfl))
    · refine ok_o (sp_X9_isForm p3 ) (fun r17 h21 => ?_)
      have h21 : (r17.toInt = 1 ∧ 0 ≤ p3.toInt ∧ p3.toInt ≤ 5) ∨ (r17.toInt = 0 ∧ (p3.toInt < 0 ∨ 6 ≤ p3.toInt)) := h21
      refine ok_eq (fun c22 => ?_) (fun c22 => ?_)
      · first | unfold J_X9_power_23 | skip
        first | unfold J_X9_power_28 | skip
        refine ok_lt (fun c23 => ?_) (fun c23 => ?_)
        · first | unfold J_X9_power_39 | skip
          first | unfold J_X9_power_44 | skip
          refine ok_o2 (sp_X9_isThrown (1 : Int32) (1 : Int32) ) (fun r44_7 c_t_thrown_44_7 h24 => ?_)
          have h24 : (r44_7.toInt = 0 ∧ c_t_thrown_44_7.toInt = 0 ∧ (1 : Int32).toInt = 0 ∧ (1 : Int32).toInt = 0) ∨ (r44_7.toInt = 1 ∧ c_t_thrown_44_7.toInt = 1 ∧ (1 : Int32).toInt ≠ 0) ∨ (r44_7.toInt = 1 ∧ c_t_thrown_44_7.toInt = 2 ∧ (1 : Int32).toInt = 0 ∧ (1 : Int32).toInt ≠ 0) := h24
          refine ok_eq (fun c25 => ?_) (fun c25 => ?_)
          · exfalso; omega
          · exact ok_s (show FA f_t_forms from by first | omega | assumption | trivial | (refine ⟨?_, ?_⟩ <;> first | omega | assumption | trivial | rfl) | (refine ⟨?_, ?_, ?_⟩ <;> first | omega | assumption | trivial | rfl) | (refine ⟨?_, ?_, ?_, ?_⟩ <;> first | omega | assumption | trivial | rfl) | (refine ⟨?_, ?_, ?_, ?_, ?_⟩ <;> first | omega | assumption | trivial | rfl) | (refine ⟨?_, ?_, ?_, ?_, ?_, ?_⟩ <;> first | omega | assumption | trivial | rfl) | (refine ⟨?_, ?_, ?_, ?_, ?_, ?_, ?_⟩ <;> first | omega | assumption | trivial | rfl) | (refine ⟨?_, ?_, ?_, ?_, ?_, ?_, ?_, ?_⟩ <;> first | omega | assumption | trivial | rfl))
        · refine ok_le (fun c26 => ?_) (fun c26 => ?_)
          · first | unfold J_X9_power_44 | skip
            refine ok_o2 (sp_X9_isThrown (1 : Int32) (0 : Int32) ) (fun r44_8 c_t_thrown_44_8 h27 => ?_)
            have h27 : (r44_8.toInt = 0 ∧ c_t_thrown_44_8.toInt = 0 ∧ (1 : Int32).toInt = 0 ∧ (0 : Int32).toInt = 0) ∨ (r44_8.toInt = 1 ∧ c_t_thrown_44_8.toInt = 1 ∧ (1 : Int32).toInt ≠ 0) ∨ (r44_8.toInt = 1 ∧ c_t_thrown_44_8.toInt = 2 ∧ (1 : Int32).toInt = 0 ∧ (0 : Int32).toInt ≠ 0) := h27
            refine ok_eq (fun c28 => ?_) (fun c28 => ?_)
            · exfalso; omega
            · exact ok_s (show FA f_t_forms from by first | omega | assumption | trivial | (refine ⟨?_, ?_⟩ <;> first | omega | assumption | trivial | rfl) | (refine ⟨?_, ?_, ?_⟩ <;> first | omega | assumption | trivial | rfl) | (refine ⟨?_, ?_, ?_, ?_⟩ <;> first | omega | assumption | trivial | rfl) | (refine ⟨?_, ?_, ?_, ?_, ?_⟩ <;> first | omega | assumption | trivial | rfl) | (refine ⟨?_, ?_, ?_, ?_, ?_, ?_⟩ <;> first | omega | assumption | trivial | rfl) | (refine ⟨?_, ?_, ?_, ?_, ?_, ?_, ?_⟩ <;> first | omega | assumption | trivial | rfl) | (refine ⟨?_, ?_, ?_, ?_, ?_, ?_, ?_, ?_⟩ <;> first | omega | assumption | trivial | rfl))
          · first | unfold J_X9_power_39 | skip
            first | unfold J_X9_power_44 | skip
            refine ok_o2 (sp_X9_isThrown (1 : Int32) (1 : Int32) ) (fun r44_9 c_t_thrown_44_9 h29 => ?_)
            have h29 : (r44_9.toInt = 0 ∧ c_t_thrown_44_9.toInt = 0 ∧ (1 : Int32).toInt = 0 ∧ (1 : Int32).toInt = 0) ∨ (r44_9.toInt = 1 ∧ c_t_thrown_44_9.toInt = 1 ∧ (1 : Int32).toInt ≠ 0) ∨ (r44_9.toInt = 1 ∧ c_t_thrown_44_9.toInt = 2 ∧ (1 : Int32).toInt = 0 ∧ (1 : Int32).toInt ≠ 0) := h29
            refine ok_eq (fun c30 => ?_) (fun c30 => ?_)
            · exfalso; omega
            · exact ok_s (show FA f_t_forms from by first | omega | assumption | trivial | (refine ⟨?_, ?_⟩ <;> first | omega | assumption | trivial | rfl) | (refine ⟨?_, ?_, ?_⟩ <;> first | omega | assumption | trivial | rfl) | (refine ⟨?_, ?_, ?_, ?_⟩ <;> first | omega | assumption | trivial | rfl) | (refine ⟨?_, ?_, ?_, ?_, ?_⟩ <;> first | omega | assumption | trivial | rfl) | (refine ⟨?_, ?_, ?_, ?_, ?_, ?_⟩ <;> first | omega | assumption | trivial | rfl) | (refine ⟨?_, ?_, ?_, ?_, ?_, ?_, ?_⟩ <;> first | omega | assumption | trivial | rfl) | (refine ⟨?_, ?_, ?_, ?_, ?_, ?_, ?_, ?_⟩ <;> first | omega | assumption | trivial | rfl))
      · first | unfold J_X9_power_28 | skip
        refine ok_lt (fun c31 => ?_) (fun c31 => ?_)
        · first | unfold J_X9_power_39 | skip
          first | unfold J_X9_power_44 | skip
          refine ok_o2 (sp_X9_isThrown (0 : Int32) (1 : Int32) ) (fun r44_10 c_t_thrown_44_10 h32 => ?_)
          have h32 : (r44_10.toInt = 0 ∧ c_t_thrown_44_10.toInt = 0 ∧ (0 : Int32).toInt = 0 ∧ (1 : Int32).toInt = 0) ∨ (r44_10.toInt = 1 ∧ c_t_thrown_44_10.toInt = 1 ∧ (0 : Int32).toInt ≠ 0) ∨ (r44_10.toInt = 1 ∧ c_t_thrown_44_10.toInt = 2 ∧ (0 : Int32).toInt = 0 ∧ (1 : Int32).toInt ≠ 0) := h32
          refine ok_eq (fun c33 => ?_) (fun c33 => ?_)
          · exfalso; omega
          · exact ok_s (show FA f_t_forms from by first | omega | assumption | trivial | (refine ⟨?_, ?_⟩ <;> first | omega | assumption | trivial | rfl) | (refine ⟨?_, ?_, ?_⟩ <;> first | omega | assumption | trivial | rfl) | (refine ⟨?_, ?_, ?_, ?_⟩ <;> first | omega | assumption | trivial | rfl) | (refine ⟨?_, ?_, ?_, ?_, ?_⟩ <;> first | omega | assumption | trivial | rfl) | (refine ⟨?_, ?_, ?_, ?_, ?_, ?_⟩ <;> first | omega | assumption | trivial | rfl) | (refine ⟨?_, ?_, ?_, ?_, ?_, ?_, ?_⟩ <;> first | omega | assumption | trivial | rfl) | (refine ⟨?_, ?_, ?_, ?_, ?_, ?_, ?_, ?_⟩ <;> first | omega | assumption | trivial | rfl))
        · refine ok_le (fun c34 => ?_) (fun c34 => ?_)
          · first | unfold J_X9_power_44 | skip
            refine ok_o2 (sp_X9_isThrown (0 : Int32) (0 : Int32) ) (fun r44_11 c_t_thrown_44_11 h35 => ?_)
            have h35 : (r44_11.toInt = 0 ∧ c_t_thrown_44_11.toInt = 0 ∧ (0 : Int32).toInt = 0 ∧ (0 : Int32).toInt = 0) ∨ (r44_11.toInt = 1 ∧ c_t_thrown_44_11.toInt = 1 ∧ (0 : Int32).toInt ≠ 0) ∨ (r44_11.toInt = 1 ∧ c_t_thrown_44_11.toInt = 2 ∧ (0 : Int32).toInt = 0 ∧ (0 : Int32).toInt ≠ 0) := h35
            refine ok_eq (fun c36 => ?_) (fun c36 => ?_)
            · refine ok_c (ixo (by omega) (by omega)) ?_
              try have a38 := FA_at (f := f_t_forms) (by assumption) p2.toNatClampNeg
              have z_c37 := DG_z (f_t_forms p2.toNatClampNeg)
              refine ok_eqL (fun c37 => ?_) (fun c37 => ?_)
              · refine ok_o2 (sp_X9_no c_t_refused ) (fun r78 c_t_refused_78 h39 => ?_)
                exact ok_s (show FA f_t_forms from by first | omega | assumption | trivial | (refine ⟨?_, ?_⟩ <;> first | omega | assumption | trivial | rfl) | (refine ⟨?_, ?_, ?_⟩ <;> first | omega | assumption | trivial | rfl) | (refine ⟨?_, ?_, ?_, ?_⟩ <;> first | omega | assumption | trivial | rfl) | (refine ⟨?_, ?_, ?_, ?_, ?_⟩ <;> first | omega | assumption | trivial | rfl) | (refine ⟨?_, ?_, ?_, ?_, ?_, ?_⟩ <;> first | omega | assumption | trivial | rfl) | (refine ⟨?_, ?_, ?_, ?_, ?_, ?_, ?_⟩ <;> first | omega | assumption | trivial | rfl) | (refine ⟨?_, ?_, ?_, ?_, ?_, ?_, ?_, ?_⟩ <;> first | omega | assumption | trivial | rfl))
              · refine ok_c (ixo (by omega) (by omega)) ?_
                try have a40 := FA_at (f := f_t_forms) (by assumption) p2.toNatClampNeg
                refine ok_o (sp_X9_degreeOf (f_t_forms p2.toNatClampNeg) ) (fun r69 h41 => ?_)
                have h41 : r69.toInt = DG (f_t_forms p2.toNatClampNeg) ∧ -1 ≤ r69.toInt ∧ r69.toInt ≤ 63 := h41
                refine ok_le (fun c42 => ?_) (fun c42 => ?_)
                · refine ok_c (ixo (by omega) (by omega)) ?_
                  refine ok_c (ixo (by omega) (by omega)) ?_
                  try have a43 := FA_at (f := f_t_forms) (by assumption) p0.toNatClampNeg
                  try have a44 := FA_at (f := f_t_forms) (by assumption) p2.toNatClampNeg
                  refine ok_o (sp_X9_powerOf (f_t_forms p0.toNatClampNeg) p1 (f_t_forms p2.toNatClampNeg) (by first | omega | assumption | trivial | exact wt_of (by assumption) (by omega)) (by first | omega | assumption | trivial | exact wt_of (by assumption) (by omega)) (by first | omega | assumption | trivial | exact wt_of (by assumption) (by omega)) (by first | omega | assumption | trivial | exact wt_of (by assumption) (by omega)) (by first | omega | assumption | trivial | exact wt_of (by assumption) (by omega))) (fun r100 h45 => ?_)
                  have h45 : DG r100 ≤ 39 := h45
                  refine ok_o3 (sp_X9_give c_t_acts f_t_forms p3 r100 (by first | omega | assumption | trivial | exact wt_of (by assumption) (by omega)) (by first | omega | assumption | trivial | exact wt_of (by assumption) (by omega)) (by first | omega | assumption | trivial | exact wt_of (by assumption) (by omega)) (by first | omega | assumption | trivial | exact wt_of (by assumption) (by omega))) (fun r103 c_t_acts_103 f_t_forms_103 h46 => ?_)
                  have h46 : FA f_t_forms_103 := h46
                  exact ok_s (show FA f_t_forms_103 from by first | omega | assumption | trivial | (refine ⟨?_, ?_⟩ <;> first | omega | assumption | trivial | rfl) | (refine ⟨?_, ?_, ?_⟩ <;> first | omega | assumption | trivial | rfl) | (refine ⟨?_, ?_, ?_, ?_⟩ <;> first | omega | assumption | trivial | rfl) | (refine ⟨?_, ?_, ?_, ?_, ?_⟩ <;> first | omega | assumption | trivial | rfl) | (refine ⟨?_, ?_, ?_, ?_, ?_, ?_⟩ <;> first | omega | assumption | trivial | rfl) | (refine ⟨?_, ?_, ?_, ?_, ?_, ?_, ?_⟩ <;> first | omega | assumption | trivial | rfl) | (refine ⟨?_, ?_, ?_, ?_, ?_, ?_, ?_, ?_⟩ <;> first | omega | assumption | trivial | rfl))
                · refine ok_o2 (sp_X9_no c_t_refused ) (fun r78_2 c_t_refused_78_2 h47 => ?_)
                  exact ok_s (show FA f_t_forms from by first | omega | assumption | trivial | (refine ⟨?_, ?_⟩ <;> first | omega | assumption | trivial | rfl) | (refine ⟨?_, ?_, ?_⟩ <;> first | omega | assumption | trivial | rfl) | (refine ⟨?_, ?_, ?_, ?_⟩ <;> first | omega | assumption | trivial | rfl) | (refine ⟨?_, ?_, ?_, ?_, ?_⟩ <;> first | omega | assumption | trivial | rfl) | (refine ⟨?_, ?_, ?_, ?_, ?_, ?_⟩ <;> first | omega | assumption | trivial | rfl) | (refine ⟨?_, ?_, ?_, ?_, ?_, ?_, ?_⟩ <;> first | omega | assumption | trivial | rfl) | (refine ⟨?_, ?_, ?_, ?_, ?_, ?_, ?_, ?_⟩ <;> first | omega | assumption | trivial | rfl))
            · exfalso; omega
          · first | unfold J_X9_power_39 | skip
            first | unfold J_X9_power_44 | skip
            refine ok_o2 (sp_X9_isThrown (0 : Int32) (1 : Int32) ) (fun r44_12 c_t_thrown_44_12 h48 => ?_)
            have h48 : (r44_12.toInt = 0 ∧ c_t_thrown_44_12.toInt = 0 ∧ (0 : Int32).toInt = 0 ∧ (1 : Int32).toInt = 0) ∨ (r44_12.toInt = 1 ∧ c_t_thrown_44_12.toInt = 1 ∧ (0 : Int32).toInt ≠ 0) ∨ (r44_12.toInt = 1 ∧ c_t_thrown_44_12.toInt = 2 ∧ (0 : Int32).toInt = 0 ∧ (1 : Int32).toInt ≠ 0) := h48
            refine ok_eq (fun c49 => ?_) (fun c49 => ?_)
            · exfalso; omega
            · exact ok_s (show FA f_t_forms from by first | omega | assumption | trivial | (refine ⟨?_, ?_⟩ <;> first | omega | assumption | trivial | rfl) | (refine ⟨?_, ?_, ?_⟩ <;> first | omega | assumption | trivial | rfl) | (refine ⟨?_, ?_, ?_, ?_⟩ <;> first | omega | assumption | trivial | rfl) | (refine ⟨?_, ?_, ?_, ?_, ?_⟩ <;> first | omega | assumption | trivial | rfl) | (refine ⟨?_, ?_, ?_, ?_, ?_, ?_⟩ <;> first | omega | assumption | trivial | rfl) | (refine ⟨?_, ?_, ?_, ?_, ?_, ?_, ?_⟩ <;> first | omega | assumption | trivial | rfl) | (refine ⟨?_, ?_, ?_, ?_, ?_, ?_, ?_, ?_⟩ <;> first | omega | assumption | trivial | rfl))
set_option maxHeartbeats 1000000 in
theorem sp_X9_allPrimes (c_t_acts : Int32) (c_t_thrown : Int32) (f_t_forms : Nat → Int64) (p0 : Int32) (p1 : Int32) (hp0 : FA f_t_forms) : ok (F_X9_allPrimes c_t_acts c_t_thrown f_t_forms p0 p1) (fun r => FA r.2.2.2) := by
  have l032 : (0 : Int32).toInt = 0 := by decide
  have l132 : (1 : Int32).toInt = 1 := by decide
  have l164 : (1 : Int64).toInt = 1 := by decide
  have l264 : (2 : Int64).toInt = 2 := by decide
  have l532 : (5 : Int32).toInt = 5 := by decide
  unfold F_X9_allPrimes
  refine ok_o (sp_X9_isForm p1 ) (fun r2 h1 => ?_)
  have h1 : (r2.toInt = 1 ∧ 0 ≤ p1.toInt ∧ p1.toInt ≤ 5) ∨ (r2.toInt = 0 ∧ (p1.toInt < 0 ∨ 6 ≤ p1.toInt)) := h1
  refine ok_eq (fun c2 => ?_) (fun c2 => ?_)
  · first | unfold J_X9_allPrimes_13 | skip
    refine ok_lt (fun c3 => ?_) (fun c3 => ?_)
    · first | unfold J_X9_allPrimes_23 | skip
      first | unfold J_X9_allPrimes_28 | skip
      refine ok_o2 (sp_X9_isThrown (1 : Int32) (1 : Int32) ) (fun r28 c_t_thrown_28 h4 => ?_)
      have h4 : (r28.toInt = 0 ∧ c_t_thrown_28.toInt = 0 ∧ (1 : Int32).toInt = 0 ∧ (1 : Int32).toInt = 0) ∨ (r28.toInt = 1 ∧ c_t_thrown_28.toInt = 1 ∧ (1 : Int32).toInt ≠ 0) ∨ (r28.toInt = 1 ∧ c_t_thrown_28.toInt = 2 ∧ (1 : Int32).toInt = 0 ∧ (1 : Int32).toInt ≠ 0) := h4
      refine ok_eq (fun c5 => ?_) (fun c5 => ?_)
      · exfalso; omega
      · exact ok_s (show FA f_t_forms from by first | omega | assumption | trivial | (refine ⟨?_, ?_⟩ <;> first | omega | assumption | trivial | rfl) | (refine ⟨?_, ?_, ?_⟩ <;> first | omega | assumption | trivial | rfl) | (refine ⟨?_, ?_, ?_, ?_⟩ <;> first | omega | assumption | trivial | rfl) | (refine ⟨?_, ?_, ?_, ?_, ?_⟩ <;> first | omega | assumption | trivial | rfl) | (refine ⟨?_, ?_, ?_, ?_, ?_, ?_⟩ <;> first | omega | assumption | trivial | rfl) | (refine ⟨?_, ?_, ?_, ?_, ?_, ?_, ?_⟩ <;> first | omega | assumption | trivial | rfl) | (refine ⟨?_, ?_, ?_, ?_, ?_, ?_, ?_, ?_⟩ <;> first | omega | assumption | trivial | rfl))
    · refine ok_le (fun c6 => ?_) (fun c6 => ?_)
      · first | unfold J_X9_allPrimes_28 | skip
        refine ok_o2 (sp_X9_isThrown (1 : Int32) (0 : Int32) ) (fun r28_2 c_t_thrown_28_2 h7 => ?_)
        have h7 : (r28_2.toInt = 0 ∧ c_t_thrown_28_2.toInt = 0 ∧ (1 : Int32).toInt = 0 ∧ (0 : Int32).toInt = 0) ∨ (r28_2.toInt = 1 ∧ c_t_thrown_28_2.toInt = 1 ∧ (1 : Int32).toInt ≠ 0) ∨ (r28_2.toInt = 1 ∧ c_t_thrown_28_2.toInt = 2 ∧ (1 : Int32).toInt = 0 ∧ (0 : Int32).toInt ≠ 0) := h7
        refine ok_eq (fun c8 => ?_) (fun c8 => ?_)
        · exfalso; omega
        · exact ok_s (show FA f_t_forms from by first | omega | assumption | trivial | (refine ⟨?_, ?_⟩ <;> first | omega | assumption | trivial | rfl) | (refine ⟨?_, ?_, ?_⟩ <;> first | omega | assumption | trivial | rfl) | (refine ⟨?_, ?_, ?_, ?_⟩ <;> first | omega | assumption | trivial | rfl) | (refine ⟨?_, ?_, ?_, ?_, ?_⟩ <;> first | omega | assumption | trivial | rfl) | (refine ⟨?_, ?_, ?_, ?_, ?_, ?_⟩ <;> first | omega | assumption | trivial | rfl) | (refine ⟨?_, ?_, ?_, ?_, ?_, ?_, ?_⟩ <;> first | omega | assumption | trivial | rfl) | (refine ⟨?_, ?_, ?_, ?_, ?_, ?_, ?_, ?_⟩ <;> first | omega | assumption | trivial | rfl))
      · first | unfold J_X9_allPrimes_23 | skip
        first | unfold J_X9_allPrimes_28 | skip
        refine ok_o2 (sp_X9_isThrown (1 : Int32) (1 : Int32) ) (fun r28_3 c_t_thrown_28_3 h9 => ?_)
        have h9 : (r28_3.toInt = 0 ∧ c_t_thrown_28_3.toInt = 0 ∧ (1 : Int32).toInt = 0 ∧ (1 : Int32).toInt = 0) ∨ (r28_3.toInt = 1 ∧ c_t_thrown_28_3.toInt = 1 ∧ (1 : Int32).toInt ≠ 0) ∨ (r28_3.toInt = 1 ∧ c_t_thrown_28_3.toInt = 2 ∧ (1 : Int32).toInt = 0 ∧ (1 : Int32).toInt ≠ 0) := h9
        refine ok_eq (fun c10 => ?_) (fun c10 => ?_)
        · exfalso; omega
        · exact ok_s (show FA f_t_forms from by first | omega | assumption | trivial | (refine ⟨?_, ?_⟩ <;> first | omega | assumption | trivial | rfl) | (refine ⟨?_, ?_, ?_⟩ <;> first | omega | assumption | trivial | rfl) | (refine ⟨?_, ?_, ?_, ?_⟩ <;> first | omega | assumption | trivial | rfl) | (refine ⟨?_, ?_, ?_, ?_, ?_⟩ <;> first | omega | assumption | trivial | rfl) | (refine ⟨?_, ?_, ?_, ?_, ?_, ?_⟩ <;> first | omega | assumption | trivial | rfl) | (refine ⟨?_, ?_, ?_, ?_, ?_, ?_, ?_⟩ <;> first | omega | assumption | trivial | rfl) | (refine ⟨?_, ?_, ?_, ?_, ?_, ?_, ?_, ?_⟩ <;> first | omega | assumption | trivial | rfl))
  · first | unfold J_X9_allPrimes_13 | skip
    refine ok_lt (fun c11 => ?_) (fun c11 => ?_)
    · first | unfold J_X9_allPrimes_23 | skip
      first | unfold J_X9_allPrimes_28 | skip
      refine ok_o2 (sp_X9_isThrown (0 : Int32) (1 : Int32) ) (fun r28_4 c_t_thrown_28_4 h12 => ?_)
      have h12 : (r28_4.toInt = 0 ∧ c_t_thrown_28_4.toInt = 0 ∧ (0 : Int32).toInt = 0 ∧ (1 : Int32).toInt = 0) ∨ (r28_4.toInt = 1 ∧ c_t_thrown_28_4.toInt = 1 ∧ (0 : Int32).toInt ≠ 0) ∨ (r28_4.toInt = 1 ∧ c_t_thrown_28_4.toInt = 2 ∧ (0 : Int32).toInt = 0 ∧ (1 : Int32).toInt ≠ 0) := h12
      refine ok_eq (fun c13 => ?_) (fun c13 => ?_)
      · exfalso; omega
      · exact ok_s (show FA f_t_forms from by first | omega | assumption | trivial | (refine ⟨?_, ?_⟩ <;> first | omega | assumption | trivial | rfl) | (refine ⟨?_, ?_, ?_⟩ <;> first | omega | assumption | trivial | rfl) | (refine ⟨?_, ?_, ?_, ?_⟩ <;> first | omega | assumption | trivial | rfl) | (refine ⟨?_, ?_, ?_, ?_, ?_⟩ <;> first | omega | assumption | trivial | rfl) | (refine ⟨?_, ?_, ?_, ?_, ?_, ?_⟩ <;> first | omega | assumption | trivial | rfl) | (refine ⟨?_, ?_, ?_, ?_, ?_, ?_, ?_⟩ <;> first | omega | assumption | trivial | rfl) | (refine ⟨?_, ?_, ?_, ?_, ?_, ?_, ?_, ?_⟩ <;> first | omega | assumption | trivial | rfl))
    · refine ok_le (fun c14 => ?_) (fun c14 => ?_)
      · first | unfold J_X9_allPrimes_28 | skip
        refine ok_o2 (sp_X9_isThrown (0 : Int32) (0 : Int32) ) (fun r28_5 c_t_thrown_28_5 h15 => ?_)
        have h15 : (r28_5.toInt = 0 ∧ c_t_thrown_28_5.toInt = 0 ∧ (0 : Int32).toInt = 0 ∧ (0 : Int32).toInt = 0) ∨ (r28_5.toInt = 1 ∧ c_t_thrown_28_5.toInt = 1 ∧ (0 : Int32).toInt ≠ 0) ∨ (r28_5.toInt = 1 ∧ c_t_thrown_28_5.toInt = 2 ∧ (0 : Int32).toInt = 0 ∧ (0 : Int32).toInt ≠ 0) := h15
        refine ok_eq (fun c16 => ?_) (fun c16 => ?_)
        · refine ap_loop _ (fun y3_41_105 hI17 => ?_) p0 (by omega) (by omega)
          refine ok_o3 (sp_X9_give c_t_acts f_t_forms p1 y3_41_105 (by first | omega | assumption | trivial | exact wt_of (by assumption) (by omega)) (by first | omega | assumption | trivial | exact wt_of (by assumption) (by omega)) (by first | omega | assumption | trivial | exact wt_of (by assumption) (by omega)) (by first | omega | assumption | trivial | exact wt_of (by assumption) (by omega))) (fun r108 c_t_acts_108 f_t_forms_108 h18 => ?_)
          have h18 : FA f_t_forms_108 := h18
          exact ok_s (show FA f_t_forms_108 from by first | omega | assumption | trivial | (refine ⟨?_, ?_⟩ <;> first | omega | assumption | trivial | rfl) | (refine ⟨?_, ?_, ?_⟩ <;> first | omega | assumption | trivial | rfl) | (refine ⟨?_, ?_, ?_, ?_⟩ <;> first | omega | assumption | trivial | rfl) | (refine ⟨?_, ?_, ?_, ?_, ?_⟩ <;> first | omega | assumption | trivial | rfl) | (refine ⟨?_, ?_, ?_, ?_, ?_, ?_⟩ <;> first | omega | assumption | trivial | rfl) | (refine ⟨?_, ?_, ?_, ?_, ?_, ?_, ?_⟩ <;> first | omega | assumption | trivial | rfl) | (refine ⟨?_, ?_, ?_, ?_, ?_, ?_, ?_, ?_⟩ <;> first | omega | assumption | trivial | rfl))
        · exfalso; omega
      · first | unfold J_X9_allPrimes_23 | skip
        first | unfold J_X9_allPrimes_28 | skip
        refine ok_o2 (sp_X9_isThrown (0 : Int32) (1 : Int32) ) (fun r28_6 c_t_thrown_28_6 h19 => ?_)
        have h19 : (r28_6.toInt = 0 ∧ c_t_thrown_28_6.toInt = 0 ∧ (0 : Int32).toInt = 0 ∧ (1 : Int32).toInt = 0) ∨ (r28_6.toInt = 1 ∧ c_t_thrown_28_6.toInt = 1 ∧ (0 : Int32).toInt ≠ 0) ∨ (r28_6.toInt = 1 ∧ c_t_thrown_28_6.toInt = 2 ∧ (0 : Int32).toInt = 0 ∧ (1 : Int32).toInt ≠ 0) := h19
        refine ok_eq (fun c20 => ?_) (fun c20 => ?_)
        · exfalso; omega
        · exact ok_s (show FA f_t_forms from by first | omega | assumption | trivial | (refine ⟨?_, ?_⟩ <;> first | omega | assumption | trivial | rfl) | (refine ⟨?_, ?_, ?_⟩ <;> first | omega | assumption | trivial | rfl) | (refine ⟨?_, ?_, ?_, ?_⟩ <;> first | omega | assumption | trivial | rfl) | (refine ⟨?_, ?_, ?_, ?_, ?_⟩ <;> first | omega | assumption | trivial | rfl) | (refine ⟨?_, ?_, ?_, ?_, ?_, ?_⟩ <;> first | omega | assumption | trivial | rfl) | (refine ⟨?_, ?_, ?_, ?_, ?_, ?_, ?_⟩ <;> first | omega | assumption | trivial | rfl) | (refine ⟨?_, ?_, ?_, ?_, ?_, ?_, ?_, ?_⟩ <;> first | omega | assumption | trivial | rfl))
set_option maxHeartbeats 1000000 in
theorem sp_X9_checkOf (p0 : Int64) (p1 : Int64) (hp0 : 1 ≤ DG p1) (hp1 : DG p1 ≤ 39) (hp2 : DG p0 + DG p1 ≤ 39) : ok (F_X9_checkOf p0 p1) (fun r => DG r ≤ 39 ∧ -1 ≤ DG r ∧ DG r < DG p1) := by
  unfold F_X9_checkOf
  refine ok_o (sp_X9_degreeOf p1 ) (fun r2 h1 => ?_)
  have h1 : r2.toInt = DG p1 ∧ -1 ≤ r2.toInt ∧ r2.toInt ≤ 63 := h1
  have hs : DG (p0 <<< (r2.toInt64 &&& 63)) ≤ 39 := DG_shlx (by omega) (by omega) (by omega) (by decide) (by decide)
  refine ok_o (sp_X9_restOf (p0 <<< (r2.toInt64 &&& 63)) p1 (by first | omega | assumption | trivial | exact wt_of (by assumption) (by omega)) (by first | omega | assumption | trivial | exact wt_of (by assumption) (by omega)) (by first | omega | assumption | trivial | exact wt_of (by assumption) (by omega))) (fun r7 h2 => ?_)
  have h2 : -1 ≤ DG r7 ∧ DG r7 < DG p1 ∧ DG r7 ≤ DG (p0 <<< (r2.toInt64 &&& 63)) := h2
  exact ok_s (show DG r7 ≤ 39 ∧ -1 ≤ DG r7 ∧ DG r7 < DG p1 from by first | omega | assumption | trivial | (refine ⟨?_, ?_⟩ <;> first | omega | assumption | trivial | rfl) | (refine ⟨?_, ?_, ?_⟩ <;> first | omega | assumption | trivial | rfl) | (refine ⟨?_, ?_, ?_, ?_⟩ <;> first | omega | assumption | trivial | rfl) | (refine ⟨?_, ?_, ?_, ?_, ?_⟩ <;> first | omega | assumption | trivial | rfl) | (refine ⟨?_, ?_, ?_, ?_, ?_, ?_⟩ <;> first | omega | assumption | trivial | rfl) | (refine ⟨?_, ?_, ?_, ?_, ?_, ?_, ?_⟩ <;> first | omega | assumption | trivial | rfl) | (refine ⟨?_, ?_, ?_, ?_, ?_, ?_, ?_, ?_⟩ <;> first | omega | assumption | trivial | rfl))
set_option maxHeartbeats 1000000 in
theorem sp_X9_isNoSeal (p0 : Int64) (p1 : Int64) (p2 : Int32) (hp0 : DG p0 ≤ 39) (hp1 : DG p1 ≤ 39) : ok (F_X9_isNoSeal p0 p1 p2) (fun r => (r.toInt = 0 ∧ 1 ≤ DG p1 ∧ DG p1 ≤ p2.toInt ∧ DG p0 + DG p1 ≤ 39) ∨ r.toInt = 1) := by
  have l032 : (0 : Int32).toInt = 0 := by decide
  have l132 : (1 : Int32).toInt = 1 := by decide
  have l4032 : (40 : Int32).toInt = 40 := by decide
  unfold F_X9_isNoSeal
  refine ok_o (sp_X9_degreeOf p1 ) (fun r1 h1 => ?_)
  have h1 : r1.toInt = DG p1 ∧ -1 ≤ r1.toInt ∧ r1.toInt ≤ 63 := h1
  refine ok_lt (fun c2 => ?_) (fun c2 => ?_)
  · exact ok_s (show ((1 : Int32).toInt = 0 ∧ 1 ≤ DG p1 ∧ DG p1 ≤ p2.toInt ∧ DG p0 + DG p1 ≤ 39) ∨ (1 : Int32).toInt = 1 from by first | omega | assumption | trivial | (refine ⟨?_, ?_⟩ <;> first | omega | assumption | trivial | rfl) | (refine ⟨?_, ?_, ?_⟩ <;> first | omega | assumption | trivial | rfl) | (refine ⟨?_, ?_, ?_, ?_⟩ <;> first | omega | assumption | trivial | rfl) | (refine ⟨?_, ?_, ?_, ?_, ?_⟩ <;> first | omega | assumption | trivial | rfl) | (refine ⟨?_, ?_, ?_, ?_, ?_, ?_⟩ <;> first | omega | assumption | trivial | rfl) | (refine ⟨?_, ?_, ?_, ?_, ?_, ?_, ?_⟩ <;> first | omega | assumption | trivial | rfl) | (refine ⟨?_, ?_, ?_, ?_, ?_, ?_, ?_, ?_⟩ <;> first | omega | assumption | trivial | rfl))
  · refine ok_o (sp_X9_degreeOf p1 ) (fun r9 h3 => ?_)
    have h3 : r9.toInt = DG p1 ∧ -1 ≤ r9.toInt ∧ r9.toInt ≤ 63 := h3
    refine ok_lt (fun c4 => ?_) (fun c4 => ?_)
    · exact ok_s (show ((1 : Int32).toInt = 0 ∧ 1 ≤ DG p1 ∧ DG p1 ≤ p2.toInt ∧ DG p0 + DG p1 ≤ 39) ∨ (1 : Int32).toInt = 1 from by first | omega | assumption | trivial | (refine ⟨?_, ?_⟩ <;> first | omega | assumption | trivial | rfl) | (refine ⟨?_, ?_, ?_⟩ <;> first | omega | assumption | trivial | rfl) | (refine ⟨?_, ?_, ?_, ?_⟩ <;> first | omega | assumption | trivial | rfl) | (refine ⟨?_, ?_, ?_, ?_, ?_⟩ <;> first | omega | assumption | trivial | rfl) | (refine ⟨?_, ?_, ?_, ?_, ?_, ?_⟩ <;> first | omega | assumption | trivial | rfl) | (refine ⟨?_, ?_, ?_, ?_, ?_, ?_, ?_⟩ <;> first | omega | assumption | trivial | rfl) | (refine ⟨?_, ?_, ?_, ?_, ?_, ?_, ?_, ?_⟩ <;> first | omega | assumption | trivial | rfl))
    · refine ok_o (sp_X9_degreeOf p0 ) (fun r18 h5 => ?_)
      have h5 : r18.toInt = DG p0 ∧ -1 ≤ r18.toInt ∧ r18.toInt ≤ 63 := h5
      refine ok_o (sp_X9_degreeOf p1 ) (fun r22 h6 => ?_)
      have h6 : r22.toInt = DG p1 ∧ -1 ≤ r22.toInt ∧ r22.toInt ≤ 63 := h6
      obtain ⟨w7, e_w7⟩ : ∃ w : Int32, w = r18 + r22 := ⟨_, rfl⟩
      try have t_w7 : w7.toInt = r18.toInt + r22.toInt := by rw [e_w7]; exact addT1 (Eq.refl _) (by omega) (by omega)
      try rw [← e_w7]
      refine ok_lt (fun c8 => ?_) (fun c8 => ?_)
      · exact ok_s (show ((0 : Int32).toInt = 0 ∧ 1 ≤ DG p1 ∧ DG p1 ≤ p2.toInt ∧ DG p0 + DG p1 ≤ 39) ∨ (0 : Int32).toInt = 1 from by first | omega | assumption | trivial | (refine ⟨?_, ?_⟩ <;> first | omega | assumption | trivial | rfl) | (refine ⟨?_, ?_, ?_⟩ <;> first | omega | assumption | trivial | rfl) | (refine ⟨?_, ?_, ?_, ?_⟩ <;> first | omega | assumption | trivial | rfl) | (refine ⟨?_, ?_, ?_, ?_, ?_⟩ <;> first | omega | assumption | trivial | rfl) | (refine ⟨?_, ?_, ?_, ?_, ?_, ?_⟩ <;> first | omega | assumption | trivial | rfl) | (refine ⟨?_, ?_, ?_, ?_, ?_, ?_, ?_⟩ <;> first | omega | assumption | trivial | rfl) | (refine ⟨?_, ?_, ?_, ?_, ?_, ?_, ?_, ?_⟩ <;> first | omega | assumption | trivial | rfl))
      · exact ok_s (show ((1 : Int32).toInt = 0 ∧ 1 ≤ DG p1 ∧ DG p1 ≤ p2.toInt ∧ DG p0 + DG p1 ≤ 39) ∨ (1 : Int32).toInt = 1 from by first | omega | assumption | trivial | (refine ⟨?_, ?_⟩ <;> first | omega | assumption | trivial | rfl) | (refine ⟨?_, ?_, ?_⟩ <;> first | omega | assumption | trivial | rfl) | (refine ⟨?_, ?_, ?_, ?_⟩ <;> first | omega | assumption | trivial | rfl) | (refine ⟨?_, ?_, ?_, ?_, ?_⟩ <;> first | omega | assumption | trivial | rfl) | (refine ⟨?_, ?_, ?_, ?_, ?_, ?_⟩ <;> first | omega | assumption | trivial | rfl) | (refine ⟨?_, ?_, ?_, ?_, ?_, ?_, ?_⟩ <;> first | omega | assumption | trivial | rfl) | (refine ⟨?_, ?_, ?_, ?_, ?_, ?_, ?_, ?_⟩ <;> first | omega | assumption | trivial | rfl))
set_option maxHeartbeats 1000000 in
theorem sp_X9_seal (c_t_acts : Int32) (c_t_refused : Int32) (f_t_forms : Nat → Int64) (p0 : Int32) (p1 : Int32) (p2 : Int32) (hp0 : FA f_t_forms) : ok (F_X9_seal c_t_acts c_t_refused f_t_forms p0 p1 p2) (fun r => FA r.2.2.2.2) := by
  have l032 : (0 : Int32).toInt = 0 := by decide
  have l4032 : (40 : Int32).toInt = 40 := by decide
  unfold F_X9_seal
  refine ok_o2 (sp_X9_areNot p0 p1 p2 ) (fun r4 c_t_thrown_4 h1 => ?_)
  have h1 : (r4.toInt = 0 ∧ c_t_thrown_4.toInt = 0 ∧ 0 ≤ p0.toInt ∧ p0.toInt ≤ 5 ∧ 0 ≤ p1.toInt ∧ p1.toInt ≤ 5 ∧ 0 ≤ p2.toInt ∧ p2.toInt ≤ 5) ∨ (r4.toInt = 1 ∧ c_t_thrown_4.toInt = 1) := h1
  refine ok_eq (fun c2 => ?_) (fun c2 => ?_)
  · refine ok_c (ixo (by omega) (by omega)) ?_
    refine ok_c (ixo (by omega) (by omega)) ?_
    try have a3 := FA_at (f := f_t_forms) (by assumption) p0.toNatClampNeg
    try have a4 := FA_at (f := f_t_forms) (by assumption) p1.toNatClampNeg
    refine ok_o (sp_X9_isNoSeal (f_t_forms p0.toNatClampNeg) (f_t_forms p1.toNatClampNeg) (40 : Int32) (by first | omega | assumption | trivial | exact wt_of (by assumption) (by omega)) (by first | omega | assumption | trivial | exact wt_of (by assumption) (by omega))) (fun r26 h5 => ?_)
    have h5 : (r26.toInt = 0 ∧ 1 ≤ DG (f_t_forms p1.toNatClampNeg) ∧ DG (f_t_forms p1.toNatClampNeg) ≤ (40 : Int32).toInt ∧ DG (f_t_forms p0.toNatClampNeg) + DG (f_t_forms p1.toNatClampNeg) ≤ 39) ∨ r26.toInt = 1 := h5
    refine ok_eq (fun c6 => ?_) (fun c6 => ?_)
    · refine ok_c (ixo (by omega) (by omega)) ?_
      refine ok_c (ixo (by omega) (by omega)) ?_
      try have a7 := FA_at (f := f_t_forms) (by assumption) p0.toNatClampNeg
      try have a8 := FA_at (f := f_t_forms) (by assumption) p1.toNatClampNeg
      refine ok_o (sp_X9_checkOf (f_t_forms p0.toNatClampNeg) (f_t_forms p1.toNatClampNeg) (by first | omega | assumption | trivial | exact wt_of (by assumption) (by omega)) (by first | omega | assumption | trivial | exact wt_of (by assumption) (by omega)) (by first | omega | assumption | trivial | exact wt_of (by assumption) (by omega))) (fun r49 h9 => ?_)
      have h9 : DG r49 ≤ 39 ∧ -1 ≤ DG r49 ∧ DG r49 < DG (f_t_forms p1.toNatClampNeg) := h9
      refine ok_c (ixo (by omega) (by omega)) ?_
      refine ok_c (ixo (by omega) (by omega)) ?_
      try have a10 := FA_at (f := f_t_forms) (by assumption) p1.toNatClampNeg
      refine ok_o (sp_X9_degreeOf (f_t_forms p1.toNatClampNeg) ) (fun r71 h11 => ?_)
      have h11 : r71.toInt = DG (f_t_forms p1.toNatClampNeg) ∧ -1 ≤ r71.toInt ∧ r71.toInt ≤ 63 := h11
      refine ok_c (ixo (by omega) (by omega)) ?_
      try have a12 := FA_at (f := f_t_forms) (by assumption) p0.toNatClampNeg
      have hx : DG (((f_t_forms p0.toNatClampNeg) <<< (r71.toInt64 &&& 63)) ^^^ r49) ≤ 39 := DG_xor (DG_shlx (by omega) (by omega) (by omega) (by decide) (by decide)) (by omega)
      refine ok_bx (fun f_t_forms_78 e_f_t_forms_78 => ?_)
      try have t_f_t_forms_78 : FA f_t_forms_78 := by rw [e_f_t_forms_78]; exact FA_upd (by first | assumption | exact FA_0) _ (by first | omega | assumption | trivial)
      refine ok_o (sp_X9_onesOf r49 ) (fun r82 h13 => ?_)
      have h13 : 0 ≤ r82.toInt ∧ r82.toInt ≤ 127 := h13
      refine ok_o2 (sp_X9_done c_t_acts r82 ) (fun r85 c_t_acts_85 h14 => ?_)
      exact ok_s (show FA f_t_forms_78 from by first | omega | assumption | trivial | (refine ⟨?_, ?_⟩ <;> first | omega | assumption | trivial | rfl) | (refine ⟨?_, ?_, ?_⟩ <;> first | omega | assumption | trivial | rfl) | (refine ⟨?_, ?_, ?_, ?_⟩ <;> first | omega | assumption | trivial | rfl) | (refine ⟨?_, ?_, ?_, ?_, ?_⟩ <;> first | omega | assumption | trivial | rfl) | (refine ⟨?_, ?_, ?_, ?_, ?_, ?_⟩ <;> first | omega | assumption | trivial | rfl) | (refine ⟨?_, ?_, ?_, ?_, ?_, ?_, ?_⟩ <;> first | omega | assumption | trivial | rfl) | (refine ⟨?_, ?_, ?_, ?_, ?_, ?_, ?_, ?_⟩ <;> first | omega | assumption | trivial | rfl))
    · refine ok_o2 (sp_X9_no c_t_refused ) (fun r33 c_t_refused_33 h15 => ?_)
      exact ok_s (show FA f_t_forms from by first | omega | assumption | trivial | (refine ⟨?_, ?_⟩ <;> first | omega | assumption | trivial | rfl) | (refine ⟨?_, ?_, ?_⟩ <;> first | omega | assumption | trivial | rfl) | (refine ⟨?_, ?_, ?_, ?_⟩ <;> first | omega | assumption | trivial | rfl) | (refine ⟨?_, ?_, ?_, ?_, ?_⟩ <;> first | omega | assumption | trivial | rfl) | (refine ⟨?_, ?_, ?_, ?_, ?_, ?_⟩ <;> first | omega | assumption | trivial | rfl) | (refine ⟨?_, ?_, ?_, ?_, ?_, ?_, ?_⟩ <;> first | omega | assumption | trivial | rfl) | (refine ⟨?_, ?_, ?_, ?_, ?_, ?_, ?_, ?_⟩ <;> first | omega | assumption | trivial | rfl))
  · exact ok_s (show FA f_t_forms from by first | omega | assumption | trivial | (refine ⟨?_, ?_⟩ <;> first | omega | assumption | trivial | rfl) | (refine ⟨?_, ?_, ?_⟩ <;> first | omega | assumption | trivial | rfl) | (refine ⟨?_, ?_, ?_, ?_⟩ <;> first | omega | assumption | trivial | rfl) | (refine ⟨?_, ?_, ?_, ?_, ?_⟩ <;> first | omega | assumption | trivial | rfl) | (refine ⟨?_, ?_, ?_, ?_, ?_, ?_⟩ <;> first | omega | assumption | trivial | rfl) | (refine ⟨?_, ?_, ?_, ?_, ?_, ?_, ?_⟩ <;> first | omega | assumption | trivial | rfl) | (refine ⟨?_, ?_, ?_, ?_, ?_, ?_, ?_, ?_⟩ <;> first | omega | assumption | trivial | rfl))
set_option maxHeartbeats 1000000 in
theorem sp_X9_burst (c_t_acts : Int32) (c_t_refused : Int32) (c_t_thrown : Int32) (f_t_forms : Nat → Int64) (p0 : Int32) (p1 : Int32) (p2 : Int32) (hp0 : FA f_t_forms) : ok (F_X9_burst c_t_acts c_t_refused c_t_thrown f_t_forms p0 p1 p2) (fun r => FA r.2.2.2.2) := by
  have l032 : (0 : Int32).toInt = 0 := by decide
  have l132 : (1 : Int32).toInt = 1 := by decide
  have l4032 : (40 : Int32).toInt = 40 := by decide
  have l409532 : (4095 : Int32).toInt = 4095 := by decide
  unfold F_X9_burst
  refine ok_o (sp_X9_isForm p0 ) (fun r2 h1 => ?_)
  have h1 : (r2.toInt = 1 ∧ 0 ≤ p0.toInt ∧ p0.toInt ≤ 5) ∨ (r2.toInt = 0 ∧ (p0.toInt < 0 ∨ 6 ≤ p0.toInt)) := h1
  refine ok_eq (fun c2 => ?_) (fun c2 => ?_)
  · first | unfold J_X9_burst_15 | skip
    first | unfold J_X9_burst_20 | skip
    refine ok_lt (fun c3 => ?_) (fun c3 => ?_)
    · first | unfold J_X9_burst_31 | skip
      first | unfold J_X9_burst_36 | skip
      refine ok_o2 (sp_X9_isThrown (1 : Int32) (1 : Int32) ) (fun r36 c_t_thrown_36 h4 => ?_)
      have h4 : (r36.toInt = 0 ∧ c_t_thrown_36.toInt = 0 ∧ (1 : Int32).toInt = 0 ∧ (1 : Int32).toInt = 0) ∨ (r36.toInt = 1 ∧ c_t_thrown_36.toInt = 1 ∧ (1 : Int32).toInt ≠ 0) ∨ (r36.toInt = 1 ∧ c_t_thrown_36.toInt = 2 ∧ (1 : Int32).toInt = 0 ∧ (1 : Int32).toInt ≠ 0) := h4
      refine ok_eq (fun c5 => ?_) (fun c5 => ?_)
      · exfalso; omega
      · exact ok_s (show FA f_t_forms from by first | omega | assumption | trivial | (refine ⟨?_, ?_⟩ <;> first | omega | assumption | trivial | rfl) | (refine ⟨?_, ?_, ?_⟩ <;> first | omega | assumption | trivial | rfl) | (refine ⟨?_, ?_, ?_, ?_⟩ <;> first | omega | assumption | trivial | rfl) | (refine ⟨?_, ?_, ?_, ?_, ?_⟩ <;> first | omega | assumption | trivial | rfl) | (refine ⟨?_, ?_, ?_, ?_, ?_, ?_⟩ <;> first | omega | assumption | trivial | rfl) | (refine ⟨?_, ?_, ?_, ?_, ?_, ?_, ?_⟩ <;> first | omega | assumption | trivial | rfl) | (refine ⟨?_, ?_, ?_, ?_, ?_, ?_, ?_, ?_⟩ <;> first | omega | assumption | trivial | rfl))
    · refine ok_le (fun c6 => ?_) (fun c6 => ?_)
      · first | unfold J_X9_burst_36 | skip
        refine ok_o2 (sp_X9_isThrown (1 : Int32) (0 : Int32) ) (fun r36_2 c_t_thrown_36_2 h7 => ?_)
        have h7 : (r36_2.toInt = 0 ∧ c_t_thrown_36_2.toInt = 0 ∧ (1 : Int32).toInt = 0 ∧ (0 : Int32).toInt = 0) ∨ (r36_2.toInt = 1 ∧ c_t_thrown_36_2.toInt = 1 ∧ (1 : Int32).toInt ≠ 0) ∨ (r36_2.toInt = 1 ∧ c_t_thrown_36_2.toInt = 2 ∧ (1 : Int32).toInt = 0 ∧ (0 : Int32).toInt ≠ 0) := h7
        refine ok_eq (fun c8 => ?_) (fun c8 => ?_)
        · exfalso; omega
        · exact ok_s (show FA f_t_forms from by first | omega | assumption | trivial | (refine ⟨?_, ?_⟩ <;> first | omega | assumption | trivial | rfl) | (refine ⟨?_, ?_, ?_⟩ <;> first | omega | assumption | trivial | rfl) | (refine ⟨?_, ?_, ?_, ?_⟩ <;> first | omega | assumption | trivial | rfl) | (refine ⟨?_, ?_, ?_, ?_, ?_⟩ <;> first | omega | assumption | trivial | rfl) | (refine ⟨?_, ?_, ?_, ?_, ?_, ?_⟩ <;> first | omega | assumption | trivial | rfl) | (refine ⟨?_, ?_, ?_, ?_, ?_, ?_, ?_⟩ <;> first | omega | assumption | trivial | rfl) | (refine ⟨?_, ?_, ?_, ?_, ?_, ?_, ?_, ?_⟩ <;> first | omega | assumption | trivial | rfl))
      · first | unfold J_X9_burst_31 | skip
        first | unfold J_X9_burst_36 | skip
        refine ok_o2 (sp_X9_isThrown (1 : Int32) (1 : Int32) ) (fun r36_3 c_t_thrown_36_3 h9 => ?_)
        have h9 : (r36_3.toInt = 0 ∧ c_t_thrown_36_3.toInt = 0 ∧ (1 : Int32).toInt = 0 ∧ (1 : Int32).toInt = 0) ∨ (r36_3.toInt = 1 ∧ c_t_thrown_36_3.toInt = 1 ∧ (1 : Int32).toInt ≠ 0) ∨ (r36_3.toInt = 1 ∧ c_t_thrown_36_3.toInt = 2 ∧ (1 : Int32).toInt = 0 ∧ (1 : Int32).toInt ≠ 0) := h9
        refine ok_eq (fun c10 => ?_) (fun c10 => ?_)
        · exfalso; omega
        · exact ok_s (show FA f_t_forms from by first | omega | assumption | trivial | (refine ⟨?_, ?_⟩ <;> first | omega | assumption | trivial | rfl) | (refine ⟨?_, ?_, ?_⟩ <;> first | omega | assumption | trivial | rfl) | (refine ⟨?_, ?_, ?_, ?_⟩ <;> first | omega | assumption | trivial | rfl) | (refine ⟨?_, ?_, ?_, ?_, ?_⟩ <;> first | omega | assumption | trivial | rfl) | (refine ⟨?_, ?_, ?_, ?_, ?_, ?_⟩ <;> first | omega | assumption | trivial | rfl) | (refine ⟨?_, ?_, ?_, ?_, ?_, ?_, ?_⟩ <;> first | omega | assumption | trivial | rfl) | (refine ⟨?_, ?_, ?_, ?_, ?_, ?_, ?_, ?_⟩ <;> first | omega | assumption | trivial | rfl))
  · refine ok_o (sp_X9_isPlace p1 ) (fun r9 h11 => ?_)
    have h11 : (r9.toInt = 1 ∧ 0 ≤ p1.toInt ∧ p1.toInt ≤ 39) ∨ (r9.toInt = 0 ∧ (p1.toInt < 0 ∨ 40 ≤ p1.toInt)) := h11
    refine ok_eq (fun c12 => ?_) (fun c12 => ?_)
    · first | unfold J_X9_burst_15 | skip
      first | unfold J_X9_burst_20 | skip
      refine ok_lt (fun c13 => ?_) (fun c13 => ?_)
      · first | unfold J_X9_burst_31 | skip
        first | unfold J_X9_burst_36 | skip
        refine ok_o2 (sp_X9_isThrown (1 : Int32) (1 : Int32) ) (fun r36_4 c_t_thrown_36_4 h14 => ?_)
        have h14 : (r36_4.toInt = 0 ∧ c_t_thrown_36_4.toInt = 0 ∧ (1 : Int32).toInt = 0 ∧ (1 : Int32).toInt = 0) ∨ (r36_4.toInt = 1 ∧ c_t_thrown_36_4.toInt = 1 ∧ (1 : Int32).toInt ≠ 0) ∨ (r36_4.toInt = 1 ∧ c_t_thrown_36_4.toInt = 2 ∧ (1 : Int32).toInt = 0 ∧ (1 : Int32).toInt ≠ 0) := h14
        refine ok_eq (fun c15 => ?_) (fun c15 => ?_)
        · exfalso; omega
        · exact ok_s (show FA f_t_forms from by first | omega | assumption | trivial | (refine ⟨?_, ?_⟩ <;> first | omega | assumption | trivial | rfl) | (refine ⟨?_, ?_, ?_⟩ <;> first | omega | assumption | trivial | rfl) | (refine ⟨?_, ?_, ?_, ?_⟩ <;> first | omega | assumption | trivial | rfl) | (refine ⟨?_, ?_, ?_, ?_, ?_⟩ <;> first | omega | assumption | trivial | rfl) | (refine ⟨?_, ?_, ?_, ?_, ?_, ?_⟩ <;> first | omega | assumption | trivial | rfl) | (refine ⟨?_, ?_, ?_, ?_, ?_, ?_, ?_⟩ <;> first | omega | assumption | trivial | rfl) | (refine ⟨?_, ?_, ?_, ?_, ?_, ?_, ?_, ?_⟩ <;> first | omega | assumption | trivial | rfl))
      · refine ok_le (fun c16 => ?_) (fun c16 => ?_)
        · first | unfold J_X9_burst_36 | skip
          refine ok_o2 (sp_X9_isThrown (1 : Int32) (0 : Int32) ) (fun r36_5 c_t_thrown_36_5 h17 => ?_)
          have h17 : (r36_5.toInt = 0 ∧ c_t_thrown_36_5.toInt = 0 ∧ (1 : Int32).toInt = 0 ∧ (0 : Int32).toInt = 0) ∨ (r36_5.toInt = 1 ∧ c_t_thrown_36_5.toInt = 1 ∧ (1 : Int32).toInt ≠ 0) ∨ (r36_5.toInt = 1 ∧ c_t_thrown_36_5.toInt = 2 ∧ (1 : Int32).toInt = 0 ∧ (0 : Int32).toInt ≠ 0) := h17
          refine ok_eq (fun c18 => ?_) (fun c18 => ?_)
          · exfalso; omega
          · exact ok_s (show FA f_t_forms from by first | omega | assumption | trivial | (refine ⟨?_, ?_⟩ <;> first | omega | assumption | trivial | rfl) | (refine ⟨?_, ?_, ?_⟩ <;> first | omega | assumption | trivial | rfl) | (refine ⟨?_, ?_, ?_, ?_⟩ <;> first | omega | assumption | trivial | rfl) | (refine ⟨?_, ?_, ?_, ?_, ?_⟩ <;> first | omega | assumption | trivial | rfl) | (refine ⟨?_, ?_, ?_, ?_, ?_, ?_⟩ <;> first | omega | assumption | trivial | rfl) | (refine ⟨?_, ?_, ?_, ?_, ?_, ?_, ?_⟩ <;> first | omega | assumption | trivial | rfl) | (refine ⟨?_, ?_, ?_, ?_, ?_, ?_, ?_, ?_⟩ <;> first | omega | assumption | trivial | rfl))
        · first | unfold J_X9_burst_31 | skip
          first | unfold J_X9_burst_36 | skip
          refine ok_o2 (sp_X9_isThrown (1 : Int32) (1 : Int32) ) (fun r36_6 c_t_thrown_36_6 h19 => ?_)
          have h19 : (r36_6.toInt = 0 ∧ c_t_thrown_36_6.toInt = 0 ∧ (1 : Int32).toInt = 0 ∧ (1 : Int32).toInt = 0) ∨ (r36_6.toInt = 1 ∧ c_t_thrown_36_6.toInt = 1 ∧ (1 : Int32).toInt ≠ 0) ∨ (r36_6.toInt = 1 ∧ c_t_thrown_36_6.toInt = 2 ∧ (1 : Int32).toInt = 0 ∧ (1 : Int32).toInt ≠ 0) := h19
          refine ok_eq (fun c20 => ?_) (fun c20 => ?_)
          · exfalso; omega
          · exact ok_s (show FA f_t_forms from by first | omega | assumption | trivial | (refine ⟨?_, ?_⟩ <;> first | omega | assumption | trivial | rfl) | (refine ⟨?_, ?_, ?_⟩ <;> first | omega | assumption | trivial | rfl) | (refine ⟨?_, ?_, ?_, ?_⟩ <;> first | omega | assumption | trivial | rfl) | (refine ⟨?_, ?_, ?_, ?_, ?_⟩ <;> first | omega | assumption | trivial | rfl) | (refine ⟨?_, ?_, ?_, ?_, ?_, ?_⟩ <;> first | omega | assumption | trivial | rfl) | (refine ⟨?_, ?_, ?_, ?_, ?_, ?_, ?_⟩ <;> first | omega | assumption | trivial | rfl) | (refine ⟨?_, ?_, ?_, ?_, ?_, ?_, ?_, ?_⟩ <;> first | omega | assumption | trivial | rfl))
    · first | unfold J_X9_burst_20 | skip
      refine ok_lt (fun c21 => ?_) (fun c21 => ?_)
      · first | unfold J_X9_burst_31 | skip
        first | unfold J_X9_burst_36 | skip
        refine ok_o2 (sp_X9_isThrown (0 : Int32) (1 : Int32) ) (fun r36_7 c_t_thrown_36_7 h22 => ?_)
        have h22 : (r36_7.toInt = 0 ∧ c_t_thrown_36_7.toInt = 0 ∧ (0 : Int32).toInt = 0 ∧ (1 : Int32).toInt = 0) ∨ (r36_7.toInt = 1 ∧ c_t_thrown_36_7.toInt = 1 ∧ (0 : Int32).toInt ≠ 0) ∨ (r36_7.toInt = 1 ∧ c_t_thrown_36_7.toInt = 2 ∧ (0 : Int32).toInt = 0 ∧ (1 : Int32).toInt ≠ 0) := h22
        refine ok_eq (fun c23 => ?_) (fun c23 => ?_)
        · exfalso; omega
        · exact ok_s (show FA f_t_forms from by first | omega | assumption | trivial | (refine ⟨?_, ?_⟩ <;> first | omega | assumption | trivial | rfl) | (refine ⟨?_, ?_, ?_⟩ <;> first | omega | assumption | trivial | rfl) | (refine ⟨?_, ?_, ?_, ?_⟩ <;> first | omega | assumption | trivial | rfl) | (refine ⟨?_, ?_, ?_, ?_, ?_⟩ <;> first | omega | assumption | trivial | rfl) | (refine ⟨?_, ?_, ?_, ?_, ?_, ?_⟩ <;> first | omega | assumption | trivial | rfl) | (refine ⟨?_, ?_, ?_, ?_, ?_, ?_, ?_⟩ <;> first | omega | assumption | trivial | rfl) | (refine ⟨?_, ?_, ?_, ?_, ?_, ?_, ?_, ?_⟩ <;> first | omega | assumption | trivial | rfl))
      · refine ok_le (fun c24 => ?_) (fun c24 => ?_)
        · first | unfold J_X9_burst_36 | skip
          refine ok_o2 (sp_X9_isThrown (0 : Int32) (0 : Int32) ) (fun r36_8 c_t_thrown_36_8 h25 => ?_)
          have h25 : (r36_8.toInt = 0 ∧ c_t_thrown_36_8.toInt = 0 ∧ (0 : Int32).toInt = 0 ∧ (0 : Int32).toInt = 0) ∨ (r36_8.toInt = 1 ∧ c_t_thrown_36_8.toInt = 1 ∧ (0 : Int32).toInt ≠ 0) ∨ (r36_8.toInt = 1 ∧ c_t_thrown_36_8.toInt = 2 ∧ (0 : Int32).toInt = 0 ∧ (0 : Int32).toInt ≠ 0) := h25
          refine ok_eq (fun c26 => ?_) (fun c26 => ?_)
          · refine ok_le (fun c27 => ?_) (fun c27 => ?_)
            · first | unfold J_X9_burst_65 | skip
              refine ok_c (ixo (by omega) (by omega)) ?_
              refine ok_c (ixo (by omega) (by omega)) ?_
              try have a28 := FA_at (f := f_t_forms) (by assumption) p0.toNatClampNeg
              have hz : DG p2.toInt64 + p1.toInt ≤ 39 := by first | omega | (rw [DG_i0 (by omega)]; omega)
              have hx : DG ((f_t_forms p0.toNatClampNeg) ^^^ (p2.toInt64 <<< (p1.toInt64 &&& 63))) ≤ 39 := DG_xor (by omega) (DG_shlx (by omega) (by omega) hz (by decide) (by decide))
              refine ok_bx (fun f_t_forms_77 e_f_t_forms_77 => ?_)
              try have t_f_t_forms_77 : FA f_t_forms_77 := by rw [e_f_t_forms_77]; exact FA_upd (by first | assumption | exact FA_0) _ (by first | omega | assumption | trivial)
              refine ok_c (ixo (by omega) (by omega)) ?_
              try have a29 := FA_at (f := f_t_forms_77) (by assumption) p0.toNatClampNeg
              refine ok_o (sp_X9_onesOf (f_t_forms_77 p0.toNatClampNeg) ) (fun r85 h30 => ?_)
              have h30 : 0 ≤ r85.toInt ∧ r85.toInt ≤ 127 := h30
              refine ok_o2 (sp_X9_done c_t_acts r85 ) (fun r88 c_t_acts_88 h31 => ?_)
              exact ok_s (show FA f_t_forms_77 from by first | omega | assumption | trivial | (refine ⟨?_, ?_⟩ <;> first | omega | assumption | trivial | rfl) | (refine ⟨?_, ?_, ?_⟩ <;> first | omega | assumption | trivial | rfl) | (refine ⟨?_, ?_, ?_, ?_⟩ <;> first | omega | assumption | trivial | rfl) | (refine ⟨?_, ?_, ?_, ?_, ?_⟩ <;> first | omega | assumption | trivial | rfl) | (refine ⟨?_, ?_, ?_, ?_, ?_, ?_⟩ <;> first | omega | assumption | trivial | rfl) | (refine ⟨?_, ?_, ?_, ?_, ?_, ?_, ?_⟩ <;> first | omega | assumption | trivial | rfl) | (refine ⟨?_, ?_, ?_, ?_, ?_, ?_, ?_, ?_⟩ <;> first | omega | assumption | trivial | rfl))
            · refine ok_o (sp_X9_degreeOf p2.toInt64 ) (fun r50 h32 => ?_)
              have h32 : r50.toInt = DG p2.toInt64 ∧ -1 ≤ r50.toInt ∧ r50.toInt ≤ 63 := h32
              obtain ⟨w33, e_w33⟩ : ∃ w : Int32, w = r50 + p1 := ⟨_, rfl⟩
              try have t_w33 : w33.toInt = r50.toInt + p1.toInt := by rw [e_w33]; exact addT1 (Eq.refl _) (by omega) (by omega)
              try rw [← e_w33]
              refine ok_lt (fun c34 => ?_) (fun c34 => ?_)
              · first | unfold J_X9_burst_65 | skip
                try rw [← e_w33]
                refine ok_c (ixo (by omega) (by omega)) ?_
                refine ok_c (ixo (by omega) (by omega)) ?_
                try have a35 := FA_at (f := f_t_forms) (by assumption) p0.toNatClampNeg
                have hz : DG p2.toInt64 + p1.toInt ≤ 39 := by first | omega | (rw [DG_i0 (by omega)]; omega)
                have hx : DG ((f_t_forms p0.toNatClampNeg) ^^^ (p2.toInt64 <<< (p1.toInt64 &&& 63))) ≤ 39 := DG_xor (by omega) (DG_shlx (by omega) (by omega) hz (by decide) (by decide))
                refine ok_bx (fun f_t_forms_77_2 e_f_t_forms_77_2 => ?_)
                try have t_f_t_forms_77_2 : FA f_t_forms_77_2 := by rw [e_f_t_forms_77_2]; exact FA_upd (by first | assumption | exact FA_0) _ (by first | omega | assumption | trivial)
                refine ok_c (ixo (by omega) (by omega)) ?_
                try have a36 := FA_at (f := f_t_forms_77_2) (by assumption) p0.toNatClampNeg
                refine ok_o (sp_X9_onesOf (f_t_forms_77_2 p0.toNatClampNeg) ) (fun r85_2 h37 => ?_)
                have h37 : 0 ≤ r85_2.toInt ∧ r85_2.toInt ≤ 127 := h37
                refine ok_o2 (sp_X9_done c_t_acts r85_2 ) (fun r88_2 c_t_acts_88_2 h38 => ?_)
                exact ok_s (show FA f_t_forms_77_2 from by first | omega | assumption | trivial | (refine ⟨?_, ?_⟩ <;> first | omega | assumption | trivial | rfl) | (refine ⟨?_, ?_, ?_⟩ <;> first | omega | assumption | trivial | rfl) | (refine ⟨?_, ?_, ?_, ?_⟩ <;> first | omega | assumption | trivial | rfl) | (refine ⟨?_, ?_, ?_, ?_, ?_⟩ <;> first | omega | assumption | trivial | rfl) | (refine ⟨?_, ?_, ?_, ?_, ?_, ?_⟩ <;> first | omega | assumption | trivial | rfl) | (refine ⟨?_, ?_, ?_, ?_, ?_, ?_, ?_⟩ <;> first | omega | assumption | trivial | rfl) | (refine ⟨?_, ?_, ?_, ?_, ?_, ?_, ?_, ?_⟩ <;> first | omega | assumption | trivial | rfl))
              · refine ok_o2 (sp_X9_no c_t_refused ) (fun r61 c_t_refused_61 h39 => ?_)
                exact ok_s (show FA f_t_forms from by first | omega | assumption | trivial | (refine ⟨?_, ?_⟩ <;> first | omega | assumption | trivial | rfl) | (refine ⟨?_, ?_, ?_⟩ <;> first | omega | assumption | trivial | rfl) | (refine ⟨?_, ?_, ?_, ?_⟩ <;> first | omega | assumption | trivial | rfl) | (refine ⟨?_, ?_, ?_, ?_, ?_⟩ <;> first | omega | assumption | trivial | rfl) | (refine ⟨?_, ?_, ?_, ?_, ?_, ?_⟩ <;> first | omega | assumption | trivial | rfl) | (refine ⟨?_, ?_, ?_, ?_, ?_, ?_, ?_⟩ <;> first | omega | assumption | trivial | rfl) | (refine ⟨?_, ?_, ?_, ?_, ?_, ?_, ?_, ?_⟩ <;> first | omega | assumption | trivial | rfl))
          · exfalso; omega
        · first | unfold J_X9_burst_31 | skip
          first | unfold J_X9_burst_36 | skip
          refine ok_o2 (sp_X9_isThrown (0 : Int32) (1 : Int32) ) (fun r36_9 c_t_thrown_36_9 h40 => ?_)
          have h40 : (r36_9.toInt = 0 ∧ c_t_thrown_36_9.toInt = 0 ∧ (0 : Int32).toInt = 0 ∧ (1 : Int32).toInt = 0) ∨ (r36_9.toInt = 1 ∧ c_t_thrown_36_9.toInt = 1 ∧ (0 : Int32).toInt ≠ 0) ∨ (r36_9.toInt = 1 ∧ c_t_thrown_36_9.toInt = 2 ∧ (0 : Int32).toInt = 0 ∧ (1 : Int32).toInt ≠ 0) := h40
          refine ok_eq (fun c41 => ?_) (fun c41 => ?_)
          · exfalso; omega
          · exact ok_s (show FA f_t_forms from by first | omega | assumption | trivial | (refine ⟨?_, ?_⟩ <;> first | omega | assumption | trivial | rfl) | (refine ⟨?_, ?_, ?_⟩ <;> first | omega | assumption | trivial | rfl) | (refine ⟨?_, ?_, ?_, ?_⟩ <;> first | omega | assumption | trivial | rfl) | (refine ⟨?_, ?_, ?_, ?_, ?_⟩ <;> first | omega | assumption | trivial | rfl) | (refine ⟨?_, ?_, ?_, ?_, ?_, ?_⟩ <;> first | omega | assumption | trivial | rfl) | (refine ⟨?_, ?_, ?_, ?_, ?_, ?_, ?_⟩ <;> first | omega | assumption | trivial | rfl) | (refine ⟨?_, ?_, ?_, ?_, ?_, ?_, ?_, ?_⟩ <;> first | omega | assumption | trivial | rfl))
set_option maxHeartbeats 1000000 in
theorem sp_X9_factor (c_t_many : Int32) (c_t_acts : Int32) (c_t_refused : Int32) (c_t_thrown : Int32) (f_t_forms : Nat → Int64) (f_t_roll : Nat → Int64) (p0 : Int32) (p1 : Int32) (hp0 : 0 ≤ c_t_many.toInt) (hp1 : c_t_many.toInt ≤ 12) (hp2 : FA f_t_forms) (hp3 : FA f_t_roll) : ok (F_X9_factor c_t_many c_t_acts c_t_refused c_t_thrown f_t_forms f_t_roll p0 p1) (fun r => 0 ≤ r.2.1.toInt ∧ r.2.1.toInt ≤ 12 ∧ FA r.2.2.2.2.2) := by
  have l032 : (0 : Int32).toInt = 0 := by decide
  have l132 : (1 : Int32).toInt = 1 := by decide
  have l1032 : (10 : Int32).toInt = 10 := by decide
  unfold F_X9_factor
  refine ok_o (sp_X9_isForm p0 ) (fun r2 h1 => ?_)
  have h1 : (r2.toInt = 1 ∧ 0 ≤ p0.toInt ∧ p0.toInt ≤ 5) ∨ (r2.toInt = 0 ∧ (p0.toInt < 0 ∨ 6 ≤ p0.toInt)) := h1
  refine ok_eq (fun c2 => ?_) (fun c2 => ?_)
  · first | unfold J_X9_factor_13 | skip
    refine ok_lt (fun c3 => ?_) (fun c3 => ?_)
    · first | unfold J_X9_factor_22 | skip
      first | unfold J_X9_factor_27 | skip
      refine ok_o2 (sp_X9_isThrown (1 : Int32) (1 : Int32) ) (fun r27 c_t_thrown_27 h4 => ?_)
      have h4 : (r27.toInt = 0 ∧ c_t_thrown_27.toInt = 0 ∧ (1 : Int32).toInt = 0 ∧ (1 : Int32).toInt = 0) ∨ (r27.toInt = 1 ∧ c_t_thrown_27.toInt = 1 ∧ (1 : Int32).toInt ≠ 0) ∨ (r27.toInt = 1 ∧ c_t_thrown_27.toInt = 2 ∧ (1 : Int32).toInt = 0 ∧ (1 : Int32).toInt ≠ 0) := h4
      refine ok_eq (fun c5 => ?_) (fun c5 => ?_)
      · exfalso; omega
      · exact ok_s (show 0 ≤ c_t_many.toInt ∧ c_t_many.toInt ≤ 12 ∧ FA f_t_roll from by first | omega | assumption | trivial | (refine ⟨?_, ?_⟩ <;> first | omega | assumption | trivial | rfl) | (refine ⟨?_, ?_, ?_⟩ <;> first | omega | assumption | trivial | rfl) | (refine ⟨?_, ?_, ?_, ?_⟩ <;> first | omega | assumption | trivial | rfl) | (refine ⟨?_, ?_, ?_, ?_, ?_⟩ <;> first | omega | assumption | trivial | rfl) | (refine ⟨?_, ?_, ?_, ?_, ?_, ?_⟩ <;> first | omega | assumption | trivial | rfl) | (refine ⟨?_, ?_, ?_, ?_, ?_, ?_, ?_⟩ <;> first | omega | assumption | trivial | rfl) | (refine ⟨?_, ?_, ?_, ?_, ?_, ?_, ?_, ?_⟩ <;> first | omega | assumption | trivial | rfl))
    · refine ok_le (fun c6 => ?_) (fun c6 => ?_)
      · first | unfold J_X9_factor_27 | skip
        refine ok_o2 (sp_X9_isThrown (1 : Int32) (0 : Int32) ) (fun r27_2 c_t_thrown_27_2 h7 => ?_)
        have h7 : (r27_2.toInt = 0 ∧ c_t_thrown_27_2.toInt = 0 ∧ (1 : Int32).toInt = 0 ∧ (0 : Int32).toInt = 0) ∨ (r27_2.toInt = 1 ∧ c_t_thrown_27_2.toInt = 1 ∧ (1 : Int32).toInt ≠ 0) ∨ (r27_2.toInt = 1 ∧ c_t_thrown_27_2.toInt = 2 ∧ (1 : Int32).toInt = 0 ∧ (0 : Int32).toInt ≠ 0) := h7
        refine ok_eq (fun c8 => ?_) (fun c8 => ?_)
        · exfalso; omega
        · exact ok_s (show 0 ≤ c_t_many.toInt ∧ c_t_many.toInt ≤ 12 ∧ FA f_t_roll from by first | omega | assumption | trivial | (refine ⟨?_, ?_⟩ <;> first | omega | assumption | trivial | rfl) | (refine ⟨?_, ?_, ?_⟩ <;> first | omega | assumption | trivial | rfl) | (refine ⟨?_, ?_, ?_, ?_⟩ <;> first | omega | assumption | trivial | rfl) | (refine ⟨?_, ?_, ?_, ?_, ?_⟩ <;> first | omega | assumption | trivial | rfl) | (refine ⟨?_, ?_, ?_, ?_, ?_, ?_⟩ <;> first | omega | assumption | trivial | rfl) | (refine ⟨?_, ?_, ?_, ?_, ?_, ?_, ?_⟩ <;> first | omega | assumption | trivial | rfl) | (refine ⟨?_, ?_, ?_, ?_, ?_, ?_, ?_, ?_⟩ <;> first | omega | assumption | trivial | rfl))
      · first | unfold J_X9_factor_22 | skip
        first | unfold J_X9_factor_27 | skip
        refine ok_o2 (sp_X9_isThrown (1 : Int32) (1 : Int32) ) (fun r27_3 c_t_thrown_27_3 h9 => ?_)
        have h9 : (r27_3.toInt = 0 ∧ c_t_thrown_27_3.toInt = 0 ∧ (1 : Int32).toInt = 0 ∧ (1 : Int32).toInt = 0) ∨ (r27_3.toInt = 1 ∧ c_t_thrown_27_3.toInt = 1 ∧ (1 : Int32).toInt ≠ 0) ∨ (r27_3.toInt = 1 ∧ c_t_thrown_27_3.toInt = 2 ∧ (1 : Int32).toInt = 0 ∧ (1 : Int32).toInt ≠ 0) := h9
        refine ok_eq (fun c10 => ?_) (fun c10 => ?_)
        · exfalso; omega
        · exact ok_s (show 0 ≤ c_t_many.toInt ∧ c_t_many.toInt ≤ 12 ∧ FA f_t_roll from by first | omega | assumption | trivial | (refine ⟨?_, ?_⟩ <;> first | omega | assumption | trivial | rfl) | (refine ⟨?_, ?_, ?_⟩ <;> first | omega | assumption | trivial | rfl) | (refine ⟨?_, ?_, ?_, ?_⟩ <;> first | omega | assumption | trivial | rfl) | (refine ⟨?_, ?_, ?_, ?_, ?_⟩ <;> first | omega | assumption | trivial | rfl) | (refine ⟨?_, ?_, ?_, ?_, ?_, ?_⟩ <;> first | omega | assumption | trivial | rfl) | (refine ⟨?_, ?_, ?_, ?_, ?_, ?_, ?_⟩ <;> first | omega | assumption | trivial | rfl) | (refine ⟨?_, ?_, ?_, ?_, ?_, ?_, ?_, ?_⟩ <;> first | omega | assumption | trivial | rfl))
  · first | unfold J_X9_factor_13 | skip
    refine ok_lt (fun c11 => ?_) (fun c11 => ?_)
    · first | unfold J_X9_factor_22 | skip
      first | unfold J_X9_factor_27 | skip
      refine ok_o2 (sp_X9_isThrown (0 : Int32) (1 : Int32) ) (fun r27_4 c_t_thrown_27_4 h12 => ?_)
      have h12 : (r27_4.toInt = 0 ∧ c_t_thrown_27_4.toInt = 0 ∧ (0 : Int32).toInt = 0 ∧ (1 : Int32).toInt = 0) ∨ (r27_4.toInt = 1 ∧ c_t_thrown_27_4.toInt = 1 ∧ (0 : Int32).toInt ≠ 0) ∨ (r27_4.toInt = 1 ∧ c_t_thrown_27_4.toInt = 2 ∧ (0 : Int32).toInt = 0 ∧ (1 : Int32).toInt ≠ 0) := h12
      refine ok_eq (fun c13 => ?_) (fun c13 => ?_)
      · exfalso; omega
      · exact ok_s (show 0 ≤ c_t_many.toInt ∧ c_t_many.toInt ≤ 12 ∧ FA f_t_roll from by first | omega | assumption | trivial | (refine ⟨?_, ?_⟩ <;> first | omega | assumption | trivial | rfl) | (refine ⟨?_, ?_, ?_⟩ <;> first | omega | assumption | trivial | rfl) | (refine ⟨?_, ?_, ?_, ?_⟩ <;> first | omega | assumption | trivial | rfl) | (refine ⟨?_, ?_, ?_, ?_, ?_⟩ <;> first | omega | assumption | trivial | rfl) | (refine ⟨?_, ?_, ?_, ?_, ?_, ?_⟩ <;> first | omega | assumption | trivial | rfl) | (refine ⟨?_, ?_, ?_, ?_, ?_, ?_, ?_⟩ <;> first | omega | assumption | trivial | rfl) | (refine ⟨?_, ?_, ?_, ?_, ?_, ?_, ?_, ?_⟩ <;> first | omega | assumption | trivial | rfl))
    · refine ok_le (fun c14 => ?_) (fun c14 => ?_)
      · first | unfold J_X9_factor_27 | skip
        refine ok_o2 (sp_X9_isThrown (0 : Int32) (0 : Int32) ) (fun r27_5 c_t_thrown_27_5 h15 => ?_)
        have h15 : (r27_5.toInt = 0 ∧ c_t_thrown_27_5.toInt = 0 ∧ (0 : Int32).toInt = 0 ∧ (0 : Int32).toInt = 0) ∨ (r27_5.toInt = 1 ∧ c_t_thrown_27_5.toInt = 1 ∧ (0 : Int32).toInt ≠ 0) ∨ (r27_5.toInt = 1 ∧ c_t_thrown_27_5.toInt = 2 ∧ (0 : Int32).toInt = 0 ∧ (0 : Int32).toInt ≠ 0) := h15
        refine ok_eq (fun c16 => ?_) (fun c16 => ?_)
        · refine ok_c (ixo (by omega) (by omega)) ?_
          try have a17 := FA_at (f := f_t_forms) (by assumption) p0.toNatClampNeg
          refine ok_o (sp_X9_degreeOf (f_t_forms p0.toNatClampNeg) ) (fun r41 h18 => ?_)
          have h18 : r41.toInt = DG (f_t_forms p0.toNatClampNeg) ∧ -1 ≤ r41.toInt ∧ r41.toInt ≤ 63 := h18
          refine ok_lt (fun c19 => ?_) (fun c19 => ?_)
          · refine ok_o2 (sp_X9_no c_t_refused ) (fun r63 c_t_refused_63 h20 => ?_)
            exact ok_s (show 0 ≤ c_t_many.toInt ∧ c_t_many.toInt ≤ 12 ∧ FA f_t_roll from by first | omega | assumption | trivial | (refine ⟨?_, ?_⟩ <;> first | omega | assumption | trivial | rfl) | (refine ⟨?_, ?_, ?_⟩ <;> first | omega | assumption | trivial | rfl) | (refine ⟨?_, ?_, ?_, ?_⟩ <;> first | omega | assumption | trivial | rfl) | (refine ⟨?_, ?_, ?_, ?_, ?_⟩ <;> first | omega | assumption | trivial | rfl) | (refine ⟨?_, ?_, ?_, ?_, ?_, ?_⟩ <;> first | omega | assumption | trivial | rfl) | (refine ⟨?_, ?_, ?_, ?_, ?_, ?_, ?_⟩ <;> first | omega | assumption | trivial | rfl) | (refine ⟨?_, ?_, ?_, ?_, ?_, ?_, ?_, ?_⟩ <;> first | omega | assumption | trivial | rfl))
          · refine ok_c (ixo (by omega) (by omega)) ?_
            try have a21 := FA_at (f := f_t_forms) (by assumption) p0.toNatClampNeg
            refine ok_o (sp_X9_degreeOf (f_t_forms p0.toNatClampNeg) ) (fun r54 h22 => ?_)
            have h22 : r54.toInt = DG (f_t_forms p0.toNatClampNeg) ∧ -1 ≤ r54.toInt ∧ r54.toInt ≤ 63 := h22
            refine ok_le (fun c23 => ?_) (fun c23 => ?_)
            · refine ok_c (ixo (by omega) (by omega)) ?_
              try have a24 := FA_at (f := f_t_forms) (by assumption) p0.toNatClampNeg
              refine ok_bx (fun x3_78 e_x3_78 => ?_)
              try have q_x3_78 : DG x3_78 = DG (f_t_forms p0.toNatClampNeg) := by rw [e_x3_78]
              try have d_x3_78 : -1 ≤ DG x3_78 ∧ DG x3_78 ≤ 39 := by rw [e_x3_78]; exact FA_at (by assumption) _
              refine ok_L3 (fun y3_79 c_t_many_79 f_t_roll_79 => 0 ≤ DG y3_79 ∧ 0 ≤ c_t_many_79.toInt ∧ c_t_many_79.toInt + DG y3_79 ≤ 10 ∧ FA f_t_roll_79) (fun y3_79 c_t_many_79 f_t_roll_79 => (DG y3_79).toNat) (fun ih79 y3_79 c_t_many_79 f_t_roll_79 hI25 hih25 => ?_) 20000 x3_78 (0 : Int32) f_t_roll (show 0 ≤ DG x3_78 ∧ 0 ≤ (0 : Int32).toInt ∧ (0 : Int32).toInt + DG x3_78 ≤ 10 ∧ FA f_t_roll from by first | omega | assumption | trivial | (refine ⟨?_, ?_⟩ <;> first | omega | assumption | trivial | rfl) | (refine ⟨?_, ?_, ?_⟩ <;> first | omega | assumption | trivial | rfl) | (refine ⟨?_, ?_, ?_, ?_⟩ <;> first | omega | assumption | trivial | rfl) | (refine ⟨?_, ?_, ?_, ?_, ?_⟩ <;> first | omega | assumption | trivial | rfl) | (refine ⟨?_, ?_, ?_, ?_, ?_, ?_⟩ <;> first | omega | assumption | trivial | rfl) | (refine ⟨?_, ?_, ?_, ?_, ?_, ?_, ?_⟩ <;> first | omega | assumption | trivial | rfl) | (refine ⟨?_, ?_, ?_, ?_, ?_, ?_, ?_, ?_⟩ <;> first | omega | assumption | trivial | rfl)) (show (DG x3_78).toNat < 20000 from by omega)
              have hI25 : 0 ≤ DG y3_79 ∧ 0 ≤ c_t_many_79.toInt ∧ c_t_many_79.toInt + DG y3_79 ≤ 10 ∧ FA f_t_roll_79 := hI25
              obtain ⟨hI25_0, hI25_1, hI25_2, hI25_3⟩ := hI25
              unfold S_X9_factor_79
              refine ok_o (sp_X9_degreeOf y3_79 ) (fun r80 h26 => ?_)
              have h26 : r80.toInt = DG y3_79 ∧ -1 ≤ r80.toInt ∧ r80.toInt ≤ 63 := h26
              refine ok_le (fun c27 => ?_) (fun c27 => ?_)
              · refine ok_eq (fun c28 => ?_) (fun c28 => ?_)
                · refine ok_L2 (fun y3_132 f_t_roll_132 => 0 ≤ y3_132.toInt ∧ y3_132.toInt ≤ 12 ∧ FA f_t_roll_132) (fun y3_132 f_t_roll_132 => (c_t_many_79.toInt - y3_132.toInt + 1).toNat) (fun ih132 y3_132 f_t_roll_132 hI29 hih29 => ?_) 20000 (0 : Int32) f_t_roll_79 (show 0 ≤ (0 : Int32).toInt ∧ (0 : Int32).toInt ≤ 12 ∧ FA f_t_roll_79 from by first | omega | assumption | trivial | (refine ⟨?_, ?_⟩ <;> first | omega | assumption | trivial | rfl) | (refine ⟨?_, ?_, ?_⟩ <;> first | omega | assumption | trivial | rfl) | (refine ⟨?_, ?_, ?_, ?_⟩ <;> first | omega | assumption | trivial | rfl) | (refine ⟨?_, ?_, ?_, ?_, ?_⟩ <;> first | omega | assumption | trivial | rfl) | (refine ⟨?_, ?_, ?_, ?_, ?_, ?_⟩ <;> first | omega | assumption | trivial | rfl) | (refine ⟨?_, ?_, ?_, ?_, ?_, ?_, ?_⟩ <;> first | omega | assumption | trivial | rfl) | (refine ⟨?_, ?_, ?_, ?_, ?_, ?_, ?_, ?_⟩ <;> first | omega | assumption | trivial | rfl)) (show (c_t_many_79.toInt - (0 : Int32).toInt + 1).toNat < 20000 from by omega)
                  have hI29 : 0 ≤ y3_132.toInt ∧ y3_132.toInt ≤ 12 ∧ FA f_t_roll_132 := hI29
                  obtain ⟨hI29_0, hI29_1, hI29_2⟩ := hI29
                  unfold S_X9_factor_132
                  obtain ⟨w30, e_w30⟩ : ∃ w : Int32, w = c_t_many_79 - (1 : Int32) := ⟨_, rfl⟩
                  try have t_w30 : w30.toInt = c_t_many_79.toInt - 1 := by rw [e_w30]; exact subT1 (show (1 : Int32).toInt = 1 from by decide) (by omega) (by omega)
                  try rw [← e_w30]
                  obtain ⟨w31, e_w31⟩ : ∃ w : Int32, w = w30 - y3_132 := ⟨_, rfl⟩
                  try have t_w31 : w31.toInt = w30.toInt - y3_132.toInt := by rw [e_w31]; exact subT1 (Eq.refl _) (by omega) (by omega)
                  try rw [← e_w31]
                  refine ok_le (fun c32 => ?_) (fun c32 => ?_)
                  · refine ok_o2 (sp_X9_done c_t_acts c_t_many_79 ) (fun r197 c_t_acts_197 h33 => ?_)
                    exact ok_s (show 0 ≤ c_t_many_79.toInt ∧ c_t_many_79.toInt ≤ 12 ∧ FA f_t_roll_132 from by first | omega | assumption | trivial | (refine ⟨?_, ?_⟩ <;> first | omega | assumption | trivial | rfl) | (refine ⟨?_, ?_, ?_⟩ <;> first | omega | assumption | trivial | rfl) | (refine ⟨?_, ?_, ?_, ?_⟩ <;> first | omega | assumption | trivial | rfl) | (refine ⟨?_, ?_, ?_, ?_, ?_⟩ <;> first | omega | assumption | trivial | rfl) | (refine ⟨?_, ?_, ?_, ?_, ?_, ?_⟩ <;> first | omega | assumption | trivial | rfl) | (refine ⟨?_, ?_, ?_, ?_, ?_, ?_, ?_⟩ <;> first | omega | assumption | trivial | rfl) | (refine ⟨?_, ?_, ?_, ?_, ?_, ?_, ?_, ?_⟩ <;> first | omega | assumption | trivial | rfl))
                  · refine ok_c (ixo (by omega) (by omega)) ?_
                    try have a34 := FA_at (f := f_t_roll_132) (by assumption) y3_132.toNatClampNeg
                    refine ok_bx (fun x4_150 e_x4_150 => ?_)
                    try have q_x4_150 : DG x4_150 = DG (f_t_roll_132 y3_132.toNatClampNeg) := by rw [e_x4_150]
                    try have d_x4_150 : -1 ≤ DG x4_150 ∧ DG x4_150 ≤ 39 := by rw [e_x4_150]; exact FA_at (by assumption) _
                    refine ok_c (ixo (by omega) (by omega)) ?_
                    refine ok_c (ixo (by omega) (by omega)) ?_
                    try have a35 := FA_at (f := f_t_roll_132) (by assumption) w31.toNatClampNeg
                    refine ok_bx (fun f_t_roll_170 e_f_t_roll_170 => ?_)
                    try have t_f_t_roll_170 : FA f_t_roll_170 := by rw [e_f_t_roll_170]; exact FA_upd (by first | assumption | exact FA_0) _ (by first | omega | assumption | trivial)
                    refine ok_c (ixo (by omega) (by omega)) ?_
                    refine ok_bx (fun f_t_roll_185 e_f_t_roll_185 => ?_)
                    try have t_f_t_roll_185 : FA f_t_roll_185 := by rw [e_f_t_roll_185]; exact FA_upd (by first | assumption | exact FA_0) _ (by first | omega | assumption | trivial)
                    refine ok_bx (fun x3_186 e_x3_186 => ?_)
                    try have t_x3_186 : x3_186.toInt = y3_132.toInt + 1 := by rw [e_x3_186]; exact addT1 (show (1 : Int32).toInt = 1 from by decide) (by omega) (by omega)
                    exact hih29 x3_186 f_t_roll_185 (show 0 ≤ x3_186.toInt ∧ x3_186.toInt ≤ 12 ∧ FA f_t_roll_185 from by first | omega | assumption | trivial | (refine ⟨?_, ?_⟩ <;> first | omega | assumption | trivial | rfl) | (refine ⟨?_, ?_, ?_⟩ <;> first | omega | assumption | trivial | rfl) | (refine ⟨?_, ?_, ?_, ?_⟩ <;> first | omega | assumption | trivial | rfl) | (refine ⟨?_, ?_, ?_, ?_, ?_⟩ <;> first | omega | assumption | trivial | rfl) | (refine ⟨?_, ?_, ?_, ?_, ?_, ?_⟩ <;> first | omega | assumption | trivial | rfl) | (refine ⟨?_, ?_, ?_, ?_, ?_, ?_, ?_⟩ <;> first | omega | assumption | trivial | rfl) | (refine ⟨?_, ?_, ?_, ?_, ?_, ?_, ?_, ?_⟩ <;> first | omega | assumption | trivial | rfl)) (show (c_t_many_79.toInt - x3_186.toInt + 1).toNat < (c_t_many_79.toInt - y3_132.toInt + 1).toNat from by omega)
                · refine ok_o2 (sp_X9_done c_t_acts c_t_many_79 ) (fun r197_2 c_t_acts_197_2 h36 => ?_)
                  exact ok_s (show 0 ≤ c_t_many_79.toInt ∧ c_t_many_79.toInt ≤ 12 ∧ FA f_t_roll_79 from by first | omega | assumption | trivial | (refine ⟨?_, ?_⟩ <;> first | omega | assumption | trivial | rfl) | (refine ⟨?_, ?_, ?_⟩ <;> first | omega | assumption | trivial | rfl) | (refine ⟨?_, ?_, ?_, ?_⟩ <;> first | omega | assumption | trivial | rfl) | (refine ⟨?_, ?_, ?_, ?_, ?_⟩ <;> first | omega | assumption | trivial | rfl) | (refine ⟨?_, ?_, ?_, ?_, ?_, ?_⟩ <;> first | omega | assumption | trivial | rfl) | (refine ⟨?_, ?_, ?_, ?_, ?_, ?_, ?_⟩ <;> first | omega | assumption | trivial | rfl) | (refine ⟨?_, ?_, ?_, ?_, ?_, ?_, ?_, ?_⟩ <;> first | omega | assumption | trivial | rfl))
              · refine ok_bx (fun c_t_many_98 e_c_t_many_98 => ?_)
                try have t_c_t_many_98 : c_t_many_98.toInt = c_t_many_79.toInt + 1 := by rw [e_c_t_many_98]; exact addT1 (show (1 : Int32).toInt = 1 from by decide) (by omega) (by omega)
                refine ok_o (sp_X9_least y3_79 (by first | omega | assumption | trivial | exact wt_of (by assumption) (by omega)) (by first | omega | assumption | trivial | exact wt_of (by assumption) (by omega))) (fun r102 h37 => ?_)
                have h37 : 1 ≤ DG r102 ∧ DG r102 ≤ DG y3_79 := h37
                refine ok_c (ixo (by omega) (by omega)) ?_
                refine ok_bx (fun f_t_roll_105 e_f_t_roll_105 => ?_)
                try have t_f_t_roll_105 : FA f_t_roll_105 := by rw [e_f_t_roll_105]; exact FA_upd (by first | assumption | exact FA_0) _ (by first | omega | assumption | trivial)
                obtain ⟨w38, e_w38⟩ : ∃ w : Int32, w = c_t_many_98 - (1 : Int32) := ⟨_, rfl⟩
                try have t_w38 : w38.toInt = c_t_many_98.toInt - 1 := by rw [e_w38]; exact subT1 (show (1 : Int32).toInt = 1 from by decide) (by omega) (by omega)
                try rw [← e_w38]
                refine ok_c (ixo (by omega) (by omega)) ?_
                try have a39 := FA_at (f := f_t_roll_105) (by assumption) w38.toNatClampNeg
                have hi : w38 = c_t_many_79 := Int32.toInt_inj.mp (by omega)
                have hv : DG (f_t_roll_105 w38.toNatClampNeg) = DG r102 := by rw [hi, e_f_t_roll_105]; simp [vp_updL]
                refine ok_o (sp_X9_quotientOf y3_79 (f_t_roll_105 w38.toNatClampNeg) (by first | omega | assumption | trivial | exact wt_of (by assumption) (by omega)) (by first | omega | assumption | trivial | exact wt_of (by assumption) (by omega)) (by first | omega | assumption | trivial | exact wt_of (by assumption) (by omega))) (fun r118 h40 => ?_)
                have h40 : (DG y3_79 < DG (f_t_roll_105 w38.toNatClampNeg) ∧ DG r118 = -1) ∨ (DG (f_t_roll_105 w38.toNatClampNeg) ≤ DG y3_79 ∧ DG r118 = DG y3_79 - DG (f_t_roll_105 w38.toNatClampNeg)) := h40
                exact hih25 r118 c_t_many_98 f_t_roll_105 (show 0 ≤ DG r118 ∧ 0 ≤ c_t_many_98.toInt ∧ c_t_many_98.toInt + DG r118 ≤ 10 ∧ FA f_t_roll_105 from by first | omega | assumption | trivial | (refine ⟨?_, ?_⟩ <;> first | omega | assumption | trivial | rfl) | (refine ⟨?_, ?_, ?_⟩ <;> first | omega | assumption | trivial | rfl) | (refine ⟨?_, ?_, ?_, ?_⟩ <;> first | omega | assumption | trivial | rfl) | (refine ⟨?_, ?_, ?_, ?_, ?_⟩ <;> first | omega | assumption | trivial | rfl) | (refine ⟨?_, ?_, ?_, ?_, ?_, ?_⟩ <;> first | omega | assumption | trivial | rfl) | (refine ⟨?_, ?_, ?_, ?_, ?_, ?_, ?_⟩ <;> first | omega | assumption | trivial | rfl) | (refine ⟨?_, ?_, ?_, ?_, ?_, ?_, ?_, ?_⟩ <;> first | omega | assumption | trivial | rfl)) (show (DG r118).toNat < (DG y3_79).toNat from by omega)
            · refine ok_o2 (sp_X9_no c_t_refused ) (fun r63_2 c_t_refused_63_2 h41 => ?_)
              exact ok_s (show 0 ≤ c_t_many.toInt ∧ c_t_many.toInt ≤ 12 ∧ FA f_t_roll from by first | omega | assumption | trivial | (refine ⟨?_, ?_⟩ <;> first | omega | assumption | trivial | rfl) | (refine ⟨?_, ?_, ?_⟩ <;> first | omega | assumption | trivial | rfl) | (refine ⟨?_, ?_, ?_, ?_⟩ <;> first | omega | assumption | trivial | rfl) | (refine ⟨?_, ?_, ?_, ?_, ?_⟩ <;> first | omega | assumption | trivial | rfl) | (refine ⟨?_, ?_, ?_, ?_, ?_, ?_⟩ <;> first | omega | assumption | trivial | rfl) | (refine ⟨?_, ?_, ?_, ?_, ?_, ?_, ?_⟩ <;> first | omega | assumption | trivial | rfl) | (refine ⟨?_, ?_, ?_, ?_, ?_, ?_, ?_, ?_⟩ <;> first | omega | assumption | trivial | rfl))
        · exfalso; omega
      · first | unfold J_X9_factor_22 | skip
        first | unfold J_X9_factor_27 | skip
        refine ok_o2 (sp_X9_isThrown (0 : Int32) (1 : Int32) ) (fun r27_6 c_t_thrown_27_6 h42 => ?_)
        have h42 : (r27_6.toInt = 0 ∧ c_t_thrown_27_6.toInt = 0 ∧ (0 : Int32).toInt = 0 ∧ (1 : Int32).toInt = 0) ∨ (r27_6.toInt = 1 ∧ c_t_thrown_27_6.toInt = 1 ∧ (0 : Int32).toInt ≠ 0) ∨ (r27_6.toInt = 1 ∧ c_t_thrown_27_6.toInt = 2 ∧ (0 : Int32).toInt = 0 ∧ (1 : Int32).toInt ≠ 0) := h42
        refine ok_eq (fun c43 => ?_) (fun c43 => ?_)
        · exfalso; omega
        · exact ok_s (show 0 ≤ c_t_many.toInt ∧ c_t_many.toInt ≤ 12 ∧ FA f_t_roll from by first | omega | assumption | trivial | (refine ⟨?_, ?_⟩ <;> first | omega | assumption | trivial | rfl) | (refine ⟨?_, ?_, ?_⟩ <;> first | omega | assumption | trivial | rfl) | (refine ⟨?_, ?_, ?_, ?_⟩ <;> first | omega | assumption | trivial | rfl) | (refine ⟨?_, ?_, ?_, ?_, ?_⟩ <;> first | omega | assumption | trivial | rfl) | (refine ⟨?_, ?_, ?_, ?_, ?_, ?_⟩ <;> first | omega | assumption | trivial | rfl) | (refine ⟨?_, ?_, ?_, ?_, ?_, ?_, ?_⟩ <;> first | omega | assumption | trivial | rfl) | (refine ⟨?_, ?_, ?_, ?_, ?_, ?_, ?_, ?_⟩ <;> first | omega | assumption | trivial | rfl))
set_option maxHeartbeats 1000000 in
theorem sp_X9_enroll (c_t_many : Int32) (c_t_acts : Int32) (c_t_refused : Int32) (f_t_forms : Nat → Int64) (f_t_roll : Nat → Int64) (p0 : Int32) (hp0 : 0 ≤ c_t_many.toInt) (hp1 : c_t_many.toInt ≤ 12) (hp2 : FA f_t_forms) (hp3 : FA f_t_roll) : ok (F_X9_enroll c_t_many c_t_acts c_t_refused f_t_forms f_t_roll p0) (fun r => 0 ≤ r.2.1.toInt ∧ r.2.1.toInt ≤ 12 ∧ FA r.2.2.2.2.2) := by
  have l032 : (0 : Int32).toInt = 0 := by decide
  have l132 : (1 : Int32).toInt = 1 := by decide
  have l1232 : (12 : Int32).toInt = 12 := by decide
  unfold F_X9_enroll
  refine ok_o (sp_X9_isForm p0 ) (fun r2 h1 => ?_)
  have h1 : (r2.toInt = 1 ∧ 0 ≤ p0.toInt ∧ p0.toInt ≤ 5) ∨ (r2.toInt = 0 ∧ (p0.toInt < 0 ∨ 6 ≤ p0.toInt)) := h1
  refine ok_eq (fun c2 => ?_) (fun c2 => ?_)
  · refine ok_o2 (sp_X9_isThrown_ (1 : Int32) ) (fun r13 c_t_thrown_13 h3 => ?_)
    have h3 : (r13.toInt = 0 ∧ c_t_thrown_13.toInt = 0 ∧ (1 : Int32).toInt = 0) ∨ (r13.toInt = 1 ∧ c_t_thrown_13.toInt = 1 ∧ (1 : Int32).toInt ≠ 0) := h3
    refine ok_eq (fun c4 => ?_) (fun c4 => ?_)
    · exfalso; omega
    · exact ok_s (show 0 ≤ c_t_many.toInt ∧ c_t_many.toInt ≤ 12 ∧ FA f_t_roll from by first | omega | assumption | trivial | (refine ⟨?_, ?_⟩ <;> first | omega | assumption | trivial | rfl) | (refine ⟨?_, ?_, ?_⟩ <;> first | omega | assumption | trivial | rfl) | (refine ⟨?_, ?_, ?_, ?_⟩ <;> first | omega | assumption | trivial | rfl) | (refine ⟨?_, ?_, ?_, ?_, ?_⟩ <;> first | omega | assumption | trivial | rfl) | (refine ⟨?_, ?_, ?_, ?_, ?_, ?_⟩ <;> first | omega | assumption | trivial | rfl) | (refine ⟨?_, ?_, ?_, ?_, ?_, ?_, ?_⟩ <;> first | omega | assumption | trivial | rfl) | (refine ⟨?_, ?_, ?_, ?_, ?_, ?_, ?_, ?_⟩ <;> first | omega | assumption | trivial | rfl))
  · refine ok_o2 (sp_X9_isThrown_ (0 : Int32) ) (fun r13_2 c_t_thrown_13_2 h5 => ?_)
    have h5 : (r13_2.toInt = 0 ∧ c_t_thrown_13_2.toInt = 0 ∧ (0 : Int32).toInt = 0) ∨ (r13_2.toInt = 1 ∧ c_t_thrown_13_2.toInt = 1 ∧ (0 : Int32).toInt ≠ 0) := h5
    refine ok_eq (fun c6 => ?_) (fun c6 => ?_)
    · refine ok_eq (fun c7 => ?_) (fun c7 => ?_)
      · refine ok_o2 (sp_X9_no c_t_refused ) (fun r31 c_t_refused_31 h8 => ?_)
        exact ok_s (show 0 ≤ c_t_many.toInt ∧ c_t_many.toInt ≤ 12 ∧ FA f_t_roll from by first | omega | assumption | trivial | (refine ⟨?_, ?_⟩ <;> first | omega | assumption | trivial | rfl) | (refine ⟨?_, ?_, ?_⟩ <;> first | omega | assumption | trivial | rfl) | (refine ⟨?_, ?_, ?_, ?_⟩ <;> first | omega | assumption | trivial | rfl) | (refine ⟨?_, ?_, ?_, ?_, ?_⟩ <;> first | omega | assumption | trivial | rfl) | (refine ⟨?_, ?_, ?_, ?_, ?_, ?_⟩ <;> first | omega | assumption | trivial | rfl) | (refine ⟨?_, ?_, ?_, ?_, ?_, ?_, ?_⟩ <;> first | omega | assumption | trivial | rfl) | (refine ⟨?_, ?_, ?_, ?_, ?_, ?_, ?_, ?_⟩ <;> first | omega | assumption | trivial | rfl))
      · refine ok_bx (fun c_t_many_47 e_c_t_many_47 => ?_)
        try have t_c_t_many_47 : c_t_many_47.toInt = c_t_many.toInt + 1 := by rw [e_c_t_many_47]; exact addT1 (show (1 : Int32).toInt = 1 from by decide) (by omega) (by omega)
        refine ok_c (ixo (by omega) (by omega)) ?_
        refine ok_c (ixo (by omega) (by omega)) ?_
        try have a9 := FA_at (f := f_t_forms) (by assumption) p0.toNatClampNeg
        refine ok_bx (fun f_t_roll_56 e_f_t_roll_56 => ?_)
        try have t_f_t_roll_56 : FA f_t_roll_56 := by rw [e_f_t_roll_56]; exact FA_upd (by first | assumption | exact FA_0) _ (by first | omega | assumption | trivial)
        refine ok_o2 (sp_X9_done c_t_acts c_t_many_47 ) (fun r62 c_t_acts_62 h10 => ?_)
        exact ok_s (show 0 ≤ c_t_many_47.toInt ∧ c_t_many_47.toInt ≤ 12 ∧ FA f_t_roll_56 from by first | omega | assumption | trivial | (refine ⟨?_, ?_⟩ <;> first | omega | assumption | trivial | rfl) | (refine ⟨?_, ?_, ?_⟩ <;> first | omega | assumption | trivial | rfl) | (refine ⟨?_, ?_, ?_, ?_⟩ <;> first | omega | assumption | trivial | rfl) | (refine ⟨?_, ?_, ?_, ?_, ?_⟩ <;> first | omega | assumption | trivial | rfl) | (refine ⟨?_, ?_, ?_, ?_, ?_, ?_⟩ <;> first | omega | assumption | trivial | rfl) | (refine ⟨?_, ?_, ?_, ?_, ?_, ?_, ?_⟩ <;> first | omega | assumption | trivial | rfl) | (refine ⟨?_, ?_, ?_, ?_, ?_, ?_, ?_, ?_⟩ <;> first | omega | assumption | trivial | rfl))
    · exfalso; omega
set_option maxHeartbeats 1000000 in
theorem sp_X9_strike (c_t_many : Int32) (c_t_acts : Int32) (c_t_thrown : Int32) (f_t_roll : Nat → Int64) (p0 : Int32) (hp0 : 0 ≤ c_t_many.toInt) (hp1 : c_t_many.toInt ≤ 12) (hp2 : FA f_t_roll) : ok (F_X9_strike c_t_many c_t_acts c_t_thrown f_t_roll p0) (fun r => 0 ≤ r.2.1.toInt ∧ r.2.1.toInt ≤ 12 ∧ FA r.2.2.2.2) := by
  have l032 : (0 : Int32).toInt = 0 := by decide
  have l132 : (1 : Int32).toInt = 1 := by decide
  unfold F_X9_strike
  refine ok_lt (fun c1 => ?_) (fun c1 => ?_)
  · first | unfold J_X9_strike_13 | skip
    first | unfold J_X9_strike_18 | skip
    refine ok_o2 (sp_X9_isThrown_ (1 : Int32) ) (fun r18 c_t_thrown_18 h2 => ?_)
    have h2 : (r18.toInt = 0 ∧ c_t_thrown_18.toInt = 0 ∧ (1 : Int32).toInt = 0) ∨ (r18.toInt = 1 ∧ c_t_thrown_18.toInt = 1 ∧ (1 : Int32).toInt ≠ 0) := h2
    refine ok_eq (fun c3 => ?_) (fun c3 => ?_)
    · exfalso; omega
    · exact ok_s (show 0 ≤ c_t_many.toInt ∧ c_t_many.toInt ≤ 12 ∧ FA f_t_roll from by first | omega | assumption | trivial | (refine ⟨?_, ?_⟩ <;> first | omega | assumption | trivial | rfl) | (refine ⟨?_, ?_, ?_⟩ <;> first | omega | assumption | trivial | rfl) | (refine ⟨?_, ?_, ?_, ?_⟩ <;> first | omega | assumption | trivial | rfl) | (refine ⟨?_, ?_, ?_, ?_, ?_⟩ <;> first | omega | assumption | trivial | rfl) | (refine ⟨?_, ?_, ?_, ?_, ?_, ?_⟩ <;> first | omega | assumption | trivial | rfl) | (refine ⟨?_, ?_, ?_, ?_, ?_, ?_, ?_⟩ <;> first | omega | assumption | trivial | rfl) | (refine ⟨?_, ?_, ?_, ?_, ?_, ?_, ?_, ?_⟩ <;> first | omega | assumption | trivial | rfl))
  · refine ok_lt (fun c4 => ?_) (fun c4 => ?_)
    · first | unfold J_X9_strike_18 | skip
      refine ok_o2 (sp_X9_isThrown_ (0 : Int32) ) (fun r18_2 c_t_thrown_18_2 h5 => ?_)
      have h5 : (r18_2.toInt = 0 ∧ c_t_thrown_18_2.toInt = 0 ∧ (0 : Int32).toInt = 0) ∨ (r18_2.toInt = 1 ∧ c_t_thrown_18_2.toInt = 1 ∧ (0 : Int32).toInt ≠ 0) := h5
      refine ok_eq (fun c6 => ?_) (fun c6 => ?_)
      · refine ok_c (ixo (by omega) (by omega)) ?_
        try have a7 := FA_at (f := f_t_roll) (by assumption) p0.toNatClampNeg
        refine ok_o (sp_X9_degreeOf (f_t_roll p0.toNatClampNeg) ) (fun r32 h8 => ?_)
        have h8 : r32.toInt = DG (f_t_roll p0.toNatClampNeg) ∧ -1 ≤ r32.toInt ∧ r32.toInt ≤ 63 := h8
        refine ok_bx (fun c_t_many_43 e_c_t_many_43 => ?_)
        try have t_c_t_many_43 : c_t_many_43.toInt = c_t_many.toInt - 1 := by rw [e_c_t_many_43]; exact subT1 (show (1 : Int32).toInt = 1 from by decide) (by omega) (by omega)
        refine ok_L2 (fun y3_48 f_t_roll_48 => 0 ≤ y3_48.toInt ∧ FA f_t_roll_48) (fun y3_48 f_t_roll_48 => (c_t_many_43.toInt - y3_48.toInt + 1).toNat) (fun ih48 y3_48 f_t_roll_48 hI9 hih9 => ?_) 20000 p0 f_t_roll (show 0 ≤ p0.toInt ∧ FA f_t_roll from by first | omega | assumption | trivial | (refine ⟨?_, ?_⟩ <;> first | omega | assumption | trivial | rfl) | (refine ⟨?_, ?_, ?_⟩ <;> first | omega | assumption | trivial | rfl) | (refine ⟨?_, ?_, ?_, ?_⟩ <;> first | omega | assumption | trivial | rfl) | (refine ⟨?_, ?_, ?_, ?_, ?_⟩ <;> first | omega | assumption | trivial | rfl) | (refine ⟨?_, ?_, ?_, ?_, ?_, ?_⟩ <;> first | omega | assumption | trivial | rfl) | (refine ⟨?_, ?_, ?_, ?_, ?_, ?_, ?_⟩ <;> first | omega | assumption | trivial | rfl) | (refine ⟨?_, ?_, ?_, ?_, ?_, ?_, ?_, ?_⟩ <;> first | omega | assumption | trivial | rfl)) (show (c_t_many_43.toInt - p0.toInt + 1).toNat < 20000 from by omega)
        have hI9 : 0 ≤ y3_48.toInt ∧ FA f_t_roll_48 := hI9
        obtain ⟨hI9_0, hI9_1⟩ := hI9
        unfold S_X9_strike_48
        refine ok_le (fun c10 => ?_) (fun c10 => ?_)
        · refine ok_o2 (sp_X9_done c_t_acts r32 ) (fun r78 c_t_acts_78 h11 => ?_)
          exact ok_s (show 0 ≤ c_t_many_43.toInt ∧ c_t_many_43.toInt ≤ 12 ∧ FA f_t_roll_48 from by first | omega | assumption | trivial | (refine ⟨?_, ?_⟩ <;> first | omega | assumption | trivial | rfl) | (refine ⟨?_, ?_, ?_⟩ <;> first | omega | assumption | trivial | rfl) | (refine ⟨?_, ?_, ?_, ?_⟩ <;> first | omega | assumption | trivial | rfl) | (refine ⟨?_, ?_, ?_, ?_, ?_⟩ <;> first | omega | assumption | trivial | rfl) | (refine ⟨?_, ?_, ?_, ?_, ?_, ?_⟩ <;> first | omega | assumption | trivial | rfl) | (refine ⟨?_, ?_, ?_, ?_, ?_, ?_, ?_⟩ <;> first | omega | assumption | trivial | rfl) | (refine ⟨?_, ?_, ?_, ?_, ?_, ?_, ?_, ?_⟩ <;> first | omega | assumption | trivial | rfl))
        · obtain ⟨w12, e_w12⟩ : ∃ w : Int32, w = y3_48 + (1 : Int32) := ⟨_, rfl⟩
          try have t_w12 : w12.toInt = y3_48.toInt + 1 := by rw [e_w12]; exact addT1 (show (1 : Int32).toInt = 1 from by decide) (by omega) (by omega)
          try rw [← e_w12]
          refine ok_c (ixo (by omega) (by omega)) ?_
          refine ok_c (ixo (by omega) (by omega)) ?_
          try have a13 := FA_at (f := f_t_roll_48) (by assumption) w12.toNatClampNeg
          refine ok_bx (fun f_t_roll_69 e_f_t_roll_69 => ?_)
          try have t_f_t_roll_69 : FA f_t_roll_69 := by rw [e_f_t_roll_69]; exact FA_upd (by first | assumption | exact FA_0) _ (by first | omega | assumption | trivial)
          refine ok_bx (fun x3_70 e_x3_70 => ?_)
          have t_x3_70 : x3_70.toInt = w12.toInt := by rw [e_x3_70]
          exact hih9 x3_70 f_t_roll_69 (show 0 ≤ x3_70.toInt ∧ FA f_t_roll_69 from by first | omega | assumption | trivial | (refine ⟨?_, ?_⟩ <;> first | omega | assumption | trivial | rfl) | (refine ⟨?_, ?_, ?_⟩ <;> first | omega | assumption | trivial | rfl) | (refine ⟨?_, ?_, ?_, ?_⟩ <;> first | omega | assumption | trivial | rfl) | (refine ⟨?_, ?_, ?_, ?_, ?_⟩ <;> first | omega | assumption | trivial | rfl) | (refine ⟨?_, ?_, ?_, ?_, ?_, ?_⟩ <;> first | omega | assumption | trivial | rfl) | (refine ⟨?_, ?_, ?_, ?_, ?_, ?_, ?_⟩ <;> first | omega | assumption | trivial | rfl) | (refine ⟨?_, ?_, ?_, ?_, ?_, ?_, ?_, ?_⟩ <;> first | omega | assumption | trivial | rfl)) (show (c_t_many_43.toInt - x3_70.toInt + 1).toNat < (c_t_many_43.toInt - y3_48.toInt + 1).toNat from by omega)
      · exfalso; omega
    · first | unfold J_X9_strike_13 | skip
      first | unfold J_X9_strike_18 | skip
      refine ok_o2 (sp_X9_isThrown_ (1 : Int32) ) (fun r18_3 c_t_thrown_18_3 h14 => ?_)
      have h14 : (r18_3.toInt = 0 ∧ c_t_thrown_18_3.toInt = 0 ∧ (1 : Int32).toInt = 0) ∨ (r18_3.toInt = 1 ∧ c_t_thrown_18_3.toInt = 1 ∧ (1 : Int32).toInt ≠ 0) := h14
      refine ok_eq (fun c15 => ?_) (fun c15 => ?_)
      · exfalso; omega
      · exact ok_s (show 0 ≤ c_t_many.toInt ∧ c_t_many.toInt ≤ 12 ∧ FA f_t_roll from by first | omega | assumption | trivial | (refine ⟨?_, ?_⟩ <;> first | omega | assumption | trivial | rfl) | (refine ⟨?_, ?_, ?_⟩ <;> first | omega | assumption | trivial | rfl) | (refine ⟨?_, ?_, ?_, ?_⟩ <;> first | omega | assumption | trivial | rfl) | (refine ⟨?_, ?_, ?_, ?_, ?_⟩ <;> first | omega | assumption | trivial | rfl) | (refine ⟨?_, ?_, ?_, ?_, ?_, ?_⟩ <;> first | omega | assumption | trivial | rfl) | (refine ⟨?_, ?_, ?_, ?_, ?_, ?_, ?_⟩ <;> first | omega | assumption | trivial | rfl) | (refine ⟨?_, ?_, ?_, ?_, ?_, ?_, ?_, ?_⟩ <;> first | omega | assumption | trivial | rfl))
set_option maxHeartbeats 1000000 in
theorem sp_X9_clear (c_t_many : Int32) (c_t_acts : Int32) (hp0 : 0 ≤ c_t_many.toInt) (hp1 : c_t_many.toInt ≤ 12) : ok (F_X9_clear c_t_many c_t_acts) (fun r => r.2.1.toInt = 0) := by
  have l032 : (0 : Int32).toInt = 0 := by decide
  unfold F_X9_clear
  refine ok_o2 (sp_X9_done c_t_acts c_t_many ) (fun r17 c_t_acts_17 h1 => ?_)
  exact ok_s (show (0 : Int32).toInt = 0 from by first | omega | assumption | trivial | (refine ⟨?_, ?_⟩ <;> first | omega | assumption | trivial | rfl) | (refine ⟨?_, ?_, ?_⟩ <;> first | omega | assumption | trivial | rfl) | (refine ⟨?_, ?_, ?_, ?_⟩ <;> first | omega | assumption | trivial | rfl) | (refine ⟨?_, ?_, ?_, ?_, ?_⟩ <;> first | omega | assumption | trivial | rfl) | (refine ⟨?_, ?_, ?_, ?_, ?_, ?_⟩ <;> first | omega | assumption | trivial | rfl) | (refine ⟨?_, ?_, ?_, ?_, ?_, ?_, ?_⟩ <;> first | omega | assumption | trivial | rfl) | (refine ⟨?_, ?_, ?_, ?_, ?_, ?_, ?_, ?_⟩ <;> first | omega | assumption | trivial | rfl))
set_option maxHeartbeats 1000000 in
theorem sp_X9_sort (c_t_many : Int32) (c_t_acts : Int32) (f_t_roll : Nat → Int64) (p0 : Int32) (hp0 : 0 ≤ c_t_many.toInt) (hp1 : c_t_many.toInt ≤ 12) (hp2 : FA f_t_roll) : ok (F_X9_sort c_t_many c_t_acts f_t_roll p0) (fun r => FA r.2.2.2) := by
  have l032 : (0 : Int32).toInt = 0 := by decide
  have l064 : (0 : Int64).toInt = 0 := by decide
  have l132 : (1 : Int32).toInt = 1 := by decide
  have l1232 : (12 : Int32).toInt = 12 := by decide
  have hcl := cl_T (x := c_t_many) (by omega)
  have hf0 := FA_0
  unfold F_X9_sort
  refine ok_c ⟨nl_of (by omega), cl_le (by omega) (by omega)⟩ ?_
  refine ok_L2 (fun y3_14 f_n9_14 => 0 ≤ y3_14.toInt ∧ FA f_n9_14) (fun y3_14 f_n9_14 => (c_t_many.toInt - y3_14.toInt + 1).toNat) (fun ih14 y3_14 f_n9_14 hI1 hih1 => ?_) 20000 (0 : Int32) (fun _ => (0 : Int64)) (show 0 ≤ (0 : Int32).toInt ∧ FA (fun _ => (0 : Int64)) from by first | omega | assumption | trivial | (refine ⟨?_, ?_⟩ <;> first | omega | assumption | trivial | rfl) | (refine ⟨?_, ?_, ?_⟩ <;> first | omega | assumption | trivial | rfl) | (refine ⟨?_, ?_, ?_, ?_⟩ <;> first | omega | assumption | trivial | rfl) | (refine ⟨?_, ?_, ?_, ?_, ?_⟩ <;> first | omega | assumption | trivial | rfl) | (refine ⟨?_, ?_, ?_, ?_, ?_, ?_⟩ <;> first | omega | assumption | trivial | rfl) | (refine ⟨?_, ?_, ?_, ?_, ?_, ?_, ?_⟩ <;> first | omega | assumption | trivial | rfl) | (refine ⟨?_, ?_, ?_, ?_, ?_, ?_, ?_, ?_⟩ <;> first | omega | assumption | trivial | rfl)) (show (c_t_many.toInt - (0 : Int32).toInt + 1).toNat < 20000 from by omega)
  have hI1 : 0 ≤ y3_14.toInt ∧ FA f_n9_14 := hI1
  obtain ⟨hI1_0, hI1_1⟩ := hI1
  unfold S_X9_sort_14
  refine ok_le (fun c2 => ?_) (fun c2 => ?_)
  · refine ok_L3 (fun y3_138 y4_138 f_t_roll_138 => 0 ≤ y4_138.toInt ∧ FA f_t_roll_138) (fun y3_138 y4_138 f_t_roll_138 => (c_t_many.toInt - y4_138.toInt + 1).toNat) (fun ih138 y3_138 y4_138 f_t_roll_138 hI3 hih3 => ?_) 20000 (0 : Int32) (0 : Int32) f_t_roll (show 0 ≤ (0 : Int32).toInt ∧ FA f_t_roll from by first | omega | assumption | trivial | (refine ⟨?_, ?_⟩ <;> first | omega | assumption | trivial | rfl) | (refine ⟨?_, ?_, ?_⟩ <;> first | omega | assumption | trivial | rfl) | (refine ⟨?_, ?_, ?_, ?_⟩ <;> first | omega | assumption | trivial | rfl) | (refine ⟨?_, ?_, ?_, ?_, ?_⟩ <;> first | omega | assumption | trivial | rfl) | (refine ⟨?_, ?_, ?_, ?_, ?_, ?_⟩ <;> first | omega | assumption | trivial | rfl) | (refine ⟨?_, ?_, ?_, ?_, ?_, ?_, ?_⟩ <;> first | omega | assumption | trivial | rfl) | (refine ⟨?_, ?_, ?_, ?_, ?_, ?_, ?_, ?_⟩ <;> first | omega | assumption | trivial | rfl)) (show (c_t_many.toInt - (0 : Int32).toInt + 1).toNat < 20000 from by omega)
    have hI3 : 0 ≤ y4_138.toInt ∧ FA f_t_roll_138 := hI3
    obtain ⟨hI3_0, hI3_1⟩ := hI3
    unfold S_X9_sort_138
    refine ok_le (fun c4 => ?_) (fun c4 => ?_)
    · refine ok_o2 (sp_X9_done c_t_acts y3_138 ) (fun r189 c_t_acts_189 h5 => ?_)
      exact ok_s (show FA f_t_roll_138 from by first | omega | assumption | trivial | (refine ⟨?_, ?_⟩ <;> first | omega | assumption | trivial | rfl) | (refine ⟨?_, ?_, ?_⟩ <;> first | omega | assumption | trivial | rfl) | (refine ⟨?_, ?_, ?_, ?_⟩ <;> first | omega | assumption | trivial | rfl) | (refine ⟨?_, ?_, ?_, ?_, ?_⟩ <;> first | omega | assumption | trivial | rfl) | (refine ⟨?_, ?_, ?_, ?_, ?_, ?_⟩ <;> first | omega | assumption | trivial | rfl) | (refine ⟨?_, ?_, ?_, ?_, ?_, ?_, ?_⟩ <;> first | omega | assumption | trivial | rfl) | (refine ⟨?_, ?_, ?_, ?_, ?_, ?_, ?_, ?_⟩ <;> first | omega | assumption | trivial | rfl))
    · refine ok_c (ixo (by omega) (by omega)) ?_
      refine ok_c (ixo (by omega) (by omega)) ?_
      try have a7 := FA_at (f := f_n9_14) (by assumption) y4_138.toNatClampNeg
      try have a8 := FA_at (f := f_t_roll_138) (by assumption) y4_138.toNatClampNeg
      refine ok_eqL (fun c6 => ?_) (fun c6 => ?_)
      · first | unfold J_X9_sort_168 | skip
        refine ok_bx (fun x3_169 e_x3_169 => ?_)
        try have t_x3_169 : x3_169.toInt = y3_138.toInt + 0 := by rw [e_x3_169]; exact addT1 (show (0 : Int32).toInt = 0 from by decide) (by omega) (by omega)
        refine ok_c (ixo (by omega) (by omega)) ?_
        refine ok_c (ixo (by omega) (by omega)) ?_
        try have a9 := FA_at (f := f_n9_14) (by assumption) y4_138.toNatClampNeg
        refine ok_bx (fun f_t_roll_180 e_f_t_roll_180 => ?_)
        try have t_f_t_roll_180 : FA f_t_roll_180 := by rw [e_f_t_roll_180]; exact FA_upd (by first | assumption | exact FA_0) _ (by first | omega | assumption | trivial)
        refine ok_bx (fun x4_181 e_x4_181 => ?_)
        try have t_x4_181 : x4_181.toInt = y4_138.toInt + 1 := by rw [e_x4_181]; exact addT1 (show (1 : Int32).toInt = 1 from by decide) (by omega) (by omega)
        exact hih3 x3_169 x4_181 f_t_roll_180 (show 0 ≤ x4_181.toInt ∧ FA f_t_roll_180 from by first | omega | assumption | trivial | (refine ⟨?_, ?_⟩ <;> first | omega | assumption | trivial | rfl) | (refine ⟨?_, ?_, ?_⟩ <;> first | omega | assumption | trivial | rfl) | (refine ⟨?_, ?_, ?_, ?_⟩ <;> first | omega | assumption | trivial | rfl) | (refine ⟨?_, ?_, ?_, ?_, ?_⟩ <;> first | omega | assumption | trivial | rfl) | (refine ⟨?_, ?_, ?_, ?_, ?_, ?_⟩ <;> first | omega | assumption | trivial | rfl) | (refine ⟨?_, ?_, ?_, ?_, ?_, ?_, ?_⟩ <;> first | omega | assumption | trivial | rfl) | (refine ⟨?_, ?_, ?_, ?_, ?_, ?_, ?_, ?_⟩ <;> first | omega | assumption | trivial | rfl)) (show (c_t_many.toInt - x4_181.toInt + 1).toNat < (c_t_many.toInt - y4_138.toInt + 1).toNat from by omega)
      · first | unfold J_X9_sort_168 | skip
        refine ok_bx (fun x3_169_2 e_x3_169_2 => ?_)
        try have t_x3_169_2 : x3_169_2.toInt = y3_138.toInt + 1 := by rw [e_x3_169_2]; exact addT1 (show (1 : Int32).toInt = 1 from by decide) (by omega) (by omega)
        refine ok_c (ixo (by omega) (by omega)) ?_
        refine ok_c (ixo (by omega) (by omega)) ?_
        try have a10 := FA_at (f := f_n9_14) (by assumption) y4_138.toNatClampNeg
        refine ok_bx (fun f_t_roll_180_2 e_f_t_roll_180_2 => ?_)
        try have t_f_t_roll_180_2 : FA f_t_roll_180_2 := by rw [e_f_t_roll_180_2]; exact FA_upd (by first | assumption | exact FA_0) _ (by first | omega | assumption | trivial)
        refine ok_bx (fun x4_181_2 e_x4_181_2 => ?_)
        try have t_x4_181_2 : x4_181_2.toInt = y4_138.toInt + 1 := by rw [e_x4_181_2]; exact addT1 (show (1 : Int32).toInt = 1 from by decide) (by omega) (by omega)
        exact hih3 x3_169_2 x4_181_2 f_t_roll_180_2 (show 0 ≤ x4_181_2.toInt ∧ FA f_t_roll_180_2 from by first | omega | assumption | trivial | (refine ⟨?_, ?_⟩ <;> first | omega | assumption | trivial | rfl) | (refine ⟨?_, ?_, ?_⟩ <;> first | omega | assumption | trivial | rfl) | (refine ⟨?_, ?_, ?_, ?_⟩ <;> first | omega | assumption | trivial | rfl) | (refine ⟨?_, ?_, ?_, ?_, ?_⟩ <;> first | omega | assumption | trivial | rfl) | (refine ⟨?_, ?_, ?_, ?_, ?_, ?_⟩ <;> first | omega | assumption | trivial | rfl) | (refine ⟨?_, ?_, ?_, ?_, ?_, ?_, ?_⟩ <;> first | omega | assumption | trivial | rfl) | (refine ⟨?_, ?_, ?_, ?_, ?_, ?_, ?_, ?_⟩ <;> first | omega | assumption | trivial | rfl)) (show (c_t_many.toInt - x4_181_2.toInt + 1).toNat < (c_t_many.toInt - y4_138.toInt + 1).toNat from by omega)
  · refine ok_L2 (fun y4_28 y5_28 => 0 ≤ y5_28.toInt ∧ 0 ≤ y4_28.toInt ∧ y4_28.toInt ≤ y5_28.toInt ∧ y5_28.toInt ≤ c_t_many.toInt ∧ (y3_14.toInt < y5_28.toInt → y4_28.toInt ≤ y5_28.toInt - 1)) (fun y4_28 y5_28 => (c_t_many.toInt - y5_28.toInt + 1).toNat) (fun ih28 y4_28 y5_28 hI11 hih11 => ?_) 20000 (0 : Int32) (0 : Int32) (show 0 ≤ (0 : Int32).toInt ∧ 0 ≤ (0 : Int32).toInt ∧ (0 : Int32).toInt ≤ (0 : Int32).toInt ∧ (0 : Int32).toInt ≤ c_t_many.toInt ∧ (y3_14.toInt < (0 : Int32).toInt → (0 : Int32).toInt ≤ (0 : Int32).toInt - 1) from by first | omega | assumption | trivial | (refine ⟨?_, ?_⟩ <;> first | omega | assumption | trivial | rfl) | (refine ⟨?_, ?_, ?_⟩ <;> first | omega | assumption | trivial | rfl) | (refine ⟨?_, ?_, ?_, ?_⟩ <;> first | omega | assumption | trivial | rfl) | (refine ⟨?_, ?_, ?_, ?_, ?_⟩ <;> first | omega | assumption | trivial | rfl) | (refine ⟨?_, ?_, ?_, ?_, ?_, ?_⟩ <;> first | omega | assumption | trivial | rfl) | (refine ⟨?_, ?_, ?_, ?_, ?_, ?_, ?_⟩ <;> first | omega | assumption | trivial | rfl) | (refine ⟨?_, ?_, ?_, ?_, ?_, ?_, ?_, ?_⟩ <;> first | omega | assumption | trivial | rfl)) (show (c_t_many.toInt - (0 : Int32).toInt + 1).toNat < 20000 from by omega)
    have hI11 : 0 ≤ y5_28.toInt ∧ 0 ≤ y4_28.toInt ∧ y4_28.toInt ≤ y5_28.toInt ∧ y5_28.toInt ≤ c_t_many.toInt ∧ (y3_14.toInt < y5_28.toInt → y4_28.toInt ≤ y5_28.toInt - 1) := hI11
    unfold S_X9_sort_28
    have he : y5_28.toInt = y3_14.toInt → (f_t_roll y5_28.toNatClampNeg).toInt = (f_t_roll y3_14.toNatClampNeg).toInt := fun h => by rw [Int32.toInt_inj.mp h]
    refine ok_le (fun c12 => ?_) (fun c12 => ?_)
    · refine ok_c (ixo (by omega) (by omega)) ?_
      refine ok_c (ixo (by omega) (by omega)) ?_
      try have a13 := FA_at (f := f_t_roll) (by assumption) y3_14.toNatClampNeg
      refine ok_bx (fun f_n9_126 e_f_n9_126 => ?_)
      try have t_f_n9_126 : FA f_n9_126 := by rw [e_f_n9_126]; exact FA_upd (by first | assumption | exact FA_0) _ (by first | omega | assumption | trivial)
      refine ok_bx (fun x3_127 e_x3_127 => ?_)
      try have t_x3_127 : x3_127.toInt = y3_14.toInt + 1 := by rw [e_x3_127]; exact addT1 (show (1 : Int32).toInt = 1 from by decide) (by omega) (by omega)
      exact hih1 x3_127 f_n9_126 (show 0 ≤ x3_127.toInt ∧ FA f_n9_126 from by first | omega | assumption | trivial | (refine ⟨?_, ?_⟩ <;> first | omega | assumption | trivial | rfl) | (refine ⟨?_, ?_, ?_⟩ <;> first | omega | assumption | trivial | rfl) | (refine ⟨?_, ?_, ?_, ?_⟩ <;> first | omega | assumption | trivial | rfl) | (refine ⟨?_, ?_, ?_, ?_, ?_⟩ <;> first | omega | assumption | trivial | rfl) | (refine ⟨?_, ?_, ?_, ?_, ?_, ?_⟩ <;> first | omega | assumption | trivial | rfl) | (refine ⟨?_, ?_, ?_, ?_, ?_, ?_, ?_⟩ <;> first | omega | assumption | trivial | rfl) | (refine ⟨?_, ?_, ?_, ?_, ?_, ?_, ?_, ?_⟩ <;> first | omega | assumption | trivial | rfl)) (show (c_t_many.toInt - x3_127.toInt + 1).toNat < (c_t_many.toInt - y3_14.toInt + 1).toNat from by omega)
    · refine ok_eq (fun c14 => ?_) (fun c14 => ?_)
      · refine ok_c (ixo (by omega) (by omega)) ?_
        refine ok_c (ixo (by omega) (by omega)) ?_
        try have a16 := FA_at (f := f_t_roll) (by assumption) y5_28.toNatClampNeg
        try have a17 := FA_at (f := f_t_roll) (by assumption) y3_14.toNatClampNeg
        refine ok_ltL (fun c15 => ?_) (fun c15 => ?_)
        · first | unfold J_X9_sort_103 | skip
          first | unfold J_X9_sort_108 | skip
          refine ok_bx (fun x4_109 e_x4_109 => ?_)
          try have t_x4_109 : x4_109.toInt = y4_28.toInt + 1 := by rw [e_x4_109]; exact addT1 (show (1 : Int32).toInt = 1 from by decide) (by omega) (by omega)
          refine ok_bx (fun x5_111 e_x5_111 => ?_)
          try have t_x5_111 : x5_111.toInt = y5_28.toInt + 1 := by rw [e_x5_111]; exact addT1 (show (1 : Int32).toInt = 1 from by decide) (by omega) (by omega)
          exact hih11 x4_109 x5_111 (show 0 ≤ x5_111.toInt ∧ 0 ≤ x4_109.toInt ∧ x4_109.toInt ≤ x5_111.toInt ∧ x5_111.toInt ≤ c_t_many.toInt ∧ (y3_14.toInt < x5_111.toInt → x4_109.toInt ≤ x5_111.toInt - 1) from by first | omega | assumption | trivial | (refine ⟨?_, ?_⟩ <;> first | omega | assumption | trivial | rfl) | (refine ⟨?_, ?_, ?_⟩ <;> first | omega | assumption | trivial | rfl) | (refine ⟨?_, ?_, ?_, ?_⟩ <;> first | omega | assumption | trivial | rfl) | (refine ⟨?_, ?_, ?_, ?_, ?_⟩ <;> first | omega | assumption | trivial | rfl) | (refine ⟨?_, ?_, ?_, ?_, ?_, ?_⟩ <;> first | omega | assumption | trivial | rfl) | (refine ⟨?_, ?_, ?_, ?_, ?_, ?_, ?_⟩ <;> first | omega | assumption | trivial | rfl) | (refine ⟨?_, ?_, ?_, ?_, ?_, ?_, ?_, ?_⟩ <;> first | omega | assumption | trivial | rfl)) (show (c_t_many.toInt - x5_111.toInt + 1).toNat < (c_t_many.toInt - y5_28.toInt + 1).toNat from by omega)
        · first | unfold J_X9_sort_80 | skip
          refine ok_c (ixo (by omega) (by omega)) ?_
          refine ok_c (ixo (by omega) (by omega)) ?_
          try have a19 := FA_at (f := f_t_roll) (by assumption) y5_28.toNatClampNeg
          try have a20 := FA_at (f := f_t_roll) (by assumption) y3_14.toNatClampNeg
          refine ok_eqL (fun c18 => ?_) (fun c18 => ?_)
          · refine ok_le (fun c21 => ?_) (fun c21 => ?_)
            · first | unfold J_X9_sort_107 | skip
              first | unfold J_X9_sort_108 | skip
              refine ok_bx (fun x4_109_2 e_x4_109_2 => ?_)
              try have t_x4_109_2 : x4_109_2.toInt = y4_28.toInt + 0 := by rw [e_x4_109_2]; exact addT1 (show (0 : Int32).toInt = 0 from by decide) (by omega) (by omega)
              refine ok_bx (fun x5_111_2 e_x5_111_2 => ?_)
              try have t_x5_111_2 : x5_111_2.toInt = y5_28.toInt + 1 := by rw [e_x5_111_2]; exact addT1 (show (1 : Int32).toInt = 1 from by decide) (by omega) (by omega)
              exact hih11 x4_109_2 x5_111_2 (show 0 ≤ x5_111_2.toInt ∧ 0 ≤ x4_109_2.toInt ∧ x4_109_2.toInt ≤ x5_111_2.toInt ∧ x5_111_2.toInt ≤ c_t_many.toInt ∧ (y3_14.toInt < x5_111_2.toInt → x4_109_2.toInt ≤ x5_111_2.toInt - 1) from by first | omega | assumption | trivial | (refine ⟨?_, ?_⟩ <;> first | omega | assumption | trivial | rfl) | (refine ⟨?_, ?_, ?_⟩ <;> first | omega | assumption | trivial | rfl) | (refine ⟨?_, ?_, ?_, ?_⟩ <;> first | omega | assumption | trivial | rfl) | (refine ⟨?_, ?_, ?_, ?_, ?_⟩ <;> first | omega | assumption | trivial | rfl) | (refine ⟨?_, ?_, ?_, ?_, ?_, ?_⟩ <;> first | omega | assumption | trivial | rfl) | (refine ⟨?_, ?_, ?_, ?_, ?_, ?_, ?_⟩ <;> first | omega | assumption | trivial | rfl) | (refine ⟨?_, ?_, ?_, ?_, ?_, ?_, ?_, ?_⟩ <;> first | omega | assumption | trivial | rfl)) (show (c_t_many.toInt - x5_111_2.toInt + 1).toNat < (c_t_many.toInt - y5_28.toInt + 1).toNat from by omega)
            · first | unfold J_X9_sort_103 | skip
              first | unfold J_X9_sort_108 | skip
              refine ok_bx (fun x4_109_3 e_x4_109_3 => ?_)
              try have t_x4_109_3 : x4_109_3.toInt = y4_28.toInt + 1 := by rw [e_x4_109_3]; exact addT1 (show (1 : Int32).toInt = 1 from by decide) (by omega) (by omega)
              refine ok_bx (fun x5_111_3 e_x5_111_3 => ?_)
              try have t_x5_111_3 : x5_111_3.toInt = y5_28.toInt + 1 := by rw [e_x5_111_3]; exact addT1 (show (1 : Int32).toInt = 1 from by decide) (by omega) (by omega)
              exact hih11 x4_109_3 x5_111_3 (show 0 ≤ x5_111_3.toInt ∧ 0 ≤ x4_109_3.toInt ∧ x4_109_3.toInt ≤ x5_111_3.toInt ∧ x5_111_3.toInt ≤ c_t_many.toInt ∧ (y3_14.toInt < x5_111_3.toInt → x4_109_3.toInt ≤ x5_111_3.toInt - 1) from by first | omega | assumption | trivial | (refine ⟨?_, ?_⟩ <;> first | omega | assumption | trivial | rfl) | (refine ⟨?_, ?_, ?_⟩ <;> first | omega | assumption | trivial | rfl) | (refine ⟨?_, ?_, ?_, ?_⟩ <;> first | omega | assumption | trivial | rfl) | (refine ⟨?_, ?_, ?_, ?_, ?_⟩ <;> first | omega | assumption | trivial | rfl) | (refine ⟨?_, ?_, ?_, ?_, ?_, ?_⟩ <;> first | omega | assumption | trivial | rfl) | (refine ⟨?_, ?_, ?_, ?_, ?_, ?_, ?_⟩ <;> first | omega | assumption | trivial | rfl) | (refine ⟨?_, ?_, ?_, ?_, ?_, ?_, ?_, ?_⟩ <;> first | omega | assumption | trivial | rfl)) (show (c_t_many.toInt - x5_111_3.toInt + 1).toNat < (c_t_many.toInt - y5_28.toInt + 1).toNat from by omega)
          · first | unfold J_X9_sort_107 | skip
            first | unfold J_X9_sort_108 | skip
            refine ok_bx (fun x4_109_4 e_x4_109_4 => ?_)
            try have t_x4_109_4 : x4_109_4.toInt = y4_28.toInt + 0 := by rw [e_x4_109_4]; exact addT1 (show (0 : Int32).toInt = 0 from by decide) (by omega) (by omega)
            refine ok_bx (fun x5_111_4 e_x5_111_4 => ?_)
            try have t_x5_111_4 : x5_111_4.toInt = y5_28.toInt + 1 := by rw [e_x5_111_4]; exact addT1 (show (1 : Int32).toInt = 1 from by decide) (by omega) (by omega)
            exact hih11 x4_109_4 x5_111_4 (show 0 ≤ x5_111_4.toInt ∧ 0 ≤ x4_109_4.toInt ∧ x4_109_4.toInt ≤ x5_111_4.toInt ∧ x5_111_4.toInt ≤ c_t_many.toInt ∧ (y3_14.toInt < x5_111_4.toInt → x4_109_4.toInt ≤ x5_111_4.toInt - 1) from by first | omega | assumption | trivial | (refine ⟨?_, ?_⟩ <;> first | omega | assumption | trivial | rfl) | (refine ⟨?_, ?_, ?_⟩ <;> first | omega | assumption | trivial | rfl) | (refine ⟨?_, ?_, ?_, ?_⟩ <;> first | omega | assumption | trivial | rfl) | (refine ⟨?_, ?_, ?_, ?_, ?_⟩ <;> first | omega | assumption | trivial | rfl) | (refine ⟨?_, ?_, ?_, ?_, ?_, ?_⟩ <;> first | omega | assumption | trivial | rfl) | (refine ⟨?_, ?_, ?_, ?_, ?_, ?_, ?_⟩ <;> first | omega | assumption | trivial | rfl) | (refine ⟨?_, ?_, ?_, ?_, ?_, ?_, ?_, ?_⟩ <;> first | omega | assumption | trivial | rfl)) (show (c_t_many.toInt - x5_111_4.toInt + 1).toNat < (c_t_many.toInt - y5_28.toInt + 1).toNat from by omega)
      · refine ok_c (ixo (by omega) (by omega)) ?_
        refine ok_c (ixo (by omega) (by omega)) ?_
        try have a23 := FA_at (f := f_t_roll) (by assumption) y5_28.toNatClampNeg
        try have a24 := FA_at (f := f_t_roll) (by assumption) y3_14.toNatClampNeg
        refine ok_leL (fun c22 => ?_) (fun c22 => ?_)
        · first | unfold J_X9_sort_80 | skip
          refine ok_c (ixo (by omega) (by omega)) ?_
          refine ok_c (ixo (by omega) (by omega)) ?_
          try have a26 := FA_at (f := f_t_roll) (by assumption) y5_28.toNatClampNeg
          try have a27 := FA_at (f := f_t_roll) (by assumption) y3_14.toNatClampNeg
          refine ok_eqL (fun c25 => ?_) (fun c25 => ?_)
          · refine ok_le (fun c28 => ?_) (fun c28 => ?_)
            · first | unfold J_X9_sort_107 | skip
              first | unfold J_X9_sort_108 | skip
              refine ok_bx (fun x4_109_5 e_x4_109_5 => ?_)
              try have t_x4_109_5 : x4_109_5.toInt = y4_28.toInt + 0 := by rw [e_x4_109_5]; exact addT1 (show (0 : Int32).toInt = 0 from by decide) (by omega) (by omega)
              refine ok_bx (fun x5_111_5 e_x5_111_5 => ?_)
              try have t_x5_111_5 : x5_111_5.toInt = y5_28.toInt + 1 := by rw [e_x5_111_5]; exact addT1 (show (1 : Int32).toInt = 1 from by decide) (by omega) (by omega)
              exact hih11 x4_109_5 x5_111_5 (show 0 ≤ x5_111_5.toInt ∧ 0 ≤ x4_109_5.toInt ∧ x4_109_5.toInt ≤ x5_111_5.toInt ∧ x5_111_5.toInt ≤ c_t_many.toInt ∧ (y3_14.toInt < x5_111_5.toInt → x4_109_5.toInt ≤ x5_111_5.toInt - 1) from by first | omega | assumption | trivial | (refine ⟨?_, ?_⟩ <;> first | omega | assumption | trivial | rfl) | (refine ⟨?_, ?_, ?_⟩ <;> first | omega | assumption | trivial | rfl) | (refine ⟨?_, ?_, ?_, ?_⟩ <;> first | omega | assumption | trivial | rfl) | (refine ⟨?_, ?_, ?_, ?_, ?_⟩ <;> first | omega | assumption | trivial | rfl) | (refine ⟨?_, ?_, ?_, ?_, ?_, ?_⟩ <;> first | omega | assumption | trivial | rfl) | (refine ⟨?_, ?_, ?_, ?_, ?_, ?_, ?_⟩ <;> first | omega | assumption | trivial | rfl) | (refine ⟨?_, ?_, ?_, ?_, ?_, ?_, ?_, ?_⟩ <;> first | omega | assumption | trivial | rfl)) (show (c_t_many.toInt - x5_111_5.toInt + 1).toNat < (c_t_many.toInt - y5_28.toInt + 1).toNat from by omega)
            · first | unfold J_X9_sort_103 | skip
              first | unfold J_X9_sort_108 | skip
              refine ok_bx (fun x4_109_6 e_x4_109_6 => ?_)
              try have t_x4_109_6 : x4_109_6.toInt = y4_28.toInt + 1 := by rw [e_x4_109_6]; exact addT1 (show (1 : Int32).toInt = 1 from by decide) (by omega) (by omega)
              refine ok_bx (fun x5_111_6 e_x5_111_6 => ?_)
              try have t_x5_111_6 : x5_111_6.toInt = y5_28.toInt + 1 := by rw [e_x5_111_6]; exact addT1 (show (1 : Int32).toInt = 1 from by decide) (by omega) (by omega)
              exact hih11 x4_109_6 x5_111_6 (show 0 ≤ x5_111_6.toInt ∧ 0 ≤ x4_109_6.toInt ∧ x4_109_6.toInt ≤ x5_111_6.toInt ∧ x5_111_6.toInt ≤ c_t_many.toInt ∧ (y3_14.toInt < x5_111_6.toInt → x4_109_6.toInt ≤ x5_111_6.toInt - 1) from by first | omega | assumption | trivial | (refine ⟨?_, ?_⟩ <;> first | omega | assumption | trivial | rfl) | (refine ⟨?_, ?_, ?_⟩ <;> first | omega | assumption | trivial | rfl) | (refine ⟨?_, ?_, ?_, ?_⟩ <;> first | omega | assumption | trivial | rfl) | (refine ⟨?_, ?_, ?_, ?_, ?_⟩ <;> first | omega | assumption | trivial | rfl) | (refine ⟨?_, ?_, ?_, ?_, ?_, ?_⟩ <;> first | omega | assumption | trivial | rfl) | (refine ⟨?_, ?_, ?_, ?_, ?_, ?_, ?_⟩ <;> first | omega | assumption | trivial | rfl) | (refine ⟨?_, ?_, ?_, ?_, ?_, ?_, ?_, ?_⟩ <;> first | omega | assumption | trivial | rfl)) (show (c_t_many.toInt - x5_111_6.toInt + 1).toNat < (c_t_many.toInt - y5_28.toInt + 1).toNat from by omega)
          · first | unfold J_X9_sort_107 | skip
            first | unfold J_X9_sort_108 | skip
            refine ok_bx (fun x4_109_7 e_x4_109_7 => ?_)
            try have t_x4_109_7 : x4_109_7.toInt = y4_28.toInt + 0 := by rw [e_x4_109_7]; exact addT1 (show (0 : Int32).toInt = 0 from by decide) (by omega) (by omega)
            refine ok_bx (fun x5_111_7 e_x5_111_7 => ?_)
            try have t_x5_111_7 : x5_111_7.toInt = y5_28.toInt + 1 := by rw [e_x5_111_7]; exact addT1 (show (1 : Int32).toInt = 1 from by decide) (by omega) (by omega)
            exact hih11 x4_109_7 x5_111_7 (show 0 ≤ x5_111_7.toInt ∧ 0 ≤ x4_109_7.toInt ∧ x4_109_7.toInt ≤ x5_111_7.toInt ∧ x5_111_7.toInt ≤ c_t_many.toInt ∧ (y3_14.toInt < x5_111_7.toInt → x4_109_7.toInt ≤ x5_111_7.toInt - 1) from by first | omega | assumption | trivial | (refine ⟨?_, ?_⟩ <;> first | omega | assumption | trivial | rfl) | (refine ⟨?_, ?_, ?_⟩ <;> first | omega | assumption | trivial | rfl) | (refine ⟨?_, ?_, ?_, ?_⟩ <;> first | omega | assumption | trivial | rfl) | (refine ⟨?_, ?_, ?_, ?_, ?_⟩ <;> first | omega | assumption | trivial | rfl) | (refine ⟨?_, ?_, ?_, ?_, ?_, ?_⟩ <;> first | omega | assumption | trivial | rfl) | (refine ⟨?_, ?_, ?_, ?_, ?_, ?_, ?_⟩ <;> first | omega | assumption | trivial | rfl) | (refine ⟨?_, ?_, ?_, ?_, ?_, ?_, ?_, ?_⟩ <;> first | omega | assumption | trivial | rfl)) (show (c_t_many.toInt - x5_111_7.toInt + 1).toNat < (c_t_many.toInt - y5_28.toInt + 1).toNat from by omega)
        · first | unfold J_X9_sort_103 | skip
          first | unfold J_X9_sort_108 | skip
          refine ok_bx (fun x4_109_8 e_x4_109_8 => ?_)
          try have t_x4_109_8 : x4_109_8.toInt = y4_28.toInt + 1 := by rw [e_x4_109_8]; exact addT1 (show (1 : Int32).toInt = 1 from by decide) (by omega) (by omega)
          refine ok_bx (fun x5_111_8 e_x5_111_8 => ?_)
          try have t_x5_111_8 : x5_111_8.toInt = y5_28.toInt + 1 := by rw [e_x5_111_8]; exact addT1 (show (1 : Int32).toInt = 1 from by decide) (by omega) (by omega)
          exact hih11 x4_109_8 x5_111_8 (show 0 ≤ x5_111_8.toInt ∧ 0 ≤ x4_109_8.toInt ∧ x4_109_8.toInt ≤ x5_111_8.toInt ∧ x5_111_8.toInt ≤ c_t_many.toInt ∧ (y3_14.toInt < x5_111_8.toInt → x4_109_8.toInt ≤ x5_111_8.toInt - 1) from by first | omega | assumption | trivial | (refine ⟨?_, ?_⟩ <;> first | omega | assumption | trivial | rfl) | (refine ⟨?_, ?_, ?_⟩ <;> first | omega | assumption | trivial | rfl) | (refine ⟨?_, ?_, ?_, ?_⟩ <;> first | omega | assumption | trivial | rfl) | (refine ⟨?_, ?_, ?_, ?_, ?_⟩ <;> first | omega | assumption | trivial | rfl) | (refine ⟨?_, ?_, ?_, ?_, ?_, ?_⟩ <;> first | omega | assumption | trivial | rfl) | (refine ⟨?_, ?_, ?_, ?_, ?_, ?_, ?_⟩ <;> first | omega | assumption | trivial | rfl) | (refine ⟨?_, ?_, ?_, ?_, ?_, ?_, ?_, ?_⟩ <;> first | omega | assumption | trivial | rfl)) (show (c_t_many.toInt - x5_111_8.toInt + 1).toNat < (c_t_many.toInt - y5_28.toInt + 1).toNat from by omega)
set_option maxHeartbeats 1000000 in
theorem sp_X9_turnAll (c_t_many : Int32) (c_t_acts : Int32) (f_t_roll : Nat → Int64) (hp0 : 0 ≤ c_t_many.toInt) (hp1 : c_t_many.toInt ≤ 12) (hp2 : FA f_t_roll) : ok (F_X9_turnAll c_t_many c_t_acts f_t_roll) (fun r => FA r.2.2.2) := by
  have l032 : (0 : Int32).toInt = 0 := by decide
  have l132 : (1 : Int32).toInt = 1 := by decide
  unfold F_X9_turnAll
  refine ok_L3 (fun y1_9 y2_9 f_t_roll_9 => 0 ≤ y2_9.toInt ∧ FA f_t_roll_9) (fun y1_9 y2_9 f_t_roll_9 => (c_t_many.toInt - y2_9.toInt + 1).toNat) (fun ih9 y1_9 y2_9 f_t_roll_9 hI1 hih1 => ?_) 20000 (0 : Int32) (0 : Int32) f_t_roll (show 0 ≤ (0 : Int32).toInt ∧ FA f_t_roll from by first | omega | assumption | trivial | (refine ⟨?_, ?_⟩ <;> first | omega | assumption | trivial | rfl) | (refine ⟨?_, ?_, ?_⟩ <;> first | omega | assumption | trivial | rfl) | (refine ⟨?_, ?_, ?_, ?_⟩ <;> first | omega | assumption | trivial | rfl) | (refine ⟨?_, ?_, ?_, ?_, ?_⟩ <;> first | omega | assumption | trivial | rfl) | (refine ⟨?_, ?_, ?_, ?_, ?_, ?_⟩ <;> first | omega | assumption | trivial | rfl) | (refine ⟨?_, ?_, ?_, ?_, ?_, ?_, ?_⟩ <;> first | omega | assumption | trivial | rfl) | (refine ⟨?_, ?_, ?_, ?_, ?_, ?_, ?_, ?_⟩ <;> first | omega | assumption | trivial | rfl)) (show (c_t_many.toInt - (0 : Int32).toInt + 1).toNat < 20000 from by omega)
  have hI1 : 0 ≤ y2_9.toInt ∧ FA f_t_roll_9 := hI1
  obtain ⟨hI1_0, hI1_1⟩ := hI1
  unfold S_X9_turnAll_9
  refine ok_le (fun c2 => ?_) (fun c2 => ?_)
  · refine ok_o2 (sp_X9_done c_t_acts y1_9 ) (fun r61 c_t_acts_61 h3 => ?_)
    exact ok_s (show FA f_t_roll_9 from by first | omega | assumption | trivial | (refine ⟨?_, ?_⟩ <;> first | omega | assumption | trivial | rfl) | (refine ⟨?_, ?_, ?_⟩ <;> first | omega | assumption | trivial | rfl) | (refine ⟨?_, ?_, ?_, ?_⟩ <;> first | omega | assumption | trivial | rfl) | (refine ⟨?_, ?_, ?_, ?_, ?_⟩ <;> first | omega | assumption | trivial | rfl) | (refine ⟨?_, ?_, ?_, ?_, ?_, ?_⟩ <;> first | omega | assumption | trivial | rfl) | (refine ⟨?_, ?_, ?_, ?_, ?_, ?_, ?_⟩ <;> first | omega | assumption | trivial | rfl) | (refine ⟨?_, ?_, ?_, ?_, ?_, ?_, ?_, ?_⟩ <;> first | omega | assumption | trivial | rfl))
  · refine ok_c (ixo (by omega) (by omega)) ?_
    try have a4 := FA_at (f := f_t_roll_9) (by assumption) y2_9.toNatClampNeg
    refine ok_o (sp_X9_turnedOf (f_t_roll_9 y2_9.toNatClampNeg) (by first | omega | assumption | trivial | exact wt_of (by assumption) (by omega))) (fun r23 h5 => ?_)
    have h5 : DG r23 ≤ 39 := h5
    refine ok_c (ixo (by omega) (by omega)) ?_
    try have a7 := FA_at (f := f_t_roll_9) (by assumption) y2_9.toNatClampNeg
    refine ok_eqL (fun c6 => ?_) (fun c6 => ?_)
    · refine ok_bx (fun x1_45 e_x1_45 => ?_)
      try have t_x1_45 : x1_45.toInt = y1_9.toInt + 0 := by rw [e_x1_45]; exact addT1 (show (0 : Int32).toInt = 0 from by decide) (by omega) (by omega)
      refine ok_c (ixo (by omega) (by omega)) ?_
      refine ok_bx (fun f_t_roll_52 e_f_t_roll_52 => ?_)
      try have t_f_t_roll_52 : FA f_t_roll_52 := by rw [e_f_t_roll_52]; exact FA_upd (by first | assumption | exact FA_0) _ (by first | omega | assumption | trivial)
      refine ok_bx (fun x2_53 e_x2_53 => ?_)
      try have t_x2_53 : x2_53.toInt = y2_9.toInt + 1 := by rw [e_x2_53]; exact addT1 (show (1 : Int32).toInt = 1 from by decide) (by omega) (by omega)
      exact hih1 x1_45 x2_53 f_t_roll_52 (show 0 ≤ x2_53.toInt ∧ FA f_t_roll_52 from by first | omega | assumption | trivial | (refine ⟨?_, ?_⟩ <;> first | omega | assumption | trivial | rfl) | (refine ⟨?_, ?_, ?_⟩ <;> first | omega | assumption | trivial | rfl) | (refine ⟨?_, ?_, ?_, ?_⟩ <;> first | omega | assumption | trivial | rfl) | (refine ⟨?_, ?_, ?_, ?_, ?_⟩ <;> first | omega | assumption | trivial | rfl) | (refine ⟨?_, ?_, ?_, ?_, ?_, ?_⟩ <;> first | omega | assumption | trivial | rfl) | (refine ⟨?_, ?_, ?_, ?_, ?_, ?_, ?_⟩ <;> first | omega | assumption | trivial | rfl) | (refine ⟨?_, ?_, ?_, ?_, ?_, ?_, ?_, ?_⟩ <;> first | omega | assumption | trivial | rfl)) (show (c_t_many.toInt - x2_53.toInt + 1).toNat < (c_t_many.toInt - y2_9.toInt + 1).toNat from by omega)
    · refine ok_bx (fun x1_45_2 e_x1_45_2 => ?_)
      try have t_x1_45_2 : x1_45_2.toInt = y1_9.toInt + 1 := by rw [e_x1_45_2]; exact addT1 (show (1 : Int32).toInt = 1 from by decide) (by omega) (by omega)
      refine ok_c (ixo (by omega) (by omega)) ?_
      refine ok_bx (fun f_t_roll_52_2 e_f_t_roll_52_2 => ?_)
      try have t_f_t_roll_52_2 : FA f_t_roll_52_2 := by rw [e_f_t_roll_52_2]; exact FA_upd (by first | assumption | exact FA_0) _ (by first | omega | assumption | trivial)
      refine ok_bx (fun x2_53_2 e_x2_53_2 => ?_)
      try have t_x2_53_2 : x2_53_2.toInt = y2_9.toInt + 1 := by rw [e_x2_53_2]; exact addT1 (show (1 : Int32).toInt = 1 from by decide) (by omega) (by omega)
      exact hih1 x1_45_2 x2_53_2 f_t_roll_52_2 (show 0 ≤ x2_53_2.toInt ∧ FA f_t_roll_52_2 from by first | omega | assumption | trivial | (refine ⟨?_, ?_⟩ <;> first | omega | assumption | trivial | rfl) | (refine ⟨?_, ?_, ?_⟩ <;> first | omega | assumption | trivial | rfl) | (refine ⟨?_, ?_, ?_, ?_⟩ <;> first | omega | assumption | trivial | rfl) | (refine ⟨?_, ?_, ?_, ?_, ?_⟩ <;> first | omega | assumption | trivial | rfl) | (refine ⟨?_, ?_, ?_, ?_, ?_, ?_⟩ <;> first | omega | assumption | trivial | rfl) | (refine ⟨?_, ?_, ?_, ?_, ?_, ?_, ?_⟩ <;> first | omega | assumption | trivial | rfl) | (refine ⟨?_, ?_, ?_, ?_, ?_, ?_, ?_, ?_⟩ <;> first | omega | assumption | trivial | rfl)) (show (c_t_many.toInt - x2_53_2.toInt + 1).toNat < (c_t_many.toInt - y2_9.toInt + 1).toNat from by omega)
set_option maxHeartbeats 1000000 in
theorem sp_X9_take (c_t_many : Int32) (c_t_acts : Int32) (f_t_forms : Nat → Int64) (f_t_roll : Nat → Int64) (p0 : Int32) (p1 : Int32) (hp0 : 0 ≤ c_t_many.toInt) (hp1 : c_t_many.toInt ≤ 12) (hp2 : FA f_t_forms) (hp3 : FA f_t_roll) : ok (F_X9_take c_t_many c_t_acts f_t_forms f_t_roll p0 p1) (fun r => FA r.2.2.2) := by
  have l032 : (0 : Int32).toInt = 0 := by decide
  have l132 : (1 : Int32).toInt = 1 := by decide
  unfold F_X9_take
  refine ok_lt (fun c1 => ?_) (fun c1 => ?_)
  · refine ok_o2 (sp_X9_isThrown_ (1 : Int32) ) (fun r25 c_t_thrown_25 h2 => ?_)
    have h2 : (r25.toInt = 0 ∧ c_t_thrown_25.toInt = 0 ∧ (1 : Int32).toInt = 0) ∨ (r25.toInt = 1 ∧ c_t_thrown_25.toInt = 1 ∧ (1 : Int32).toInt ≠ 0) := h2
    refine ok_eq (fun c3 => ?_) (fun c3 => ?_)
    · exfalso; omega
    · exact ok_s (show FA f_t_forms from by first | omega | assumption | trivial | (refine ⟨?_, ?_⟩ <;> first | omega | assumption | trivial | rfl) | (refine ⟨?_, ?_, ?_⟩ <;> first | omega | assumption | trivial | rfl) | (refine ⟨?_, ?_, ?_, ?_⟩ <;> first | omega | assumption | trivial | rfl) | (refine ⟨?_, ?_, ?_, ?_, ?_⟩ <;> first | omega | assumption | trivial | rfl) | (refine ⟨?_, ?_, ?_, ?_, ?_, ?_⟩ <;> first | omega | assumption | trivial | rfl) | (refine ⟨?_, ?_, ?_, ?_, ?_, ?_, ?_⟩ <;> first | omega | assumption | trivial | rfl) | (refine ⟨?_, ?_, ?_, ?_, ?_, ?_, ?_, ?_⟩ <;> first | omega | assumption | trivial | rfl))
  · refine ok_le (fun c4 => ?_) (fun c4 => ?_)
    · refine ok_o2 (sp_X9_isThrown_ (1 : Int32) ) (fun r25_2 c_t_thrown_25_2 h5 => ?_)
      have h5 : (r25_2.toInt = 0 ∧ c_t_thrown_25_2.toInt = 0 ∧ (1 : Int32).toInt = 0) ∨ (r25_2.toInt = 1 ∧ c_t_thrown_25_2.toInt = 1 ∧ (1 : Int32).toInt ≠ 0) := h5
      refine ok_eq (fun c6 => ?_) (fun c6 => ?_)
      · exfalso; omega
      · exact ok_s (show FA f_t_forms from by first | omega | assumption | trivial | (refine ⟨?_, ?_⟩ <;> first | omega | assumption | trivial | rfl) | (refine ⟨?_, ?_, ?_⟩ <;> first | omega | assumption | trivial | rfl) | (refine ⟨?_, ?_, ?_, ?_⟩ <;> first | omega | assumption | trivial | rfl) | (refine ⟨?_, ?_, ?_, ?_, ?_⟩ <;> first | omega | assumption | trivial | rfl) | (refine ⟨?_, ?_, ?_, ?_, ?_, ?_⟩ <;> first | omega | assumption | trivial | rfl) | (refine ⟨?_, ?_, ?_, ?_, ?_, ?_, ?_⟩ <;> first | omega | assumption | trivial | rfl) | (refine ⟨?_, ?_, ?_, ?_, ?_, ?_, ?_, ?_⟩ <;> first | omega | assumption | trivial | rfl))
    · refine ok_o (sp_X9_isForm p1 ) (fun r14 h7 => ?_)
      have h7 : (r14.toInt = 1 ∧ 0 ≤ p1.toInt ∧ p1.toInt ≤ 5) ∨ (r14.toInt = 0 ∧ (p1.toInt < 0 ∨ 6 ≤ p1.toInt)) := h7
      refine ok_eq (fun c8 => ?_) (fun c8 => ?_)
      · refine ok_o2 (sp_X9_isThrown_ (1 : Int32) ) (fun r25_3 c_t_thrown_25_3 h9 => ?_)
        have h9 : (r25_3.toInt = 0 ∧ c_t_thrown_25_3.toInt = 0 ∧ (1 : Int32).toInt = 0) ∨ (r25_3.toInt = 1 ∧ c_t_thrown_25_3.toInt = 1 ∧ (1 : Int32).toInt ≠ 0) := h9
        refine ok_eq (fun c10 => ?_) (fun c10 => ?_)
        · exfalso; omega
        · exact ok_s (show FA f_t_forms from by first | omega | assumption | trivial | (refine ⟨?_, ?_⟩ <;> first | omega | assumption | trivial | rfl) | (refine ⟨?_, ?_, ?_⟩ <;> first | omega | assumption | trivial | rfl) | (refine ⟨?_, ?_, ?_, ?_⟩ <;> first | omega | assumption | trivial | rfl) | (refine ⟨?_, ?_, ?_, ?_, ?_⟩ <;> first | omega | assumption | trivial | rfl) | (refine ⟨?_, ?_, ?_, ?_, ?_, ?_⟩ <;> first | omega | assumption | trivial | rfl) | (refine ⟨?_, ?_, ?_, ?_, ?_, ?_, ?_⟩ <;> first | omega | assumption | trivial | rfl) | (refine ⟨?_, ?_, ?_, ?_, ?_, ?_, ?_, ?_⟩ <;> first | omega | assumption | trivial | rfl))
      · refine ok_o2 (sp_X9_isThrown_ (0 : Int32) ) (fun r25_4 c_t_thrown_25_4 h11 => ?_)
        have h11 : (r25_4.toInt = 0 ∧ c_t_thrown_25_4.toInt = 0 ∧ (0 : Int32).toInt = 0) ∨ (r25_4.toInt = 1 ∧ c_t_thrown_25_4.toInt = 1 ∧ (0 : Int32).toInt ≠ 0) := h11
        refine ok_eq (fun c12 => ?_) (fun c12 => ?_)
        · refine ok_c (ixo (by omega) (by omega)) ?_
          try have a13 := FA_at (f := f_t_roll) (by assumption) p0.toNatClampNeg
          refine ok_o3 (sp_X9_give c_t_acts f_t_forms p1 (f_t_roll p0.toNatClampNeg) (by first | omega | assumption | trivial | exact wt_of (by assumption) (by omega)) (by first | omega | assumption | trivial | exact wt_of (by assumption) (by omega)) (by first | omega | assumption | trivial | exact wt_of (by assumption) (by omega)) (by first | omega | assumption | trivial | exact wt_of (by assumption) (by omega))) (fun r43 c_t_acts_43 f_t_forms_43 h14 => ?_)
          have h14 : FA f_t_forms_43 := h14
          exact ok_s (show FA f_t_forms_43 from by first | omega | assumption | trivial | (refine ⟨?_, ?_⟩ <;> first | omega | assumption | trivial | rfl) | (refine ⟨?_, ?_, ?_⟩ <;> first | omega | assumption | trivial | rfl) | (refine ⟨?_, ?_, ?_, ?_⟩ <;> first | omega | assumption | trivial | rfl) | (refine ⟨?_, ?_, ?_, ?_, ?_⟩ <;> first | omega | assumption | trivial | rfl) | (refine ⟨?_, ?_, ?_, ?_, ?_, ?_⟩ <;> first | omega | assumption | trivial | rfl) | (refine ⟨?_, ?_, ?_, ?_, ?_, ?_, ?_⟩ <;> first | omega | assumption | trivial | rfl) | (refine ⟨?_, ?_, ?_, ?_, ?_, ?_, ?_, ?_⟩ <;> first | omega | assumption | trivial | rfl))
        · exfalso; omega
set_option maxHeartbeats 1000000 in
theorem sp_X9_product (c_t_many : Int32) (c_t_acts : Int32) (c_t_refused : Int32) (c_t_thrown : Int32) (f_t_forms : Nat → Int64) (f_t_roll : Nat → Int64) (p0 : Int32) (hp0 : 0 ≤ c_t_many.toInt) (hp1 : c_t_many.toInt ≤ 12) (hp2 : FA f_t_forms) (hp3 : FA f_t_roll) : ok (F_X9_product c_t_many c_t_acts c_t_refused c_t_thrown f_t_forms f_t_roll p0) (fun r => FA r.2.2.2.2) := by
  have l032 : (0 : Int32).toInt = 0 := by decide
  have l064 : (0 : Int64).toInt = 0 := by decide
  have l132 : (1 : Int32).toInt = 1 := by decide
  have l164 : (1 : Int64).toInt = 1 := by decide
  have l4032 : (40 : Int32).toInt = 40 := by decide
  unfold F_X9_product
  refine ok_o (sp_X9_isForm p0 ) (fun r2 h1 => ?_)
  have h1 : (r2.toInt = 1 ∧ 0 ≤ p0.toInt ∧ p0.toInt ≤ 5) ∨ (r2.toInt = 0 ∧ (p0.toInt < 0 ∨ 6 ≤ p0.toInt)) := h1
  refine ok_eq (fun c2 => ?_) (fun c2 => ?_)
  · first | unfold J_X9_product_13 | skip
    refine ok_o2 (sp_X9_isThrown_ (1 : Int32) ) (fun r13 c_t_thrown_13 h3 => ?_)
    have h3 : (r13.toInt = 0 ∧ c_t_thrown_13.toInt = 0 ∧ (1 : Int32).toInt = 0) ∨ (r13.toInt = 1 ∧ c_t_thrown_13.toInt = 1 ∧ (1 : Int32).toInt ≠ 0) := h3
    refine ok_eq (fun c4 => ?_) (fun c4 => ?_)
    · exfalso; omega
    · exact ok_s (show FA f_t_forms from by first | omega | assumption | trivial | (refine ⟨?_, ?_⟩ <;> first | omega | assumption | trivial | rfl) | (refine ⟨?_, ?_, ?_⟩ <;> first | omega | assumption | trivial | rfl) | (refine ⟨?_, ?_, ?_, ?_⟩ <;> first | omega | assumption | trivial | rfl) | (refine ⟨?_, ?_, ?_, ?_, ?_⟩ <;> first | omega | assumption | trivial | rfl) | (refine ⟨?_, ?_, ?_, ?_, ?_, ?_⟩ <;> first | omega | assumption | trivial | rfl) | (refine ⟨?_, ?_, ?_, ?_, ?_, ?_, ?_⟩ <;> first | omega | assumption | trivial | rfl) | (refine ⟨?_, ?_, ?_, ?_, ?_, ?_, ?_, ?_⟩ <;> first | omega | assumption | trivial | rfl))
  · first | unfold J_X9_product_13 | skip
    refine ok_o2 (sp_X9_isThrown_ (0 : Int32) ) (fun r13_2 c_t_thrown_13_2 h5 => ?_)
    have h5 : (r13_2.toInt = 0 ∧ c_t_thrown_13_2.toInt = 0 ∧ (0 : Int32).toInt = 0) ∨ (r13_2.toInt = 1 ∧ c_t_thrown_13_2.toInt = 1 ∧ (0 : Int32).toInt ≠ 0) := h5
    refine ok_eq (fun c6 => ?_) (fun c6 => ?_)
    · refine pd_1 _ c_t_many f_t_roll (by assumption) (by omega) (by omega) (fun y2_28_76 y3_28_76 HPD => ?_)
      have HJ : (y3_28_76.toInt = 0 ∧ y2_28_76.toInt = SD f_t_roll c_t_many.toInt.toNat) ∨ y3_28_76.toInt = 1 := HPD.elim (fun h => Or.inl ⟨by rw [h.1]; rfl, h.2.1⟩) (fun h => Or.inr (by rw [h]; rfl))
      refine ok_eq (fun c8 => ?_) (fun c8 => ?_)
      · refine ok_lt (fun c9 => ?_) (fun c9 => ?_)
        · first | unfold J_X9_product_91 | skip
          refine ok_eq (fun c10 => ?_) (fun c10 => ?_)
          · first | unfold J_X9_product_100 | skip
            refine pd_2 _ (fun y4_105_138 hI11 => ?_) c_t_many f_t_roll y3_28_76 _ (by assumption) (by omega) (by omega) (by first | exact pd_he0 HPD (by omega) (by omega) | exact pd_he1 HPD (by omega))
            refine ok_o3 (sp_X9_give c_t_acts f_t_forms p0 y4_105_138 (by first | omega | assumption | trivial | exact wt_of (by assumption) (by omega)) (by first | omega | assumption | trivial | exact wt_of (by assumption) (by omega)) (by first | omega | assumption | trivial | exact wt_of (by assumption) (by omega)) (by first | omega | assumption | trivial | exact wt_of (by assumption) (by omega))) (fun r142 c_t_acts_142 f_t_forms_142 h12 => ?_)
            have h12 : FA f_t_forms_142 := h12
            exact ok_s (show FA f_t_forms_142 from by first | omega | assumption | trivial | (refine ⟨?_, ?_⟩ <;> first | omega | assumption | trivial | rfl) | (refine ⟨?_, ?_, ?_⟩ <;> first | omega | assumption | trivial | rfl) | (refine ⟨?_, ?_, ?_, ?_⟩ <;> first | omega | assumption | trivial | rfl) | (refine ⟨?_, ?_, ?_, ?_, ?_⟩ <;> first | omega | assumption | trivial | rfl) | (refine ⟨?_, ?_, ?_, ?_, ?_, ?_⟩ <;> first | omega | assumption | trivial | rfl) | (refine ⟨?_, ?_, ?_, ?_, ?_, ?_, ?_⟩ <;> first | omega | assumption | trivial | rfl) | (refine ⟨?_, ?_, ?_, ?_, ?_, ?_, ?_, ?_⟩ <;> first | omega | assumption | trivial | rfl))
          · exfalso; omega
        · refine ok_o2 (sp_X9_no c_t_refused ) (fun r87 c_t_refused_87 h13 => ?_)
          exact ok_s (show FA f_t_forms from by first | omega | assumption | trivial | (refine ⟨?_, ?_⟩ <;> first | omega | assumption | trivial | rfl) | (refine ⟨?_, ?_, ?_⟩ <;> first | omega | assumption | trivial | rfl) | (refine ⟨?_, ?_, ?_, ?_⟩ <;> first | omega | assumption | trivial | rfl) | (refine ⟨?_, ?_, ?_, ?_, ?_⟩ <;> first | omega | assumption | trivial | rfl) | (refine ⟨?_, ?_, ?_, ?_, ?_, ?_⟩ <;> first | omega | assumption | trivial | rfl) | (refine ⟨?_, ?_, ?_, ?_, ?_, ?_, ?_⟩ <;> first | omega | assumption | trivial | rfl) | (refine ⟨?_, ?_, ?_, ?_, ?_, ?_, ?_, ?_⟩ <;> first | omega | assumption | trivial | rfl))
      · first | unfold J_X9_product_91 | skip
        refine ok_eq (fun c14 => ?_) (fun c14 => ?_)
        · exfalso; omega
        · first | unfold J_X9_product_100 | skip
          refine pd_2 _ (fun y4_105_138_2 hI15 => ?_) c_t_many f_t_roll y3_28_76 _ (by assumption) (by omega) (by omega) (by first | exact pd_he0 HPD (by omega) (by omega) | exact pd_he1 HPD (by omega))
          refine ok_o3 (sp_X9_give c_t_acts f_t_forms p0 y4_105_138_2 (by first | omega | assumption | trivial | exact wt_of (by assumption) (by omega)) (by first | omega | assumption | trivial | exact wt_of (by assumption) (by omega)) (by first | omega | assumption | trivial | exact wt_of (by assumption) (by omega)) (by first | omega | assumption | trivial | exact wt_of (by assumption) (by omega))) (fun r142_2 c_t_acts_142_2 f_t_forms_142_2 h16 => ?_)
          have h16 : FA f_t_forms_142_2 := h16
          exact ok_s (show FA f_t_forms_142_2 from by first | omega | assumption | trivial | (refine ⟨?_, ?_⟩ <;> first | omega | assumption | trivial | rfl) | (refine ⟨?_, ?_, ?_⟩ <;> first | omega | assumption | trivial | rfl) | (refine ⟨?_, ?_, ?_, ?_⟩ <;> first | omega | assumption | trivial | rfl) | (refine ⟨?_, ?_, ?_, ?_, ?_⟩ <;> first | omega | assumption | trivial | rfl) | (refine ⟨?_, ?_, ?_, ?_, ?_, ?_⟩ <;> first | omega | assumption | trivial | rfl) | (refine ⟨?_, ?_, ?_, ?_, ?_, ?_, ?_⟩ <;> first | omega | assumption | trivial | rfl) | (refine ⟨?_, ?_, ?_, ?_, ?_, ?_, ?_, ?_⟩ <;> first | omega | assumption | trivial | rfl))
    · exfalso; omega
set_option maxHeartbeats 1000000 in
theorem sp_X9_start (c_t_taps : Int64) (c_t_cells : Int32) (c_t_acts : Int32) (c_t_refused : Int32) (f_t_forms : Nat → Int64) (p0 : Int32) (hp0 : FA f_t_forms) (hp1 : CT c_t_taps c_t_cells) : ok (F_X9_start c_t_taps c_t_cells c_t_acts c_t_refused f_t_forms p0) (fun r => CT r.2.1 r.2.2.1) := by
  have l032 : (0 : Int32).toInt = 0 := by decide
  have l132 : (1 : Int32).toInt = 1 := by decide
  unfold F_X9_start
  refine ok_o (sp_X9_isForm p0 ) (fun r2 h1 => ?_)
  have h1 : (r2.toInt = 1 ∧ 0 ≤ p0.toInt ∧ p0.toInt ≤ 5) ∨ (r2.toInt = 0 ∧ (p0.toInt < 0 ∨ 6 ≤ p0.toInt)) := h1
  refine ok_eq (fun c2 => ?_) (fun c2 => ?_)
  · refine ok_o2 (sp_X9_isThrown_ (1 : Int32) ) (fun r13 c_t_thrown_13 h3 => ?_)
    have h3 : (r13.toInt = 0 ∧ c_t_thrown_13.toInt = 0 ∧ (1 : Int32).toInt = 0) ∨ (r13.toInt = 1 ∧ c_t_thrown_13.toInt = 1 ∧ (1 : Int32).toInt ≠ 0) := h3
    refine ok_eq (fun c4 => ?_) (fun c4 => ?_)
    · exfalso; omega
    · exact ok_s (show CT c_t_taps c_t_cells from by first | assumption | (subst_vars; exact CT_begin (wt_of (by assumption) (by omega)) (by omega)))
  · refine ok_o2 (sp_X9_isThrown_ (0 : Int32) ) (fun r13_2 c_t_thrown_13_2 h5 => ?_)
    have h5 : (r13_2.toInt = 0 ∧ c_t_thrown_13_2.toInt = 0 ∧ (0 : Int32).toInt = 0) ∨ (r13_2.toInt = 1 ∧ c_t_thrown_13_2.toInt = 1 ∧ (0 : Int32).toInt ≠ 0) := h5
    refine ok_eq (fun c6 => ?_) (fun c6 => ?_)
    · refine ok_c (ixo (by omega) (by omega)) ?_
      try have a7 := FA_at (f := f_t_forms) (by assumption) p0.toNatClampNeg
      refine ok_o (sp_X9_isWheel (f_t_forms p0.toNatClampNeg) ) (fun r27 h8 => ?_)
      have h8 : (r27.toInt = 0 ∨ r27.toInt = 1) ∧ (r27.toInt ≠ 0 → WT (f_t_forms p0.toNatClampNeg)) := h8
      obtain ⟨h8_0, h8_1⟩ := h8
      refine ok_eq (fun c9 => ?_) (fun c9 => ?_)
      · refine ok_o2 (sp_X9_no c_t_refused ) (fun r34 c_t_refused_34 h10 => ?_)
        exact ok_s (show CT c_t_taps c_t_cells from by first | assumption | (subst_vars; exact CT_begin (wt_of (by assumption) (by omega)) (by omega)))
      · refine ok_c (ixo (by omega) (by omega)) ?_
        try have a11 := FA_at (f := f_t_forms) (by assumption) p0.toNatClampNeg
        refine ok_bx (fun c_t_taps_45 e_c_t_taps_45 => ?_)
        try have q_c_t_taps_45 : DG c_t_taps_45 = DG (f_t_forms p0.toNatClampNeg) := by rw [e_c_t_taps_45]
        try have d_c_t_taps_45 : -1 ≤ DG c_t_taps_45 ∧ DG c_t_taps_45 ≤ 39 := by rw [e_c_t_taps_45]; exact FA_at (by assumption) _
        refine ok_o (sp_X9_degreeOf c_t_taps_45 ) (fun r54 h12 => ?_)
        have h12 : r54.toInt = DG c_t_taps_45 ∧ -1 ≤ r54.toInt ∧ r54.toInt ≤ 63 := h12
        refine ok_bx (fun c_t_cells_60 e_c_t_cells_60 => ?_)
        refine ok_o (sp_X9_degreeOf c_t_taps_45 ) (fun r68 h13 => ?_)
        have h13 : r68.toInt = DG c_t_taps_45 ∧ -1 ≤ r68.toInt ∧ r68.toInt ≤ 63 := h13
        refine ok_o2 (sp_X9_done c_t_acts r68 ) (fun r71 c_t_acts_71 h14 => ?_)
        exact ok_s (show CT c_t_taps_45 c_t_cells_60 from by first | assumption | (subst_vars; exact CT_begin (wt_of (by assumption) (by omega)) (by omega)))
    · exfalso; omega
set_option maxHeartbeats 1000000 in
theorem sp_X9_step (c_t_taps : Int64) (c_t_cells : Int32) (c_t_acts : Int32) (p0 : Int32) (hp0 : CT c_t_taps c_t_cells) : ok (F_X9_step c_t_taps c_t_cells c_t_acts p0) (fun r => CT c_t_taps r.2.1) := by
  have l032 : (0 : Int32).toInt = 0 := by decide
  have l132 : (1 : Int32).toInt = 1 := by decide
  have l25532 : (255 : Int32).toInt = 255 := by decide
  unfold F_X9_step
  refine ok_lt (fun c1 => ?_) (fun c1 => ?_)
  · refine ok_o2 (sp_X9_isThrown_ (1 : Int32) ) (fun r17 c_t_thrown_17 h2 => ?_)
    have h2 : (r17.toInt = 0 ∧ c_t_thrown_17.toInt = 0 ∧ (1 : Int32).toInt = 0) ∨ (r17.toInt = 1 ∧ c_t_thrown_17.toInt = 1 ∧ (1 : Int32).toInt ≠ 0) := h2
    refine ok_eq (fun c3 => ?_) (fun c3 => ?_)
    · exfalso; omega
    · exact ok_s (show CT c_t_taps c_t_cells from by first | omega | assumption | trivial | (refine ⟨?_, ?_⟩ <;> first | omega | assumption | trivial | rfl) | (refine ⟨?_, ?_, ?_⟩ <;> first | omega | assumption | trivial | rfl) | (refine ⟨?_, ?_, ?_, ?_⟩ <;> first | omega | assumption | trivial | rfl) | (refine ⟨?_, ?_, ?_, ?_, ?_⟩ <;> first | omega | assumption | trivial | rfl) | (refine ⟨?_, ?_, ?_, ?_, ?_, ?_⟩ <;> first | omega | assumption | trivial | rfl) | (refine ⟨?_, ?_, ?_, ?_, ?_, ?_, ?_⟩ <;> first | omega | assumption | trivial | rfl) | (refine ⟨?_, ?_, ?_, ?_, ?_, ?_, ?_, ?_⟩ <;> first | omega | assumption | trivial | rfl))
  · refine ok_le (fun c4 => ?_) (fun c4 => ?_)
    · refine ok_o2 (sp_X9_isThrown_ (0 : Int32) ) (fun r17_2 c_t_thrown_17_2 h5 => ?_)
      have h5 : (r17_2.toInt = 0 ∧ c_t_thrown_17_2.toInt = 0 ∧ (0 : Int32).toInt = 0) ∨ (r17_2.toInt = 1 ∧ c_t_thrown_17_2.toInt = 1 ∧ (0 : Int32).toInt ≠ 0) := h5
      refine ok_eq (fun c6 => ?_) (fun c6 => ?_)
      · refine ok_L3 (fun y2_29 y3_29 c_t_cells_29 => 0 ≤ y3_29.toInt ∧ CT c_t_taps c_t_cells_29) (fun y2_29 y3_29 c_t_cells_29 => (p0.toInt - y3_29.toInt + 1).toNat) (fun ih29 y2_29 y3_29 c_t_cells_29 hI7 hih7 => ?_) 20000 (0 : Int32) (0 : Int32) c_t_cells (show 0 ≤ (0 : Int32).toInt ∧ CT c_t_taps c_t_cells from by first | omega | assumption | trivial | (refine ⟨?_, ?_⟩ <;> first | omega | assumption | trivial | rfl) | (refine ⟨?_, ?_, ?_⟩ <;> first | omega | assumption | trivial | rfl) | (refine ⟨?_, ?_, ?_, ?_⟩ <;> first | omega | assumption | trivial | rfl) | (refine ⟨?_, ?_, ?_, ?_, ?_⟩ <;> first | omega | assumption | trivial | rfl) | (refine ⟨?_, ?_, ?_, ?_, ?_, ?_⟩ <;> first | omega | assumption | trivial | rfl) | (refine ⟨?_, ?_, ?_, ?_, ?_, ?_, ?_⟩ <;> first | omega | assumption | trivial | rfl) | (refine ⟨?_, ?_, ?_, ?_, ?_, ?_, ?_, ?_⟩ <;> first | omega | assumption | trivial | rfl)) (show (p0.toInt - (0 : Int32).toInt + 1).toNat < 20000 from by omega)
        have hI7 : 0 ≤ y3_29.toInt ∧ CT c_t_taps c_t_cells_29 := hI7
        obtain ⟨hI7_0, hI7_1⟩ := hI7
        unfold S_X9_step_29
        refine ok_le (fun c8 => ?_) (fun c8 => ?_)
        · refine ok_o2 (sp_X9_done c_t_acts y2_29 ) (fun r63 c_t_acts_63 h9 => ?_)
          exact ok_s (show CT c_t_taps c_t_cells_29 from by first | omega | assumption | trivial | (refine ⟨?_, ?_⟩ <;> first | omega | assumption | trivial | rfl) | (refine ⟨?_, ?_, ?_⟩ <;> first | omega | assumption | trivial | rfl) | (refine ⟨?_, ?_, ?_, ?_⟩ <;> first | omega | assumption | trivial | rfl) | (refine ⟨?_, ?_, ?_, ?_, ?_⟩ <;> first | omega | assumption | trivial | rfl) | (refine ⟨?_, ?_, ?_, ?_, ?_, ?_⟩ <;> first | omega | assumption | trivial | rfl) | (refine ⟨?_, ?_, ?_, ?_, ?_, ?_, ?_⟩ <;> first | omega | assumption | trivial | rfl) | (refine ⟨?_, ?_, ?_, ?_, ?_, ?_, ?_, ?_⟩ <;> first | omega | assumption | trivial | rfl))
        · refine ok_bx (fun x2_42 e_x2_42 => ?_)
          refine ok_o (sp_X9_next c_t_taps c_t_cells_29 (by first | omega | assumption | trivial | exact wt_of (by assumption) (by omega))) (fun r49 h10 => ?_)
          have h10 : CT c_t_taps r49 := h10
          refine ok_bx (fun x3_55 e_x3_55 => ?_)
          try have t_x3_55 : x3_55.toInt = y3_29.toInt + 1 := by rw [e_x3_55]; exact addT1 (show (1 : Int32).toInt = 1 from by decide) (by omega) (by omega)
          exact hih7 x2_42 x3_55 r49 (show 0 ≤ x3_55.toInt ∧ CT c_t_taps r49 from by first | omega | assumption | trivial | (refine ⟨?_, ?_⟩ <;> first | omega | assumption | trivial | rfl) | (refine ⟨?_, ?_, ?_⟩ <;> first | omega | assumption | trivial | rfl) | (refine ⟨?_, ?_, ?_, ?_⟩ <;> first | omega | assumption | trivial | rfl) | (refine ⟨?_, ?_, ?_, ?_, ?_⟩ <;> first | omega | assumption | trivial | rfl) | (refine ⟨?_, ?_, ?_, ?_, ?_, ?_⟩ <;> first | omega | assumption | trivial | rfl) | (refine ⟨?_, ?_, ?_, ?_, ?_, ?_, ?_⟩ <;> first | omega | assumption | trivial | rfl) | (refine ⟨?_, ?_, ?_, ?_, ?_, ?_, ?_, ?_⟩ <;> first | omega | assumption | trivial | rfl)) (show (p0.toInt - x3_55.toInt + 1).toNat < (p0.toInt - y3_29.toInt + 1).toNat from by omega)
      · exfalso; omega
    · refine ok_o2 (sp_X9_isThrown_ (1 : Int32) ) (fun r17_3 c_t_thrown_17_3 h11 => ?_)
      have h11 : (r17_3.toInt = 0 ∧ c_t_thrown_17_3.toInt = 0 ∧ (1 : Int32).toInt = 0) ∨ (r17_3.toInt = 1 ∧ c_t_thrown_17_3.toInt = 1 ∧ (1 : Int32).toInt ≠ 0) := h11
      refine ok_eq (fun c12 => ?_) (fun c12 => ?_)
      · exfalso; omega
      · exact ok_s (show CT c_t_taps c_t_cells from by first | omega | assumption | trivial | (refine ⟨?_, ?_⟩ <;> first | omega | assumption | trivial | rfl) | (refine ⟨?_, ?_, ?_⟩ <;> first | omega | assumption | trivial | rfl) | (refine ⟨?_, ?_, ?_, ?_⟩ <;> first | omega | assumption | trivial | rfl) | (refine ⟨?_, ?_, ?_, ?_, ?_⟩ <;> first | omega | assumption | trivial | rfl) | (refine ⟨?_, ?_, ?_, ?_, ?_, ?_⟩ <;> first | omega | assumption | trivial | rfl) | (refine ⟨?_, ?_, ?_, ?_, ?_, ?_, ?_⟩ <;> first | omega | assumption | trivial | rfl) | (refine ⟨?_, ?_, ?_, ?_, ?_, ?_, ?_, ?_⟩ <;> first | omega | assumption | trivial | rfl))
set_option maxHeartbeats 1000000 in
theorem sp_X9_load (c_t_taps : Int64) (c_t_cells : Int32) (c_t_acts : Int32) (c_t_refused : Int32) (p0 : Int32) (hp0 : CT c_t_taps c_t_cells) : ok (F_X9_load c_t_taps c_t_cells c_t_acts c_t_refused p0) (fun r => CT c_t_taps r.2.1) := by
  have l032 : (0 : Int32).toInt = 0 := by decide
  have l132 : (1 : Int32).toInt = 1 := by decide
  have l25532 : (255 : Int32).toInt = 255 := by decide
  have hct := CT_g hp0
  unfold F_X9_load
  refine ok_lt (fun c1 => ?_) (fun c1 => ?_)
  · refine ok_o2 (sp_X9_isThrown_ (1 : Int32) ) (fun r17 c_t_thrown_17 h2 => ?_)
    have h2 : (r17.toInt = 0 ∧ c_t_thrown_17.toInt = 0 ∧ (1 : Int32).toInt = 0) ∨ (r17.toInt = 1 ∧ c_t_thrown_17.toInt = 1 ∧ (1 : Int32).toInt ≠ 0) := h2
    refine ok_eq (fun c3 => ?_) (fun c3 => ?_)
    · exfalso; omega
    · exact ok_s (show CT c_t_taps c_t_cells from by first | assumption | exact CT_load (by assumption) (by assumption) (by omega) (by omega) (by omega))
  · refine ok_le (fun c4 => ?_) (fun c4 => ?_)
    · refine ok_o2 (sp_X9_isThrown_ (0 : Int32) ) (fun r17_2 c_t_thrown_17_2 h5 => ?_)
      have h5 : (r17_2.toInt = 0 ∧ c_t_thrown_17_2.toInt = 0 ∧ (0 : Int32).toInt = 0) ∨ (r17_2.toInt = 1 ∧ c_t_thrown_17_2.toInt = 1 ∧ (0 : Int32).toInt ≠ 0) := h5
      refine ok_eq (fun c6 => ?_) (fun c6 => ?_)
      · refine ok_o (sp_X9_degreeOf c_t_taps ) (fun r30 h7 => ?_)
        have h7 : r30.toInt = DG c_t_taps ∧ -1 ≤ r30.toInt ∧ r30.toInt ≤ 63 := h7
        refine ok_le (fun c8 => ?_) (fun c8 => ?_)
        · refine ok_o (sp_X9_onesOf ((c_t_cells ^^^ p0).toInt64) ) (fun r49 h9 => ?_)
          have h9 : 0 ≤ r49.toInt ∧ r49.toInt ≤ 127 := h9
          refine ok_o2 (sp_X9_done c_t_acts r49 ) (fun r60 c_t_acts_60 h10 => ?_)
          exact ok_s (show CT c_t_taps p0 from by first | assumption | exact CT_load (by assumption) (by assumption) (by omega) (by omega) (by omega))
        · refine ok_o2 (sp_X9_no c_t_refused ) (fun r38 c_t_refused_38 h11 => ?_)
          exact ok_s (show CT c_t_taps c_t_cells from by first | assumption | exact CT_load (by assumption) (by assumption) (by omega) (by omega) (by omega))
      · exfalso; omega
    · refine ok_o2 (sp_X9_isThrown_ (1 : Int32) ) (fun r17_3 c_t_thrown_17_3 h12 => ?_)
      have h12 : (r17_3.toInt = 0 ∧ c_t_thrown_17_3.toInt = 0 ∧ (1 : Int32).toInt = 0) ∨ (r17_3.toInt = 1 ∧ c_t_thrown_17_3.toInt = 1 ∧ (1 : Int32).toInt ≠ 0) := h12
      refine ok_eq (fun c13 => ?_) (fun c13 => ?_)
      · exfalso; omega
      · exact ok_s (show CT c_t_taps c_t_cells from by first | assumption | exact CT_load (by assumption) (by assumption) (by omega) (by omega) (by omega))
set_option maxHeartbeats 1000000 in
theorem sp_X9_degree (f_t_forms : Nat → Int64) (p0 : Int32) (hp0 : FA f_t_forms) : ok (F_X9_degree f_t_forms p0) (fun r => True) := by
  have l032 : (0 : Int32).toInt = 0 := by decide
  have l132 : (1 : Int32).toInt = 1 := by decide
  unfold F_X9_degree
  refine ok_o (sp_X9_isForm p0 ) (fun r2 h1 => ?_)
  have h1 : (r2.toInt = 1 ∧ 0 ≤ p0.toInt ∧ p0.toInt ≤ 5) ∨ (r2.toInt = 0 ∧ (p0.toInt < 0 ∨ 6 ≤ p0.toInt)) := h1
  refine ok_eq (fun c2 => ?_) (fun c2 => ?_)
  · refine ok_o2 (sp_X9_isThrown_ (1 : Int32) ) (fun r13 c_t_thrown_13 h3 => ?_)
    have h3 : (r13.toInt = 0 ∧ c_t_thrown_13.toInt = 0 ∧ (1 : Int32).toInt = 0) ∨ (r13.toInt = 1 ∧ c_t_thrown_13.toInt = 1 ∧ (1 : Int32).toInt ≠ 0) := h3
    refine ok_eq (fun c4 => ?_) (fun c4 => ?_)
    · exfalso; omega
    · exact ok_s trivial
  · refine ok_o2 (sp_X9_isThrown_ (0 : Int32) ) (fun r13_2 c_t_thrown_13_2 h5 => ?_)
    have h5 : (r13_2.toInt = 0 ∧ c_t_thrown_13_2.toInt = 0 ∧ (0 : Int32).toInt = 0) ∨ (r13_2.toInt = 1 ∧ c_t_thrown_13_2.toInt = 1 ∧ (0 : Int32).toInt ≠ 0) := h5
    refine ok_eq (fun c6 => ?_) (fun c6 => ?_)
    · refine ok_c (ixo (by omega) (by omega)) ?_
      try have a7 := FA_at (f := f_t_forms) (by assumption) p0.toNatClampNeg
      refine ok_o (sp_X9_degreeOf (f_t_forms p0.toNatClampNeg) ) (fun r29 h8 => ?_)
      have h8 : r29.toInt = DG (f_t_forms p0.toNatClampNeg) ∧ -1 ≤ r29.toInt ∧ r29.toInt ≤ 63 := h8
      exact ok_s trivial
    · exfalso; omega
set_option maxHeartbeats 1000000 in
theorem sp_X9_code (f_t_forms : Nat → Int64) (p0 : Int32) (hp0 : FA f_t_forms) : ok (F_X9_code f_t_forms p0) (fun r => True) := by
  have lm932 : (-9 : Int32).toInt = -9 := by decide
  have l032 : (0 : Int32).toInt = 0 := by decide
  have l132 : (1 : Int32).toInt = 1 := by decide
  have l3032 : (30 : Int32).toInt = 30 := by decide
  unfold F_X9_code
  refine ok_o (sp_X9_isForm p0 ) (fun r2 h1 => ?_)
  have h1 : (r2.toInt = 1 ∧ 0 ≤ p0.toInt ∧ p0.toInt ≤ 5) ∨ (r2.toInt = 0 ∧ (p0.toInt < 0 ∨ 6 ≤ p0.toInt)) := h1
  refine ok_eq (fun c2 => ?_) (fun c2 => ?_)
  · refine ok_o2 (sp_X9_isThrown_ (1 : Int32) ) (fun r13 c_t_thrown_13 h3 => ?_)
    have h3 : (r13.toInt = 0 ∧ c_t_thrown_13.toInt = 0 ∧ (1 : Int32).toInt = 0) ∨ (r13.toInt = 1 ∧ c_t_thrown_13.toInt = 1 ∧ (1 : Int32).toInt ≠ 0) := h3
    refine ok_eq (fun c4 => ?_) (fun c4 => ?_)
    · exfalso; omega
    · exact ok_s trivial
  · refine ok_o2 (sp_X9_isThrown_ (0 : Int32) ) (fun r13_2 c_t_thrown_13_2 h5 => ?_)
    have h5 : (r13_2.toInt = 0 ∧ c_t_thrown_13_2.toInt = 0 ∧ (0 : Int32).toInt = 0) ∨ (r13_2.toInt = 1 ∧ c_t_thrown_13_2.toInt = 1 ∧ (0 : Int32).toInt ≠ 0) := h5
    refine ok_eq (fun c6 => ?_) (fun c6 => ?_)
    · refine ok_c (ixo (by omega) (by omega)) ?_
      try have a7 := FA_at (f := f_t_forms) (by assumption) p0.toNatClampNeg
      refine ok_o (sp_X9_degreeOf (f_t_forms p0.toNatClampNeg) ) (fun r29 h8 => ?_)
      have h8 : r29.toInt = DG (f_t_forms p0.toNatClampNeg) ∧ -1 ≤ r29.toInt ∧ r29.toInt ≤ 63 := h8
      refine ok_le (fun c9 => ?_) (fun c9 => ?_)
      · refine ok_c (ixo (by omega) (by omega)) ?_
        exact ok_s trivial
      · exact ok_s trivial
    · exfalso; omega
set_option maxHeartbeats 1000000 in
theorem sp_X9_has (f_t_forms : Nat → Int64) (p0 : Int32) (p1 : Int32) (hp0 : FA f_t_forms) : ok (F_X9_has f_t_forms p0 p1) (fun r => True) := by
  have l032 : (0 : Int32).toInt = 0 := by decide
  have l132 : (1 : Int32).toInt = 1 := by decide
  have l164 : (1 : Int64).toInt = 1 := by decide
  unfold F_X9_has
  refine ok_o (sp_X9_isForm p0 ) (fun r2 h1 => ?_)
  have h1 : (r2.toInt = 1 ∧ 0 ≤ p0.toInt ∧ p0.toInt ≤ 5) ∨ (r2.toInt = 0 ∧ (p0.toInt < 0 ∨ 6 ≤ p0.toInt)) := h1
  refine ok_eq (fun c2 => ?_) (fun c2 => ?_)
  · refine ok_o2 (sp_X9_isThrown_ (1 : Int32) ) (fun r20 c_t_thrown_20 h3 => ?_)
    have h3 : (r20.toInt = 0 ∧ c_t_thrown_20.toInt = 0 ∧ (1 : Int32).toInt = 0) ∨ (r20.toInt = 1 ∧ c_t_thrown_20.toInt = 1 ∧ (1 : Int32).toInt ≠ 0) := h3
    refine ok_eq (fun c4 => ?_) (fun c4 => ?_)
    · exfalso; omega
    · exact ok_s trivial
  · refine ok_o (sp_X9_isPlace p1 ) (fun r9 h5 => ?_)
    have h5 : (r9.toInt = 1 ∧ 0 ≤ p1.toInt ∧ p1.toInt ≤ 39) ∨ (r9.toInt = 0 ∧ (p1.toInt < 0 ∨ 40 ≤ p1.toInt)) := h5
    refine ok_eq (fun c6 => ?_) (fun c6 => ?_)
    · refine ok_o2 (sp_X9_isThrown_ (1 : Int32) ) (fun r20_2 c_t_thrown_20_2 h7 => ?_)
      have h7 : (r20_2.toInt = 0 ∧ c_t_thrown_20_2.toInt = 0 ∧ (1 : Int32).toInt = 0) ∨ (r20_2.toInt = 1 ∧ c_t_thrown_20_2.toInt = 1 ∧ (1 : Int32).toInt ≠ 0) := h7
      refine ok_eq (fun c8 => ?_) (fun c8 => ?_)
      · exfalso; omega
      · exact ok_s trivial
    · refine ok_o2 (sp_X9_isThrown_ (0 : Int32) ) (fun r20_3 c_t_thrown_20_3 h9 => ?_)
      have h9 : (r20_3.toInt = 0 ∧ c_t_thrown_20_3.toInt = 0 ∧ (0 : Int32).toInt = 0) ∨ (r20_3.toInt = 1 ∧ c_t_thrown_20_3.toInt = 1 ∧ (0 : Int32).toInt ≠ 0) := h9
      refine ok_eq (fun c10 => ?_) (fun c10 => ?_)
      · refine ok_c (ixo (by omega) (by omega)) ?_
        try have a12 := FA_at (f := f_t_forms) (by assumption) p0.toNatClampNeg
        refine ok_eqL (fun c11 => ?_) (fun c11 => ?_)
        · exact ok_s trivial
        · exact ok_s trivial
      · exfalso; omega
set_option maxHeartbeats 1000000 in
theorem sp_X9_ones (f_t_forms : Nat → Int64) (p0 : Int32) (hp0 : FA f_t_forms) : ok (F_X9_ones f_t_forms p0) (fun r => True) := by
  have l032 : (0 : Int32).toInt = 0 := by decide
  have l132 : (1 : Int32).toInt = 1 := by decide
  unfold F_X9_ones
  refine ok_o (sp_X9_isForm p0 ) (fun r2 h1 => ?_)
  have h1 : (r2.toInt = 1 ∧ 0 ≤ p0.toInt ∧ p0.toInt ≤ 5) ∨ (r2.toInt = 0 ∧ (p0.toInt < 0 ∨ 6 ≤ p0.toInt)) := h1
  refine ok_eq (fun c2 => ?_) (fun c2 => ?_)
  · refine ok_o2 (sp_X9_isThrown_ (1 : Int32) ) (fun r13 c_t_thrown_13 h3 => ?_)
    have h3 : (r13.toInt = 0 ∧ c_t_thrown_13.toInt = 0 ∧ (1 : Int32).toInt = 0) ∨ (r13.toInt = 1 ∧ c_t_thrown_13.toInt = 1 ∧ (1 : Int32).toInt ≠ 0) := h3
    refine ok_eq (fun c4 => ?_) (fun c4 => ?_)
    · exfalso; omega
    · exact ok_s trivial
  · refine ok_o2 (sp_X9_isThrown_ (0 : Int32) ) (fun r13_2 c_t_thrown_13_2 h5 => ?_)
    have h5 : (r13_2.toInt = 0 ∧ c_t_thrown_13_2.toInt = 0 ∧ (0 : Int32).toInt = 0) ∨ (r13_2.toInt = 1 ∧ c_t_thrown_13_2.toInt = 1 ∧ (0 : Int32).toInt ≠ 0) := h5
    refine ok_eq (fun c6 => ?_) (fun c6 => ?_)
    · refine ok_c (ixo (by omega) (by omega)) ?_
      try have a7 := FA_at (f := f_t_forms) (by assumption) p0.toNatClampNeg
      refine ok_o (sp_X9_onesOf (f_t_forms p0.toNatClampNeg) ) (fun r29 h8 => ?_)
      have h8 : 0 ≤ r29.toInt ∧ r29.toInt ≤ 127 := h8
      exact ok_s trivial
    · exfalso; omega
set_option maxHeartbeats 1000000 in
theorem sp_X9_lowest (f_t_forms : Nat → Int64) (p0 : Int32) (hp0 : FA f_t_forms) : ok (F_X9_lowest f_t_forms p0) (fun r => True) := by
  have l032 : (0 : Int32).toInt = 0 := by decide
  have l132 : (1 : Int32).toInt = 1 := by decide
  unfold F_X9_lowest
  refine ok_o (sp_X9_isForm p0 ) (fun r2 h1 => ?_)
  have h1 : (r2.toInt = 1 ∧ 0 ≤ p0.toInt ∧ p0.toInt ≤ 5) ∨ (r2.toInt = 0 ∧ (p0.toInt < 0 ∨ 6 ≤ p0.toInt)) := h1
  refine ok_eq (fun c2 => ?_) (fun c2 => ?_)
  · refine ok_o2 (sp_X9_isThrown_ (1 : Int32) ) (fun r13 c_t_thrown_13 h3 => ?_)
    have h3 : (r13.toInt = 0 ∧ c_t_thrown_13.toInt = 0 ∧ (1 : Int32).toInt = 0) ∨ (r13.toInt = 1 ∧ c_t_thrown_13.toInt = 1 ∧ (1 : Int32).toInt ≠ 0) := h3
    refine ok_eq (fun c4 => ?_) (fun c4 => ?_)
    · exfalso; omega
    · exact ok_s trivial
  · refine ok_o2 (sp_X9_isThrown_ (0 : Int32) ) (fun r13_2 c_t_thrown_13_2 h5 => ?_)
    have h5 : (r13_2.toInt = 0 ∧ c_t_thrown_13_2.toInt = 0 ∧ (0 : Int32).toInt = 0) ∨ (r13_2.toInt = 1 ∧ c_t_thrown_13_2.toInt = 1 ∧ (0 : Int32).toInt ≠ 0) := h5
    refine ok_eq (fun c6 => ?_) (fun c6 => ?_)
    · refine ok_c (ixo (by omega) (by omega)) ?_
      try have a7 := FA_at (f := f_t_forms) (by assumption) p0.toNatClampNeg
      refine ok_o (sp_X9_lowestOf (f_t_forms p0.toNatClampNeg) ) (fun r29 h8 => ?_)
      exact ok_s trivial
    · exfalso; omega
set_option maxHeartbeats 1000000 in
theorem sp_X9_textOf (p0 : Int64) (hp0 : DG p0 ≤ 39) : ok (F_X9_textOf p0) (fun r => True) := by
  have lm132 : (-1 : Int32).toInt = -1 := by decide
  have l032 : (0 : Int32).toInt = 0 := by decide
  have l164 : (1 : Int64).toInt = 1 := by decide
  have l3932 : (39 : Int32).toInt = 39 := by decide
  unfold F_X9_textOf
  refine ok_o3 (sp_J4_init_da8c8  ) (fun c_n0_coder_4 n_n0_value_4 f_n0_value_4 h1 => ?_)
  have h1 : c_n0_coder_4 = 0 ∧ CAP n_n0_value_4 ∧ n_n0_value_4 = 16 ∧ BY f_n0_value_4 := h1
  obtain ⟨h1_0, h1_1, h1_2, h1_3⟩ := h1
  refine ok_L4 (fun y3_11 c_n0_count_11 n_n0_value_11 f_n0_value_11 => CAP n_n0_value_11 ∧ BY f_n0_value_11 ∧ -1 ≤ y3_11.toInt ∧ y3_11.toInt ≤ 39 ∧ 0 ≤ c_n0_count_11.toInt ∧ c_n0_count_11.toInt ≤ (n_n0_value_11 : Int) ∧ c_n0_count_11.toInt ≤ 3 * (39 - y3_11.toInt)) (fun y3_11 c_n0_count_11 n_n0_value_11 f_n0_value_11 => (y3_11.toInt + 1).toNat) (fun ih11 y3_11 c_n0_count_11 n_n0_value_11 f_n0_value_11 hI2 hih2 => ?_) 66 (39 : Int32) (0 : Int32) n_n0_value_4 f_n0_value_4 (show CAP n_n0_value_4 ∧ BY f_n0_value_4 ∧ -1 ≤ (39 : Int32).toInt ∧ (39 : Int32).toInt ≤ 39 ∧ 0 ≤ (0 : Int32).toInt ∧ (0 : Int32).toInt ≤ (n_n0_value_4 : Int) ∧ (0 : Int32).toInt ≤ 3 * (39 - (39 : Int32).toInt) from by first | omega | assumption | trivial | (refine ⟨?_, ?_⟩ <;> first | omega | assumption | trivial | rfl) | (refine ⟨?_, ?_, ?_⟩ <;> first | omega | assumption | trivial | rfl) | (refine ⟨?_, ?_, ?_, ?_⟩ <;> first | omega | assumption | trivial | rfl) | (refine ⟨?_, ?_, ?_, ?_, ?_⟩ <;> first | omega | assumption | trivial | rfl) | (refine ⟨?_, ?_, ?_, ?_, ?_, ?_⟩ <;> first | omega | assumption | trivial | rfl) | (refine ⟨?_, ?_, ?_, ?_, ?_, ?_, ?_⟩ <;> first | omega | assumption | trivial | rfl) | (refine ⟨?_, ?_, ?_, ?_, ?_, ?_, ?_, ?_⟩ <;> first | omega | assumption | trivial | rfl)) (show ((39 : Int32).toInt + 1).toNat < 66 from by omega)
  have hI2 : CAP n_n0_value_11 ∧ BY f_n0_value_11 ∧ -1 ≤ y3_11.toInt ∧ y3_11.toInt ≤ 39 ∧ 0 ≤ c_n0_count_11.toInt ∧ c_n0_count_11.toInt ≤ (n_n0_value_11 : Int) ∧ c_n0_count_11.toInt ≤ 3 * (39 - y3_11.toInt) := hI2
  obtain ⟨hI2_0, hI2_1, hI2_2, hI2_3, hI2_4, hI2_5, hI2_6⟩ := hI2
  unfold S_X9_textOf_11
  refine ok_lt (fun c3 => ?_) (fun c3 => ?_)
  · refine ok_o (sp_J4_toString_0e30d c_n0_coder_4 c_n0_count_11 n_n0_value_11 f_n0_value_11 (by first | omega | assumption | trivial | exact wt_of (by assumption) (by omega)) (by first | omega | assumption | trivial | exact wt_of (by assumption) (by omega)) (by first | omega | assumption | trivial | exact wt_of (by assumption) (by omega)) (by first | omega | assumption | trivial | exact wt_of (by assumption) (by omega)) (by first | omega | assumption | trivial | exact wt_of (by assumption) (by omega))) (fun u55 h4 => ?_)
    exact ok_s trivial
  · refine ok_eqL (fun c5 => ?_) (fun c5 => ?_)
    · refine ok_o (sp_J4_length_8abf5 c_n0_count_11 ) (fun r27 h6 => ?_)
      have h6 : r27 = c_n0_count_11 := h6
      refine ok_eq (fun c7 => ?_) (fun c7 => ?_)
      · refine ok_o3 (sp_J4_append_15ec4 c_n0_coder_4 c_n0_count_11 n_n0_value_11 f_n0_value_11 0 (by first | omega | assumption | trivial | exact wt_of (by assumption) (by omega)) (by first | omega | assumption | trivial | exact wt_of (by assumption) (by omega)) (by first | omega | assumption | trivial | exact wt_of (by assumption) (by omega)) (by first | omega | assumption | trivial | exact wt_of (by assumption) (by omega)) (by first | omega | assumption | trivial | exact wt_of (by assumption) (by omega)) (by first | omega | assumption | trivial | exact wt_of (by assumption) (by omega)) (by first | omega | assumption | trivial | exact wt_of (by assumption) (by omega))) (fun c_n0_count_40 n_n0_value_40 f_n0_value_40 h8 => ?_)
        have h8 : c_n0_count_11.toInt ≤ c_n0_count_40.toInt ∧ c_n0_count_40.toInt ≤ c_n0_count_11.toInt + 1 ∧ c_n0_count_40.toInt ≤ n_n0_value_40 ∧ CAP n_n0_value_40 ∧ BY f_n0_value_40 := h8
        obtain ⟨h8_0, h8_1, h8_2, h8_3, h8_4⟩ := h8
        refine ok_o3 (sp_J4_append_bf812 c_n0_coder_4 c_n0_count_40 n_n0_value_40 f_n0_value_40 y3_11 (by first | omega | assumption | trivial | exact wt_of (by assumption) (by omega)) (by first | omega | assumption | trivial | exact wt_of (by assumption) (by omega)) (by first | omega | assumption | trivial | exact wt_of (by assumption) (by omega)) (by first | omega | assumption | trivial | exact wt_of (by assumption) (by omega)) (by first | omega | assumption | trivial | exact wt_of (by assumption) (by omega)) (by first | omega | assumption | trivial | exact wt_of (by assumption) (by omega)) (by first | omega | assumption | trivial | exact wt_of (by assumption) (by omega)) (by first | omega | assumption | trivial | exact wt_of (by assumption) (by omega))) (fun c_n0_count_44 n_n0_value_44 f_n0_value_44 h9 => ?_)
        have h9 : c_n0_count_40.toInt + 1 ≤ c_n0_count_44.toInt ∧ c_n0_count_44.toInt ≤ c_n0_count_40.toInt + 2 ∧ c_n0_count_44.toInt ≤ n_n0_value_44 ∧ CAP n_n0_value_44 ∧ BY f_n0_value_44 := h9
        obtain ⟨h9_0, h9_1, h9_2, h9_3, h9_4⟩ := h9
        refine ok_bx (fun x3_48 e_x3_48 => ?_)
        try have t_x3_48 : x3_48.toInt = y3_11.toInt + (-1) := by rw [e_x3_48]; exact addT1 (show (-1 : Int32).toInt = -1 from by decide) (by omega) (by omega)
        exact hih2 x3_48 c_n0_count_44 n_n0_value_44 f_n0_value_44 (show CAP n_n0_value_44 ∧ BY f_n0_value_44 ∧ -1 ≤ x3_48.toInt ∧ x3_48.toInt ≤ 39 ∧ 0 ≤ c_n0_count_44.toInt ∧ c_n0_count_44.toInt ≤ (n_n0_value_44 : Int) ∧ c_n0_count_44.toInt ≤ 3 * (39 - x3_48.toInt) from by first | omega | assumption | trivial | (refine ⟨?_, ?_⟩ <;> first | omega | assumption | trivial | rfl) | (refine ⟨?_, ?_, ?_⟩ <;> first | omega | assumption | trivial | rfl) | (refine ⟨?_, ?_, ?_, ?_⟩ <;> first | omega | assumption | trivial | rfl) | (refine ⟨?_, ?_, ?_, ?_, ?_⟩ <;> first | omega | assumption | trivial | rfl) | (refine ⟨?_, ?_, ?_, ?_, ?_, ?_⟩ <;> first | omega | assumption | trivial | rfl) | (refine ⟨?_, ?_, ?_, ?_, ?_, ?_, ?_⟩ <;> first | omega | assumption | trivial | rfl) | (refine ⟨?_, ?_, ?_, ?_, ?_, ?_, ?_, ?_⟩ <;> first | omega | assumption | trivial | rfl)) (show (x3_48.toInt + 1).toNat < (y3_11.toInt + 1).toNat from by omega)
      · refine ok_o3 (sp_J4_append_15ec4 c_n0_coder_4 c_n0_count_11 n_n0_value_11 f_n0_value_11 1 (by first | omega | assumption | trivial | exact wt_of (by assumption) (by omega)) (by first | omega | assumption | trivial | exact wt_of (by assumption) (by omega)) (by first | omega | assumption | trivial | exact wt_of (by assumption) (by omega)) (by first | omega | assumption | trivial | exact wt_of (by assumption) (by omega)) (by first | omega | assumption | trivial | exact wt_of (by assumption) (by omega)) (by first | omega | assumption | trivial | exact wt_of (by assumption) (by omega)) (by first | omega | assumption | trivial | exact wt_of (by assumption) (by omega))) (fun c_n0_count_40_2 n_n0_value_40_2 f_n0_value_40_2 h10 => ?_)
        have h10 : c_n0_count_11.toInt ≤ c_n0_count_40_2.toInt ∧ c_n0_count_40_2.toInt ≤ c_n0_count_11.toInt + 1 ∧ c_n0_count_40_2.toInt ≤ n_n0_value_40_2 ∧ CAP n_n0_value_40_2 ∧ BY f_n0_value_40_2 := h10
        obtain ⟨h10_0, h10_1, h10_2, h10_3, h10_4⟩ := h10
        refine ok_o3 (sp_J4_append_bf812 c_n0_coder_4 c_n0_count_40_2 n_n0_value_40_2 f_n0_value_40_2 y3_11 (by first | omega | assumption | trivial | exact wt_of (by assumption) (by omega)) (by first | omega | assumption | trivial | exact wt_of (by assumption) (by omega)) (by first | omega | assumption | trivial | exact wt_of (by assumption) (by omega)) (by first | omega | assumption | trivial | exact wt_of (by assumption) (by omega)) (by first | omega | assumption | trivial | exact wt_of (by assumption) (by omega)) (by first | omega | assumption | trivial | exact wt_of (by assumption) (by omega)) (by first | omega | assumption | trivial | exact wt_of (by assumption) (by omega)) (by first | omega | assumption | trivial | exact wt_of (by assumption) (by omega))) (fun c_n0_count_44_2 n_n0_value_44_2 f_n0_value_44_2 h11 => ?_)
        have h11 : c_n0_count_40_2.toInt + 1 ≤ c_n0_count_44_2.toInt ∧ c_n0_count_44_2.toInt ≤ c_n0_count_40_2.toInt + 2 ∧ c_n0_count_44_2.toInt ≤ n_n0_value_44_2 ∧ CAP n_n0_value_44_2 ∧ BY f_n0_value_44_2 := h11
        obtain ⟨h11_0, h11_1, h11_2, h11_3, h11_4⟩ := h11
        refine ok_bx (fun x3_48_2 e_x3_48_2 => ?_)
        try have t_x3_48_2 : x3_48_2.toInt = y3_11.toInt + (-1) := by rw [e_x3_48_2]; exact addT1 (show (-1 : Int32).toInt = -1 from by decide) (by omega) (by omega)
        exact hih2 x3_48_2 c_n0_count_44_2 n_n0_value_44_2 f_n0_value_44_2 (show CAP n_n0_value_44_2 ∧ BY f_n0_value_44_2 ∧ -1 ≤ x3_48_2.toInt ∧ x3_48_2.toInt ≤ 39 ∧ 0 ≤ c_n0_count_44_2.toInt ∧ c_n0_count_44_2.toInt ≤ (n_n0_value_44_2 : Int) ∧ c_n0_count_44_2.toInt ≤ 3 * (39 - x3_48_2.toInt) from by first | omega | assumption | trivial | (refine ⟨?_, ?_⟩ <;> first | omega | assumption | trivial | rfl) | (refine ⟨?_, ?_, ?_⟩ <;> first | omega | assumption | trivial | rfl) | (refine ⟨?_, ?_, ?_, ?_⟩ <;> first | omega | assumption | trivial | rfl) | (refine ⟨?_, ?_, ?_, ?_, ?_⟩ <;> first | omega | assumption | trivial | rfl) | (refine ⟨?_, ?_, ?_, ?_, ?_, ?_⟩ <;> first | omega | assumption | trivial | rfl) | (refine ⟨?_, ?_, ?_, ?_, ?_, ?_, ?_⟩ <;> first | omega | assumption | trivial | rfl) | (refine ⟨?_, ?_, ?_, ?_, ?_, ?_, ?_, ?_⟩ <;> first | omega | assumption | trivial | rfl)) (show (x3_48_2.toInt + 1).toNat < (y3_11.toInt + 1).toNat from by omega)
    · refine ok_bx (fun x3_48_3 e_x3_48_3 => ?_)
      try have t_x3_48_3 : x3_48_3.toInt = y3_11.toInt + (-1) := by rw [e_x3_48_3]; exact addT1 (show (-1 : Int32).toInt = -1 from by decide) (by omega) (by omega)
      exact hih2 x3_48_3 c_n0_count_11 n_n0_value_11 f_n0_value_11 (show CAP n_n0_value_11 ∧ BY f_n0_value_11 ∧ -1 ≤ x3_48_3.toInt ∧ x3_48_3.toInt ≤ 39 ∧ 0 ≤ c_n0_count_11.toInt ∧ c_n0_count_11.toInt ≤ (n_n0_value_11 : Int) ∧ c_n0_count_11.toInt ≤ 3 * (39 - x3_48_3.toInt) from by first | omega | assumption | trivial | (refine ⟨?_, ?_⟩ <;> first | omega | assumption | trivial | rfl) | (refine ⟨?_, ?_, ?_⟩ <;> first | omega | assumption | trivial | rfl) | (refine ⟨?_, ?_, ?_, ?_⟩ <;> first | omega | assumption | trivial | rfl) | (refine ⟨?_, ?_, ?_, ?_, ?_⟩ <;> first | omega | assumption | trivial | rfl) | (refine ⟨?_, ?_, ?_, ?_, ?_, ?_⟩ <;> first | omega | assumption | trivial | rfl) | (refine ⟨?_, ?_, ?_, ?_, ?_, ?_, ?_⟩ <;> first | omega | assumption | trivial | rfl) | (refine ⟨?_, ?_, ?_, ?_, ?_, ?_, ?_, ?_⟩ <;> first | omega | assumption | trivial | rfl)) (show (x3_48_3.toInt + 1).toNat < (y3_11.toInt + 1).toNat from by omega)
set_option maxHeartbeats 1000000 in
theorem sp_X9_text (f_t_forms : Nat → Int64) (p0 : Int32) (hp0 : FA f_t_forms) : ok (F_X9_text f_t_forms p0) (fun r => True) := by
  have l032 : (0 : Int32).toInt = 0 := by decide
  have l132 : (1 : Int32).toInt = 1 := by decide
  unfold F_X9_text
  refine ok_o (sp_X9_isForm p0 ) (fun r2 h1 => ?_)
  have h1 : (r2.toInt = 1 ∧ 0 ≤ p0.toInt ∧ p0.toInt ≤ 5) ∨ (r2.toInt = 0 ∧ (p0.toInt < 0 ∨ 6 ≤ p0.toInt)) := h1
  refine ok_eq (fun c2 => ?_) (fun c2 => ?_)
  · refine ok_o2 (sp_X9_isThrown_ (1 : Int32) ) (fun r13 c_t_thrown_13 h3 => ?_)
    have h3 : (r13.toInt = 0 ∧ c_t_thrown_13.toInt = 0 ∧ (1 : Int32).toInt = 0) ∨ (r13.toInt = 1 ∧ c_t_thrown_13.toInt = 1 ∧ (1 : Int32).toInt ≠ 0) := h3
    refine ok_eq (fun c4 => ?_) (fun c4 => ?_)
    · exfalso; omega
    · exact ok_s trivial
  · refine ok_o2 (sp_X9_isThrown_ (0 : Int32) ) (fun r13_2 c_t_thrown_13_2 h5 => ?_)
    have h5 : (r13_2.toInt = 0 ∧ c_t_thrown_13_2.toInt = 0 ∧ (0 : Int32).toInt = 0) ∨ (r13_2.toInt = 1 ∧ c_t_thrown_13_2.toInt = 1 ∧ (0 : Int32).toInt ≠ 0) := h5
    refine ok_eq (fun c6 => ?_) (fun c6 => ?_)
    · refine ok_c (ixo (by omega) (by omega)) ?_
      try have a7 := FA_at (f := f_t_forms) (by assumption) p0.toNatClampNeg
      refine ok_o (sp_X9_textOf (f_t_forms p0.toNatClampNeg) (by first | omega | assumption | trivial | exact wt_of (by assumption) (by omega))) (fun u30 h8 => ?_)
      exact ok_s trivial
    · exfalso; omega
set_option maxHeartbeats 1000000 in
theorem sp_X9_order (f_t_forms : Nat → Int64) (p0 : Int32) (p1 : Int32) (hp0 : FA f_t_forms) : ok (F_X9_order f_t_forms p0 p1) (fun r => True) := by
  have lm132 : (-1 : Int32).toInt = -1 := by decide
  have l032 : (0 : Int32).toInt = 0 := by decide
  have l132 : (1 : Int32).toInt = 1 := by decide
  unfold F_X9_order
  refine ok_o (sp_X9_isForm p0 ) (fun r2 h1 => ?_)
  have h1 : (r2.toInt = 1 ∧ 0 ≤ p0.toInt ∧ p0.toInt ≤ 5) ∨ (r2.toInt = 0 ∧ (p0.toInt < 0 ∨ 6 ≤ p0.toInt)) := h1
  refine ok_eq (fun c2 => ?_) (fun c2 => ?_)
  · refine ok_o2 (sp_X9_isThrown_ (1 : Int32) ) (fun r20 c_t_thrown_20 h3 => ?_)
    have h3 : (r20.toInt = 0 ∧ c_t_thrown_20.toInt = 0 ∧ (1 : Int32).toInt = 0) ∨ (r20.toInt = 1 ∧ c_t_thrown_20.toInt = 1 ∧ (1 : Int32).toInt ≠ 0) := h3
    refine ok_eq (fun c4 => ?_) (fun c4 => ?_)
    · exfalso; omega
    · exact ok_s trivial
  · refine ok_o (sp_X9_isForm p1 ) (fun r9 h5 => ?_)
    have h5 : (r9.toInt = 1 ∧ 0 ≤ p1.toInt ∧ p1.toInt ≤ 5) ∨ (r9.toInt = 0 ∧ (p1.toInt < 0 ∨ 6 ≤ p1.toInt)) := h5
    refine ok_eq (fun c6 => ?_) (fun c6 => ?_)
    · refine ok_o2 (sp_X9_isThrown_ (1 : Int32) ) (fun r20_2 c_t_thrown_20_2 h7 => ?_)
      have h7 : (r20_2.toInt = 0 ∧ c_t_thrown_20_2.toInt = 0 ∧ (1 : Int32).toInt = 0) ∨ (r20_2.toInt = 1 ∧ c_t_thrown_20_2.toInt = 1 ∧ (1 : Int32).toInt ≠ 0) := h7
      refine ok_eq (fun c8 => ?_) (fun c8 => ?_)
      · exfalso; omega
      · exact ok_s trivial
    · refine ok_o2 (sp_X9_isThrown_ (0 : Int32) ) (fun r20_3 c_t_thrown_20_3 h9 => ?_)
      have h9 : (r20_3.toInt = 0 ∧ c_t_thrown_20_3.toInt = 0 ∧ (0 : Int32).toInt = 0) ∨ (r20_3.toInt = 1 ∧ c_t_thrown_20_3.toInt = 1 ∧ (0 : Int32).toInt ≠ 0) := h9
      refine ok_eq (fun c10 => ?_) (fun c10 => ?_)
      · refine ok_c (ixo (by omega) (by omega)) ?_
        refine ok_c (ixo (by omega) (by omega)) ?_
        try have a12 := FA_at (f := f_t_forms) (by assumption) p1.toNatClampNeg
        try have a13 := FA_at (f := f_t_forms) (by assumption) p0.toNatClampNeg
        refine ok_leL (fun c11 => ?_) (fun c11 => ?_)
        · refine ok_c (ixo (by omega) (by omega)) ?_
          refine ok_c (ixo (by omega) (by omega)) ?_
          try have a15 := FA_at (f := f_t_forms) (by assumption) p0.toNatClampNeg
          try have a16 := FA_at (f := f_t_forms) (by assumption) p1.toNatClampNeg
          refine ok_leL (fun c14 => ?_) (fun c14 => ?_)
          · exact ok_s trivial
          · exact ok_s trivial
        · exact ok_s trivial
      · exfalso; omega
set_option maxHeartbeats 1000000 in
theorem sp_X9_divides (f_t_forms : Nat → Int64) (p0 : Int32) (p1 : Int32) (hp0 : FA f_t_forms) : ok (F_X9_divides f_t_forms p0 p1) (fun r => True) := by
  have l032 : (0 : Int32).toInt = 0 := by decide
  have l132 : (1 : Int32).toInt = 1 := by decide
  unfold F_X9_divides
  refine ok_o (sp_X9_isForm p0 ) (fun r2 h1 => ?_)
  have h1 : (r2.toInt = 1 ∧ 0 ≤ p0.toInt ∧ p0.toInt ≤ 5) ∨ (r2.toInt = 0 ∧ (p0.toInt < 0 ∨ 6 ≤ p0.toInt)) := h1
  refine ok_eq (fun c2 => ?_) (fun c2 => ?_)
  · refine ok_o2 (sp_X9_isThrown_ (1 : Int32) ) (fun r20 c_t_thrown_20 h3 => ?_)
    have h3 : (r20.toInt = 0 ∧ c_t_thrown_20.toInt = 0 ∧ (1 : Int32).toInt = 0) ∨ (r20.toInt = 1 ∧ c_t_thrown_20.toInt = 1 ∧ (1 : Int32).toInt ≠ 0) := h3
    refine ok_eq (fun c4 => ?_) (fun c4 => ?_)
    · exfalso; omega
    · exact ok_s trivial
  · refine ok_o (sp_X9_isForm p1 ) (fun r9 h5 => ?_)
    have h5 : (r9.toInt = 1 ∧ 0 ≤ p1.toInt ∧ p1.toInt ≤ 5) ∨ (r9.toInt = 0 ∧ (p1.toInt < 0 ∨ 6 ≤ p1.toInt)) := h5
    refine ok_eq (fun c6 => ?_) (fun c6 => ?_)
    · refine ok_o2 (sp_X9_isThrown_ (1 : Int32) ) (fun r20_2 c_t_thrown_20_2 h7 => ?_)
      have h7 : (r20_2.toInt = 0 ∧ c_t_thrown_20_2.toInt = 0 ∧ (1 : Int32).toInt = 0) ∨ (r20_2.toInt = 1 ∧ c_t_thrown_20_2.toInt = 1 ∧ (1 : Int32).toInt ≠ 0) := h7
      refine ok_eq (fun c8 => ?_) (fun c8 => ?_)
      · exfalso; omega
      · exact ok_s trivial
    · refine ok_o2 (sp_X9_isThrown_ (0 : Int32) ) (fun r20_3 c_t_thrown_20_3 h9 => ?_)
      have h9 : (r20_3.toInt = 0 ∧ c_t_thrown_20_3.toInt = 0 ∧ (0 : Int32).toInt = 0) ∨ (r20_3.toInt = 1 ∧ c_t_thrown_20_3.toInt = 1 ∧ (0 : Int32).toInt ≠ 0) := h9
      refine ok_eq (fun c10 => ?_) (fun c10 => ?_)
      · refine ok_c (ixo (by omega) (by omega)) ?_
        refine ok_c (ixo (by omega) (by omega)) ?_
        try have a11 := FA_at (f := f_t_forms) (by assumption) p1.toNatClampNeg
        try have a12 := FA_at (f := f_t_forms) (by assumption) p0.toNatClampNeg
        refine ok_o (sp_X9_isDivided (f_t_forms p1.toNatClampNeg) (f_t_forms p0.toNatClampNeg) (by first | omega | assumption | trivial | exact wt_of (by assumption) (by omega)) (by first | omega | assumption | trivial | exact wt_of (by assumption) (by omega))) (fun r38 h13 => ?_)
        have h13 : r38.toInt = 0 ∨ r38.toInt = 1 := h13
        refine ok_eq (fun c14 => ?_) (fun c14 => ?_)
        · exact ok_s trivial
        · exact ok_s trivial
      · exfalso; omega
set_option maxHeartbeats 1000000 in
theorem sp_X9_check (c_t_thrown : Int32) (f_t_forms : Nat → Int64) (p0 : Int32) (p1 : Int32) (hp0 : FA f_t_forms) : ok (F_X9_check c_t_thrown f_t_forms p0 p1) (fun r => True) := by
  have lm932 : (-9 : Int32).toInt = -9 := by decide
  have l032 : (0 : Int32).toInt = 0 := by decide
  have l132 : (1 : Int32).toInt = 1 := by decide
  have l3132 : (31 : Int32).toInt = 31 := by decide
  unfold F_X9_check
  refine ok_o (sp_X9_isForm p0 ) (fun r2 h1 => ?_)
  have h1 : (r2.toInt = 1 ∧ 0 ≤ p0.toInt ∧ p0.toInt ≤ 5) ∨ (r2.toInt = 0 ∧ (p0.toInt < 0 ∨ 6 ≤ p0.toInt)) := h1
  refine ok_eq (fun c2 => ?_) (fun c2 => ?_)
  · first | unfold J_X9_check_15 | skip
    first | unfold J_X9_check_20 | skip
    refine ok_o2 (sp_X9_isThrown_ (1 : Int32) ) (fun r20 c_t_thrown_20 h3 => ?_)
    have h3 : (r20.toInt = 0 ∧ c_t_thrown_20.toInt = 0 ∧ (1 : Int32).toInt = 0) ∨ (r20.toInt = 1 ∧ c_t_thrown_20.toInt = 1 ∧ (1 : Int32).toInt ≠ 0) := h3
    refine ok_eq (fun c4 => ?_) (fun c4 => ?_)
    · exfalso; omega
    · exact ok_s trivial
  · refine ok_o (sp_X9_isForm p1 ) (fun r9 h5 => ?_)
    have h5 : (r9.toInt = 1 ∧ 0 ≤ p1.toInt ∧ p1.toInt ≤ 5) ∨ (r9.toInt = 0 ∧ (p1.toInt < 0 ∨ 6 ≤ p1.toInt)) := h5
    refine ok_eq (fun c6 => ?_) (fun c6 => ?_)
    · first | unfold J_X9_check_15 | skip
      first | unfold J_X9_check_20 | skip
      refine ok_o2 (sp_X9_isThrown_ (1 : Int32) ) (fun r20_2 c_t_thrown_20_2 h7 => ?_)
      have h7 : (r20_2.toInt = 0 ∧ c_t_thrown_20_2.toInt = 0 ∧ (1 : Int32).toInt = 0) ∨ (r20_2.toInt = 1 ∧ c_t_thrown_20_2.toInt = 1 ∧ (1 : Int32).toInt ≠ 0) := h7
      refine ok_eq (fun c8 => ?_) (fun c8 => ?_)
      · exfalso; omega
      · exact ok_s trivial
    · first | unfold J_X9_check_20 | skip
      refine ok_o2 (sp_X9_isThrown_ (0 : Int32) ) (fun r20_3 c_t_thrown_20_3 h9 => ?_)
      have h9 : (r20_3.toInt = 0 ∧ c_t_thrown_20_3.toInt = 0 ∧ (0 : Int32).toInt = 0) ∨ (r20_3.toInt = 1 ∧ c_t_thrown_20_3.toInt = 1 ∧ (0 : Int32).toInt ≠ 0) := h9
      refine ok_eq (fun c10 => ?_) (fun c10 => ?_)
      · refine ok_c (ixo (by omega) (by omega)) ?_
        refine ok_c (ixo (by omega) (by omega)) ?_
        try have a11 := FA_at (f := f_t_forms) (by assumption) p0.toNatClampNeg
        try have a12 := FA_at (f := f_t_forms) (by assumption) p1.toNatClampNeg
        refine ok_o (sp_X9_isNoSeal (f_t_forms p0.toNatClampNeg) (f_t_forms p1.toNatClampNeg) (31 : Int32) (by first | omega | assumption | trivial | exact wt_of (by assumption) (by omega)) (by first | omega | assumption | trivial | exact wt_of (by assumption) (by omega))) (fun r42 h13 => ?_)
        have h13 : (r42.toInt = 0 ∧ 1 ≤ DG (f_t_forms p1.toNatClampNeg) ∧ DG (f_t_forms p1.toNatClampNeg) ≤ (31 : Int32).toInt ∧ DG (f_t_forms p0.toNatClampNeg) + DG (f_t_forms p1.toNatClampNeg) ≤ 39) ∨ r42.toInt = 1 := h13
        refine ok_eq (fun c14 => ?_) (fun c14 => ?_)
        · refine ok_c (ixo (by omega) (by omega)) ?_
          refine ok_c (ixo (by omega) (by omega)) ?_
          try have a15 := FA_at (f := f_t_forms) (by assumption) p0.toNatClampNeg
          try have a16 := FA_at (f := f_t_forms) (by assumption) p1.toNatClampNeg
          refine ok_o (sp_X9_checkOf (f_t_forms p0.toNatClampNeg) (f_t_forms p1.toNatClampNeg) (by first | omega | assumption | trivial | exact wt_of (by assumption) (by omega)) (by first | omega | assumption | trivial | exact wt_of (by assumption) (by omega)) (by first | omega | assumption | trivial | exact wt_of (by assumption) (by omega))) (fun r65 h17 => ?_)
          have h17 : DG r65 ≤ 39 ∧ -1 ≤ DG r65 ∧ DG r65 < DG (f_t_forms p1.toNatClampNeg) := h17
          exact ok_s trivial
        · exact ok_s trivial
      · exfalso; omega
set_option maxHeartbeats 1000000 in
theorem sp_X9_isPrime (c_t_thrown : Int32) (f_t_forms : Nat → Int64) (p0 : Int32) (p1 : Int32) (hp0 : FA f_t_forms) : ok (F_X9_isPrime c_t_thrown f_t_forms p0 p1) (fun r => True) := by
  have lm932 : (-9 : Int32).toInt = -9 := by decide
  have l032 : (0 : Int32).toInt = 0 := by decide
  have l132 : (1 : Int32).toInt = 1 := by decide
  have l1032 : (10 : Int32).toInt = 10 := by decide
  unfold F_X9_isPrime
  refine ok_o (sp_X9_isForm p0 ) (fun r2 h1 => ?_)
  have h1 : (r2.toInt = 1 ∧ 0 ≤ p0.toInt ∧ p0.toInt ≤ 5) ∨ (r2.toInt = 0 ∧ (p0.toInt < 0 ∨ 6 ≤ p0.toInt)) := h1
  refine ok_eq (fun c2 => ?_) (fun c2 => ?_)
  · first | unfold J_X9_isPrime_13 | skip
    refine ok_lt (fun c3 => ?_) (fun c3 => ?_)
    · first | unfold J_X9_isPrime_22 | skip
      first | unfold J_X9_isPrime_27 | skip
      refine ok_o2 (sp_X9_isThrown (1 : Int32) (1 : Int32) ) (fun r27 c_t_thrown_27 h4 => ?_)
      have h4 : (r27.toInt = 0 ∧ c_t_thrown_27.toInt = 0 ∧ (1 : Int32).toInt = 0 ∧ (1 : Int32).toInt = 0) ∨ (r27.toInt = 1 ∧ c_t_thrown_27.toInt = 1 ∧ (1 : Int32).toInt ≠ 0) ∨ (r27.toInt = 1 ∧ c_t_thrown_27.toInt = 2 ∧ (1 : Int32).toInt = 0 ∧ (1 : Int32).toInt ≠ 0) := h4
      refine ok_eq (fun c5 => ?_) (fun c5 => ?_)
      · exfalso; omega
      · exact ok_s trivial
    · refine ok_le (fun c6 => ?_) (fun c6 => ?_)
      · first | unfold J_X9_isPrime_27 | skip
        refine ok_o2 (sp_X9_isThrown (1 : Int32) (0 : Int32) ) (fun r27_2 c_t_thrown_27_2 h7 => ?_)
        have h7 : (r27_2.toInt = 0 ∧ c_t_thrown_27_2.toInt = 0 ∧ (1 : Int32).toInt = 0 ∧ (0 : Int32).toInt = 0) ∨ (r27_2.toInt = 1 ∧ c_t_thrown_27_2.toInt = 1 ∧ (1 : Int32).toInt ≠ 0) ∨ (r27_2.toInt = 1 ∧ c_t_thrown_27_2.toInt = 2 ∧ (1 : Int32).toInt = 0 ∧ (0 : Int32).toInt ≠ 0) := h7
        refine ok_eq (fun c8 => ?_) (fun c8 => ?_)
        · exfalso; omega
        · exact ok_s trivial
      · first | unfold J_X9_isPrime_22 | skip
        first | unfold J_X9_isPrime_27 | skip
        refine ok_o2 (sp_X9_isThrown (1 : Int32) (1 : Int32) ) (fun r27_3 c_t_thrown_27_3 h9 => ?_)
        have h9 : (r27_3.toInt = 0 ∧ c_t_thrown_27_3.toInt = 0 ∧ (1 : Int32).toInt = 0 ∧ (1 : Int32).toInt = 0) ∨ (r27_3.toInt = 1 ∧ c_t_thrown_27_3.toInt = 1 ∧ (1 : Int32).toInt ≠ 0) ∨ (r27_3.toInt = 1 ∧ c_t_thrown_27_3.toInt = 2 ∧ (1 : Int32).toInt = 0 ∧ (1 : Int32).toInt ≠ 0) := h9
        refine ok_eq (fun c10 => ?_) (fun c10 => ?_)
        · exfalso; omega
        · exact ok_s trivial
  · first | unfold J_X9_isPrime_13 | skip
    refine ok_lt (fun c11 => ?_) (fun c11 => ?_)
    · first | unfold J_X9_isPrime_22 | skip
      first | unfold J_X9_isPrime_27 | skip
      refine ok_o2 (sp_X9_isThrown (0 : Int32) (1 : Int32) ) (fun r27_4 c_t_thrown_27_4 h12 => ?_)
      have h12 : (r27_4.toInt = 0 ∧ c_t_thrown_27_4.toInt = 0 ∧ (0 : Int32).toInt = 0 ∧ (1 : Int32).toInt = 0) ∨ (r27_4.toInt = 1 ∧ c_t_thrown_27_4.toInt = 1 ∧ (0 : Int32).toInt ≠ 0) ∨ (r27_4.toInt = 1 ∧ c_t_thrown_27_4.toInt = 2 ∧ (0 : Int32).toInt = 0 ∧ (1 : Int32).toInt ≠ 0) := h12
      refine ok_eq (fun c13 => ?_) (fun c13 => ?_)
      · exfalso; omega
      · exact ok_s trivial
    · refine ok_le (fun c14 => ?_) (fun c14 => ?_)
      · first | unfold J_X9_isPrime_27 | skip
        refine ok_o2 (sp_X9_isThrown (0 : Int32) (0 : Int32) ) (fun r27_5 c_t_thrown_27_5 h15 => ?_)
        have h15 : (r27_5.toInt = 0 ∧ c_t_thrown_27_5.toInt = 0 ∧ (0 : Int32).toInt = 0 ∧ (0 : Int32).toInt = 0) ∨ (r27_5.toInt = 1 ∧ c_t_thrown_27_5.toInt = 1 ∧ (0 : Int32).toInt ≠ 0) ∨ (r27_5.toInt = 1 ∧ c_t_thrown_27_5.toInt = 2 ∧ (0 : Int32).toInt = 0 ∧ (0 : Int32).toInt ≠ 0) := h15
        refine ok_eq (fun c16 => ?_) (fun c16 => ?_)
        · refine ok_c (ixo (by omega) (by omega)) ?_
          try have a17 := FA_at (f := f_t_forms) (by assumption) p0.toNatClampNeg
          refine ok_o (sp_X9_degreeOf (f_t_forms p0.toNatClampNeg) ) (fun r41 h18 => ?_)
          have h18 : r41.toInt = DG (f_t_forms p0.toNatClampNeg) ∧ -1 ≤ r41.toInt ∧ r41.toInt ≤ 63 := h18
          refine ok_le (fun c19 => ?_) (fun c19 => ?_)
          · refine ok_c (ixo (by omega) (by omega)) ?_
            try have a20 := FA_at (f := f_t_forms) (by assumption) p0.toNatClampNeg
            refine ok_o (sp_X9_isPrimeNow (f_t_forms p0.toNatClampNeg) (by first | omega | assumption | trivial | exact wt_of (by assumption) (by omega))) (fun r60 h21 => ?_)
            have h21 : r60.toInt = 0 ∨ r60.toInt = 1 := h21
            refine ok_eq (fun c22 => ?_) (fun c22 => ?_)
            · exact ok_s trivial
            · exact ok_s trivial
          · exact ok_s trivial
        · exfalso; omega
      · first | unfold J_X9_isPrime_22 | skip
        first | unfold J_X9_isPrime_27 | skip
        refine ok_o2 (sp_X9_isThrown (0 : Int32) (1 : Int32) ) (fun r27_6 c_t_thrown_27_6 h23 => ?_)
        have h23 : (r27_6.toInt = 0 ∧ c_t_thrown_27_6.toInt = 0 ∧ (0 : Int32).toInt = 0 ∧ (1 : Int32).toInt = 0) ∨ (r27_6.toInt = 1 ∧ c_t_thrown_27_6.toInt = 1 ∧ (0 : Int32).toInt ≠ 0) ∨ (r27_6.toInt = 1 ∧ c_t_thrown_27_6.toInt = 2 ∧ (0 : Int32).toInt = 0 ∧ (1 : Int32).toInt ≠ 0) := h23
        refine ok_eq (fun c24 => ?_) (fun c24 => ?_)
        · exfalso; omega
        · exact ok_s trivial
set_option maxHeartbeats 1000000 in
theorem sp_X9_primes (p0 : Int32) (p1 : Int32)  : ok (F_X9_primes p0 p1) (fun r => True) := by
  have l032 : (0 : Int32).toInt = 0 := by decide
  have l132 : (1 : Int32).toInt = 1 := by decide
  have l632 : (6 : Int32).toInt = 6 := by decide
  have l1032 : (10 : Int32).toInt = 10 := by decide
  unfold F_X9_primes
  refine ok_lt (fun c1 => ?_) (fun c1 => ?_)
  · refine ok_o2 (sp_X9_isThrown_ (1 : Int32) ) (fun r35 c_t_thrown_35 h2 => ?_)
    have h2 : (r35.toInt = 0 ∧ c_t_thrown_35.toInt = 0 ∧ (1 : Int32).toInt = 0) ∨ (r35.toInt = 1 ∧ c_t_thrown_35.toInt = 1 ∧ (1 : Int32).toInt ≠ 0) := h2
    refine ok_eq (fun c3 => ?_) (fun c3 => ?_)
    · exfalso; omega
    · exact ok_s trivial
  · refine ok_lt (fun c4 => ?_) (fun c4 => ?_)
    · refine ok_o2 (sp_X9_isThrown_ (1 : Int32) ) (fun r35_2 c_t_thrown_35_2 h5 => ?_)
      have h5 : (r35_2.toInt = 0 ∧ c_t_thrown_35_2.toInt = 0 ∧ (1 : Int32).toInt = 0) ∨ (r35_2.toInt = 1 ∧ c_t_thrown_35_2.toInt = 1 ∧ (1 : Int32).toInt ≠ 0) := h5
      refine ok_eq (fun c6 => ?_) (fun c6 => ?_)
      · exfalso; omega
      · exact ok_s trivial
    · refine ok_lt (fun c7 => ?_) (fun c7 => ?_)
      · refine ok_o2 (sp_X9_isThrown_ (1 : Int32) ) (fun r35_3 c_t_thrown_35_3 h8 => ?_)
        have h8 : (r35_3.toInt = 0 ∧ c_t_thrown_35_3.toInt = 0 ∧ (1 : Int32).toInt = 0) ∨ (r35_3.toInt = 1 ∧ c_t_thrown_35_3.toInt = 1 ∧ (1 : Int32).toInt ≠ 0) := h8
        refine ok_eq (fun c9 => ?_) (fun c9 => ?_)
        · exfalso; omega
        · exact ok_s trivial
      · refine ok_eq (fun c10 => ?_) (fun c10 => ?_)
        · refine ok_le (fun c11 => ?_) (fun c11 => ?_)
          · refine ok_o2 (sp_X9_isThrown_ (0 : Int32) ) (fun r35_4 c_t_thrown_35_4 h12 => ?_)
            have h12 : (r35_4.toInt = 0 ∧ c_t_thrown_35_4.toInt = 0 ∧ (0 : Int32).toInt = 0) ∨ (r35_4.toInt = 1 ∧ c_t_thrown_35_4.toInt = 1 ∧ (0 : Int32).toInt ≠ 0) := h12
            refine ok_eq (fun c13 => ?_) (fun c13 => ?_)
            · refine ok_o (sp_X9_primesOf p0 (by first | omega | assumption | trivial | exact wt_of (by assumption) (by omega)) (by first | omega | assumption | trivial | exact wt_of (by assumption) (by omega))) (fun r46 h14 => ?_)
              exact ok_s trivial
            · exfalso; omega
          · refine ok_o2 (sp_X9_isThrown_ (1 : Int32) ) (fun r35_5 c_t_thrown_35_5 h15 => ?_)
            have h15 : (r35_5.toInt = 0 ∧ c_t_thrown_35_5.toInt = 0 ∧ (1 : Int32).toInt = 0) ∨ (r35_5.toInt = 1 ∧ c_t_thrown_35_5.toInt = 1 ∧ (1 : Int32).toInt ≠ 0) := h15
            refine ok_eq (fun c16 => ?_) (fun c16 => ?_)
            · exfalso; omega
            · exact ok_s trivial
        · refine ok_le (fun c17 => ?_) (fun c17 => ?_)
          · refine ok_o2 (sp_X9_isThrown_ (0 : Int32) ) (fun r35_6 c_t_thrown_35_6 h18 => ?_)
            have h18 : (r35_6.toInt = 0 ∧ c_t_thrown_35_6.toInt = 0 ∧ (0 : Int32).toInt = 0) ∨ (r35_6.toInt = 1 ∧ c_t_thrown_35_6.toInt = 1 ∧ (0 : Int32).toInt ≠ 0) := h18
            refine ok_eq (fun c19 => ?_) (fun c19 => ?_)
            · refine ok_o (sp_X9_primesOf p0 (by first | omega | assumption | trivial | exact wt_of (by assumption) (by omega)) (by first | omega | assumption | trivial | exact wt_of (by assumption) (by omega))) (fun r46_2 h20 => ?_)
              exact ok_s trivial
            · exfalso; omega
          · refine ok_o2 (sp_X9_isThrown_ (1 : Int32) ) (fun r35_7 c_t_thrown_35_7 h21 => ?_)
            have h21 : (r35_7.toInt = 0 ∧ c_t_thrown_35_7.toInt = 0 ∧ (1 : Int32).toInt = 0) ∨ (r35_7.toInt = 1 ∧ c_t_thrown_35_7.toInt = 1 ∧ (1 : Int32).toInt ≠ 0) := h21
            refine ok_eq (fun c22 => ?_) (fun c22 => ?_)
            · exfalso; omega
            · exact ok_s trivial
set_option maxHeartbeats 1000000 in
theorem sp_X9_prime (c_t_thrown : Int32) (p0 : Int32) (p1 : Int32)  : ok (F_X9_prime c_t_thrown p0 p1) (fun r => True) := by
  have lm132 : (-1 : Int32).toInt = -1 := by decide
  have l032 : (0 : Int32).toInt = 0 := by decide
  have l132 : (1 : Int32).toInt = 1 := by decide
  have l164 : (1 : Int64).toInt = 1 := by decide
  have l264 : (2 : Int64).toInt = 2 := by decide
  have l632 : (6 : Int32).toInt = 6 := by decide
  have l932 : (9 : Int32).toInt = 9 := by decide
  unfold F_X9_prime
  refine ok_lt (fun c1 => ?_) (fun c1 => ?_)
  · first | unfold J_X9_prime_22 | skip
    first | unfold J_X9_prime_27 | skip
    refine ok_o2 (sp_X9_isThrown_ (1 : Int32) ) (fun r27 c_t_thrown_27 h2 => ?_)
    have h2 : (r27.toInt = 0 ∧ c_t_thrown_27.toInt = 0 ∧ (1 : Int32).toInt = 0) ∨ (r27.toInt = 1 ∧ c_t_thrown_27.toInt = 1 ∧ (1 : Int32).toInt ≠ 0) := h2
    refine ok_eq (fun c3 => ?_) (fun c3 => ?_)
    · exfalso; omega
    · exact ok_s trivial
  · refine ok_lt (fun c4 => ?_) (fun c4 => ?_)
    · first | unfold J_X9_prime_22 | skip
      first | unfold J_X9_prime_27 | skip
      refine ok_o2 (sp_X9_isThrown_ (1 : Int32) ) (fun r27_2 c_t_thrown_27_2 h5 => ?_)
      have h5 : (r27_2.toInt = 0 ∧ c_t_thrown_27_2.toInt = 0 ∧ (1 : Int32).toInt = 0) ∨ (r27_2.toInt = 1 ∧ c_t_thrown_27_2.toInt = 1 ∧ (1 : Int32).toInt ≠ 0) := h5
      refine ok_eq (fun c6 => ?_) (fun c6 => ?_)
      · exfalso; omega
      · exact ok_s trivial
    · refine ok_lt (fun c7 => ?_) (fun c7 => ?_)
      · first | unfold J_X9_prime_22 | skip
        first | unfold J_X9_prime_27 | skip
        refine ok_o2 (sp_X9_isThrown_ (1 : Int32) ) (fun r27_3 c_t_thrown_27_3 h8 => ?_)
        have h8 : (r27_3.toInt = 0 ∧ c_t_thrown_27_3.toInt = 0 ∧ (1 : Int32).toInt = 0) ∨ (r27_3.toInt = 1 ∧ c_t_thrown_27_3.toInt = 1 ∧ (1 : Int32).toInt ≠ 0) := h8
        refine ok_eq (fun c9 => ?_) (fun c9 => ?_)
        · exfalso; omega
        · exact ok_s trivial
      · refine ok_le (fun c10 => ?_) (fun c10 => ?_)
        · first | unfold J_X9_prime_27 | skip
          refine ok_o2 (sp_X9_isThrown_ (0 : Int32) ) (fun r27_4 c_t_thrown_27_4 h11 => ?_)
          have h11 : (r27_4.toInt = 0 ∧ c_t_thrown_27_4.toInt = 0 ∧ (0 : Int32).toInt = 0) ∨ (r27_4.toInt = 1 ∧ c_t_thrown_27_4.toInt = 1 ∧ (0 : Int32).toInt ≠ 0) := h11
          refine ok_eq (fun c12 => ?_) (fun c12 => ?_)
          · refine ok_bx (fun x4_40 e_x4_40 => ?_)
            have hs := sh_b (x := p0) (by omega) (by omega)
            have t_x4_40 : 1 ≤ x4_40.toInt ∧ x4_40.toInt ≤ 64 := by rw [e_x4_40]; exact ⟨hs.1, hs.2.1⟩
            refine ok_L2 (fun y3_42 y4_42 => 1 ≤ y4_42.toInt ∧ y4_42.toInt ≤ 128) (fun y3_42 y4_42 => (129 - y4_42.toInt).toNat) (fun ih42 y3_42 y4_42 hI13 hih13 => ?_) 20000 p1 x4_40 (show 1 ≤ x4_40.toInt ∧ x4_40.toInt ≤ 128 from by first | omega | assumption | trivial | (refine ⟨?_, ?_⟩ <;> first | omega | assumption | trivial | rfl) | (refine ⟨?_, ?_, ?_⟩ <;> first | omega | assumption | trivial | rfl) | (refine ⟨?_, ?_, ?_, ?_⟩ <;> first | omega | assumption | trivial | rfl) | (refine ⟨?_, ?_, ?_, ?_, ?_⟩ <;> first | omega | assumption | trivial | rfl) | (refine ⟨?_, ?_, ?_, ?_, ?_, ?_⟩ <;> first | omega | assumption | trivial | rfl) | (refine ⟨?_, ?_, ?_, ?_, ?_, ?_, ?_⟩ <;> first | omega | assumption | trivial | rfl) | (refine ⟨?_, ?_, ?_, ?_, ?_, ?_, ?_, ?_⟩ <;> first | omega | assumption | trivial | rfl)) (show (129 - x4_40.toInt).toNat < 20000 from by omega)
            have hI13 : 1 ≤ y4_42.toInt ∧ y4_42.toInt ≤ 128 := hI13
            unfold S_X9_prime_42
            refine ok_leL (fun c14 => ?_) (fun c14 => ?_)
            · exact ok_s trivial
            · have hd : DG y4_42 < ((8 : Nat) : Int) := DG_lt (by omega) (show y4_42.toInt < 2 ^ 8 from by omega)
              refine ok_o (sp_X9_isPrimeNow y4_42 (by first | omega | assumption | trivial | exact wt_of (by assumption) (by omega))) (fun r55 h15 => ?_)
              have h15 : r55.toInt = 0 ∨ r55.toInt = 1 := h15
              refine ok_eq (fun c16 => ?_) (fun c16 => ?_)
              · first | unfold J_X9_prime_75 | skip
                refine ok_bx (fun x4_79 e_x4_79 => ?_)
                try have t_x4_79 : x4_79.toInt = y4_42.toInt + 1 := by rw [e_x4_79]; exact addL1 (show (1 : Int64).toInt = 1 from by decide) (by omega) (by omega)
                exact hih13 y3_42 x4_79 (show 1 ≤ x4_79.toInt ∧ x4_79.toInt ≤ 128 from by first | omega | assumption | trivial | (refine ⟨?_, ?_⟩ <;> first | omega | assumption | trivial | rfl) | (refine ⟨?_, ?_, ?_⟩ <;> first | omega | assumption | trivial | rfl) | (refine ⟨?_, ?_, ?_, ?_⟩ <;> first | omega | assumption | trivial | rfl) | (refine ⟨?_, ?_, ?_, ?_, ?_⟩ <;> first | omega | assumption | trivial | rfl) | (refine ⟨?_, ?_, ?_, ?_, ?_, ?_⟩ <;> first | omega | assumption | trivial | rfl) | (refine ⟨?_, ?_, ?_, ?_, ?_, ?_, ?_⟩ <;> first | omega | assumption | trivial | rfl) | (refine ⟨?_, ?_, ?_, ?_, ?_, ?_, ?_, ?_⟩ <;> first | omega | assumption | trivial | rfl)) (show (129 - x4_79.toInt).toNat < (129 - y4_42.toInt).toNat from by omega)
              · refine ok_eq (fun c17 => ?_) (fun c17 => ?_)
                · exact ok_s trivial
                · refine ok_bx (fun x3_72 e_x3_72 => ?_)
                  try have t_x3_72 : x3_72.toInt = y3_42.toInt + (-1) := by rw [e_x3_72]; exact addT1 (show (-1 : Int32).toInt = -1 from by decide) (by omega) (by omega)
                  first | unfold J_X9_prime_75 | skip
                  refine ok_bx (fun x4_79_2 e_x4_79_2 => ?_)
                  try have t_x4_79_2 : x4_79_2.toInt = y4_42.toInt + 1 := by rw [e_x4_79_2]; exact addL1 (show (1 : Int64).toInt = 1 from by decide) (by omega) (by omega)
                  exact hih13 x3_72 x4_79_2 (show 1 ≤ x4_79_2.toInt ∧ x4_79_2.toInt ≤ 128 from by first | omega | assumption | trivial | (refine ⟨?_, ?_⟩ <;> first | omega | assumption | trivial | rfl) | (refine ⟨?_, ?_, ?_⟩ <;> first | omega | assumption | trivial | rfl) | (refine ⟨?_, ?_, ?_, ?_⟩ <;> first | omega | assumption | trivial | rfl) | (refine ⟨?_, ?_, ?_, ?_, ?_⟩ <;> first | omega | assumption | trivial | rfl) | (refine ⟨?_, ?_, ?_, ?_, ?_, ?_⟩ <;> first | omega | assumption | trivial | rfl) | (refine ⟨?_, ?_, ?_, ?_, ?_, ?_, ?_⟩ <;> first | omega | assumption | trivial | rfl) | (refine ⟨?_, ?_, ?_, ?_, ?_, ?_, ?_, ?_⟩ <;> first | omega | assumption | trivial | rfl)) (show (129 - x4_79_2.toInt).toNat < (129 - y4_42.toInt).toNat from by omega)
          · exfalso; omega
        · first | unfold J_X9_prime_22 | skip
          first | unfold J_X9_prime_27 | skip
          refine ok_o2 (sp_X9_isThrown_ (1 : Int32) ) (fun r27_5 c_t_thrown_27_5 h18 => ?_)
          have h18 : (r27_5.toInt = 0 ∧ c_t_thrown_27_5.toInt = 0 ∧ (1 : Int32).toInt = 0) ∨ (r27_5.toInt = 1 ∧ c_t_thrown_27_5.toInt = 1 ∧ (1 : Int32).toInt ≠ 0) := h18
          refine ok_eq (fun c19 => ?_) (fun c19 => ?_)
          · exfalso; omega
          · exact ok_s trivial
set_option maxHeartbeats 1000000 in
theorem sp_X9_period (c_t_thrown : Int32) (f_t_forms : Nat → Int64) (p0 : Int32) (p1 : Int32) (hp0 : FA f_t_forms) : ok (F_X9_period c_t_thrown f_t_forms p0 p1) (fun r => True) := by
  have lm932 : (-9 : Int32).toInt = -9 := by decide
  have l032 : (0 : Int32).toInt = 0 := by decide
  have l132 : (1 : Int32).toInt = 1 := by decide
  have l232 : (2 : Int32).toInt = 2 := by decide
  unfold F_X9_period
  refine ok_o (sp_X9_isForm p0 ) (fun r2 h1 => ?_)
  have h1 : (r2.toInt = 1 ∧ 0 ≤ p0.toInt ∧ p0.toInt ≤ 5) ∨ (r2.toInt = 0 ∧ (p0.toInt < 0 ∨ 6 ≤ p0.toInt)) := h1
  refine ok_eq (fun c2 => ?_) (fun c2 => ?_)
  · first | unfold J_X9_period_13 | skip
    refine ok_lt (fun c3 => ?_) (fun c3 => ?_)
    · first | unfold J_X9_period_22 | skip
      first | unfold J_X9_period_27 | skip
      refine ok_o2 (sp_X9_isThrown (1 : Int32) (1 : Int32) ) (fun r27 c_t_thrown_27 h4 => ?_)
      have h4 : (r27.toInt = 0 ∧ c_t_thrown_27.toInt = 0 ∧ (1 : Int32).toInt = 0 ∧ (1 : Int32).toInt = 0) ∨ (r27.toInt = 1 ∧ c_t_thrown_27.toInt = 1 ∧ (1 : Int32).toInt ≠ 0) ∨ (r27.toInt = 1 ∧ c_t_thrown_27.toInt = 2 ∧ (1 : Int32).toInt = 0 ∧ (1 : Int32).toInt ≠ 0) := h4
      refine ok_eq (fun c5 => ?_) (fun c5 => ?_)
      · exfalso; omega
      · exact ok_s trivial
    · refine ok_le (fun c6 => ?_) (fun c6 => ?_)
      · first | unfold J_X9_period_27 | skip
        refine ok_o2 (sp_X9_isThrown (1 : Int32) (0 : Int32) ) (fun r27_2 c_t_thrown_27_2 h7 => ?_)
        have h7 : (r27_2.toInt = 0 ∧ c_t_thrown_27_2.toInt = 0 ∧ (1 : Int32).toInt = 0 ∧ (0 : Int32).toInt = 0) ∨ (r27_2.toInt = 1 ∧ c_t_thrown_27_2.toInt = 1 ∧ (1 : Int32).toInt ≠ 0) ∨ (r27_2.toInt = 1 ∧ c_t_thrown_27_2.toInt = 2 ∧ (1 : Int32).toInt = 0 ∧ (0 : Int32).toInt ≠ 0) := h7
        refine ok_eq (fun c8 => ?_) (fun c8 => ?_)
        · exfalso; omega
        · exact ok_s trivial
      · first | unfold J_X9_period_22 | skip
        first | unfold J_X9_period_27 | skip
        refine ok_o2 (sp_X9_isThrown (1 : Int32) (1 : Int32) ) (fun r27_3 c_t_thrown_27_3 h9 => ?_)
        have h9 : (r27_3.toInt = 0 ∧ c_t_thrown_27_3.toInt = 0 ∧ (1 : Int32).toInt = 0 ∧ (1 : Int32).toInt = 0) ∨ (r27_3.toInt = 1 ∧ c_t_thrown_27_3.toInt = 1 ∧ (1 : Int32).toInt ≠ 0) ∨ (r27_3.toInt = 1 ∧ c_t_thrown_27_3.toInt = 2 ∧ (1 : Int32).toInt = 0 ∧ (1 : Int32).toInt ≠ 0) := h9
        refine ok_eq (fun c10 => ?_) (fun c10 => ?_)
        · exfalso; omega
        · exact ok_s trivial
  · first | unfold J_X9_period_13 | skip
    refine ok_lt (fun c11 => ?_) (fun c11 => ?_)
    · first | unfold J_X9_period_22 | skip
      first | unfold J_X9_period_27 | skip
      refine ok_o2 (sp_X9_isThrown (0 : Int32) (1 : Int32) ) (fun r27_4 c_t_thrown_27_4 h12 => ?_)
      have h12 : (r27_4.toInt = 0 ∧ c_t_thrown_27_4.toInt = 0 ∧ (0 : Int32).toInt = 0 ∧ (1 : Int32).toInt = 0) ∨ (r27_4.toInt = 1 ∧ c_t_thrown_27_4.toInt = 1 ∧ (0 : Int32).toInt ≠ 0) ∨ (r27_4.toInt = 1 ∧ c_t_thrown_27_4.toInt = 2 ∧ (0 : Int32).toInt = 0 ∧ (1 : Int32).toInt ≠ 0) := h12
      refine ok_eq (fun c13 => ?_) (fun c13 => ?_)
      · exfalso; omega
      · exact ok_s trivial
    · refine ok_le (fun c14 => ?_) (fun c14 => ?_)
      · first | unfold J_X9_period_27 | skip
        refine ok_o2 (sp_X9_isThrown (0 : Int32) (0 : Int32) ) (fun r27_5 c_t_thrown_27_5 h15 => ?_)
        have h15 : (r27_5.toInt = 0 ∧ c_t_thrown_27_5.toInt = 0 ∧ (0 : Int32).toInt = 0 ∧ (0 : Int32).toInt = 0) ∨ (r27_5.toInt = 1 ∧ c_t_thrown_27_5.toInt = 1 ∧ (0 : Int32).toInt ≠ 0) ∨ (r27_5.toInt = 1 ∧ c_t_thrown_27_5.toInt = 2 ∧ (0 : Int32).toInt = 0 ∧ (0 : Int32).toInt ≠ 0) := h15
        refine ok_eq (fun c16 => ?_) (fun c16 => ?_)
        · refine ok_c (ixo (by omega) (by omega)) ?_
          try have a17 := FA_at (f := f_t_forms) (by assumption) p0.toNatClampNeg
          refine ok_o (sp_X9_isWheel (f_t_forms p0.toNatClampNeg) ) (fun r41 h18 => ?_)
          have h18 : (r41.toInt = 0 ∨ r41.toInt = 1) ∧ (r41.toInt ≠ 0 → WT (f_t_forms p0.toNatClampNeg)) := h18
          obtain ⟨h18_0, h18_1⟩ := h18
          refine ok_eq (fun c19 => ?_) (fun c19 => ?_)
          · exact ok_s trivial
          · refine ok_c (ixo (by omega) (by omega)) ?_
            try have a20 := FA_at (f := f_t_forms) (by assumption) p0.toNatClampNeg
            refine ok_o (sp_X9_periodOf (f_t_forms p0.toNatClampNeg) (by first | omega | assumption | trivial | exact wt_of (by assumption) (by omega))) (fun r53 h21 => ?_)
            exact ok_s trivial
        · exfalso; omega
      · first | unfold J_X9_period_22 | skip
        first | unfold J_X9_period_27 | skip
        refine ok_o2 (sp_X9_isThrown (0 : Int32) (1 : Int32) ) (fun r27_6 c_t_thrown_27_6 h22 => ?_)
        have h22 : (r27_6.toInt = 0 ∧ c_t_thrown_27_6.toInt = 0 ∧ (0 : Int32).toInt = 0 ∧ (1 : Int32).toInt = 0) ∨ (r27_6.toInt = 1 ∧ c_t_thrown_27_6.toInt = 1 ∧ (0 : Int32).toInt ≠ 0) ∨ (r27_6.toInt = 1 ∧ c_t_thrown_27_6.toInt = 2 ∧ (0 : Int32).toInt = 0 ∧ (1 : Int32).toInt ≠ 0) := h22
        refine ok_eq (fun c23 => ?_) (fun c23 => ?_)
        · exfalso; omega
        · exact ok_s trivial
set_option maxHeartbeats 1000000 in
theorem sp_X9_rollText (c_t_many : Int32) (f_t_roll : Nat → Int64) (p0 : Int32) (hp0 : 0 ≤ c_t_many.toInt) (hp1 : c_t_many.toInt ≤ 12) (hp2 : FA f_t_roll) : ok (F_X9_rollText c_t_many f_t_roll p0) (fun r => True) := by
  have l032 : (0 : Int32).toInt = 0 := by decide
  have l132 : (1 : Int32).toInt = 1 := by decide
  unfold F_X9_rollText
  refine ok_lt (fun c1 => ?_) (fun c1 => ?_)
  · refine ok_o2 (sp_X9_isThrown_ (1 : Int32) ) (fun r18 c_t_thrown_18 h2 => ?_)
    have h2 : (r18.toInt = 0 ∧ c_t_thrown_18.toInt = 0 ∧ (1 : Int32).toInt = 0) ∨ (r18.toInt = 1 ∧ c_t_thrown_18.toInt = 1 ∧ (1 : Int32).toInt ≠ 0) := h2
    refine ok_eq (fun c3 => ?_) (fun c3 => ?_)
    · exfalso; omega
    · exact ok_s trivial
  · refine ok_lt (fun c4 => ?_) (fun c4 => ?_)
    · refine ok_o2 (sp_X9_isThrown_ (0 : Int32) ) (fun r18_2 c_t_thrown_18_2 h5 => ?_)
      have h5 : (r18_2.toInt = 0 ∧ c_t_thrown_18_2.toInt = 0 ∧ (0 : Int32).toInt = 0) ∨ (r18_2.toInt = 1 ∧ c_t_thrown_18_2.toInt = 1 ∧ (0 : Int32).toInt ≠ 0) := h5
      refine ok_eq (fun c6 => ?_) (fun c6 => ?_)
      · refine ok_c (ixo (by omega) (by omega)) ?_
        try have a7 := FA_at (f := f_t_roll) (by assumption) p0.toNatClampNeg
        refine ok_o (sp_X9_textOf (f_t_roll p0.toNatClampNeg) (by first | omega | assumption | trivial | exact wt_of (by assumption) (by omega))) (fun u35 h8 => ?_)
        exact ok_s trivial
      · exfalso; omega
    · refine ok_o2 (sp_X9_isThrown_ (1 : Int32) ) (fun r18_3 c_t_thrown_18_3 h9 => ?_)
      have h9 : (r18_3.toInt = 0 ∧ c_t_thrown_18_3.toInt = 0 ∧ (1 : Int32).toInt = 0) ∨ (r18_3.toInt = 1 ∧ c_t_thrown_18_3.toInt = 1 ∧ (1 : Int32).toInt ≠ 0) := h9
      refine ok_eq (fun c10 => ?_) (fun c10 => ?_)
      · exfalso; omega
      · exact ok_s trivial
set_option maxHeartbeats 1000000 in
theorem sp_X9_rowText (c_t_taps : Int64) (c_t_cells : Int32) (hp0 : CT c_t_taps c_t_cells) : ok (F_X9_rowText c_t_taps c_t_cells) (fun r => True) := by
  have l032 : (0 : Int32).toInt = 0 := by decide
  have l132 : (1 : Int32).toInt = 1 := by decide
  have hct := CT_g hp0
  unfold F_X9_rowText
  refine ok_o3 (sp_J4_init_da8c8  ) (fun c_n5_coder_9 n_n5_value_9 f_n5_value_9 h1 => ?_)
  have h1 : c_n5_coder_9 = 0 ∧ CAP n_n5_value_9 ∧ n_n5_value_9 = 16 ∧ BY f_n5_value_9 := h1
  obtain ⟨h1_0, h1_1, h1_2, h1_3⟩ := h1
  refine ok_L4 (fun y2_15 c_n5_count_15 n_n5_value_15 f_n5_value_15 => CAP n_n5_value_15 ∧ BY f_n5_value_15 ∧ 0 ≤ y2_15.toInt ∧ y2_15.toInt ≤ 64 ∧ 0 ≤ c_n5_count_15.toInt ∧ c_n5_count_15.toInt ≤ (n_n5_value_15 : Int) ∧ c_n5_count_15.toInt ≤ 3 * (y2_15.toInt)) (fun y2_15 c_n5_count_15 n_n5_value_15 f_n5_value_15 => (65 - y2_15.toInt).toNat) (fun ih15 y2_15 c_n5_count_15 n_n5_value_15 f_n5_value_15 hI2 hih2 => ?_) 66 (0 : Int32) (0 : Int32) n_n5_value_9 f_n5_value_9 (show CAP n_n5_value_9 ∧ BY f_n5_value_9 ∧ 0 ≤ (0 : Int32).toInt ∧ (0 : Int32).toInt ≤ 64 ∧ 0 ≤ (0 : Int32).toInt ∧ (0 : Int32).toInt ≤ (n_n5_value_9 : Int) ∧ (0 : Int32).toInt ≤ 3 * ((0 : Int32).toInt) from by first | omega | assumption | trivial | (refine ⟨?_, ?_⟩ <;> first | omega | assumption | trivial | rfl) | (refine ⟨?_, ?_, ?_⟩ <;> first | omega | assumption | trivial | rfl) | (refine ⟨?_, ?_, ?_, ?_⟩ <;> first | omega | assumption | trivial | rfl) | (refine ⟨?_, ?_, ?_, ?_, ?_⟩ <;> first | omega | assumption | trivial | rfl) | (refine ⟨?_, ?_, ?_, ?_, ?_, ?_⟩ <;> first | omega | assumption | trivial | rfl) | (refine ⟨?_, ?_, ?_, ?_, ?_, ?_, ?_⟩ <;> first | omega | assumption | trivial | rfl) | (refine ⟨?_, ?_, ?_, ?_, ?_, ?_, ?_, ?_⟩ <;> first | omega | assumption | trivial | rfl)) (show (65 - (0 : Int32).toInt).toNat < 66 from by omega)
  have hI2 : CAP n_n5_value_15 ∧ BY f_n5_value_15 ∧ 0 ≤ y2_15.toInt ∧ y2_15.toInt ≤ 64 ∧ 0 ≤ c_n5_count_15.toInt ∧ c_n5_count_15.toInt ≤ (n_n5_value_15 : Int) ∧ c_n5_count_15.toInt ≤ 3 * (y2_15.toInt) := hI2
  obtain ⟨hI2_0, hI2_1, hI2_2, hI2_3, hI2_4, hI2_5, hI2_6⟩ := hI2
  unfold S_X9_rowText_15
  refine ok_o (sp_X9_degreeOf c_t_taps ) (fun r20 h3 => ?_)
  have h3 : r20.toInt = DG c_t_taps ∧ -1 ≤ r20.toInt ∧ r20.toInt ≤ 63 := h3
  refine ok_le (fun c4 => ?_) (fun c4 => ?_)
  · refine ok_o (sp_J4_toString_0e30d c_n5_coder_9 c_n5_count_15 n_n5_value_15 f_n5_value_15 (by first | omega | assumption | trivial | exact wt_of (by assumption) (by omega)) (by first | omega | assumption | trivial | exact wt_of (by assumption) (by omega)) (by first | omega | assumption | trivial | exact wt_of (by assumption) (by omega)) (by first | omega | assumption | trivial | exact wt_of (by assumption) (by omega)) (by first | omega | assumption | trivial | exact wt_of (by assumption) (by omega))) (fun u46 h5 => ?_)
    exact ok_s trivial
  · have hb := and1k (c_t_cells >>> (y2_15 &&& 31))
    refine ok_o3 (sp_J4_append_bf812 c_n5_coder_9 c_n5_count_15 n_n5_value_15 f_n5_value_15 ((c_t_cells >>> (y2_15 &&& 31)) &&& (1 : Int32)) (by first | omega | assumption | trivial | exact wt_of (by assumption) (by omega)) (by first | omega | assumption | trivial | exact wt_of (by assumption) (by omega)) (by first | omega | assumption | trivial | exact wt_of (by assumption) (by omega)) (by first | omega | assumption | trivial | exact wt_of (by assumption) (by omega)) (by first | omega | assumption | trivial | exact wt_of (by assumption) (by omega)) (by first | omega | assumption | trivial | exact wt_of (by assumption) (by omega)) (by first | omega | assumption | trivial | exact wt_of (by assumption) (by omega)) (by first | omega | assumption | trivial | exact wt_of (by assumption) (by omega))) (fun c_n5_count_35 n_n5_value_35 f_n5_value_35 h6 => ?_)
    have h6 : c_n5_count_15.toInt + 1 ≤ c_n5_count_35.toInt ∧ c_n5_count_35.toInt ≤ c_n5_count_15.toInt + 2 ∧ c_n5_count_35.toInt ≤ n_n5_value_35 ∧ CAP n_n5_value_35 ∧ BY f_n5_value_35 := h6
    obtain ⟨h6_0, h6_1, h6_2, h6_3, h6_4⟩ := h6
    refine ok_bx (fun x2_39 e_x2_39 => ?_)
    try have t_x2_39 : x2_39.toInt = y2_15.toInt + 1 := by rw [e_x2_39]; exact addT1 (show (1 : Int32).toInt = 1 from by decide) (by omega) (by omega)
    exact hih2 x2_39 c_n5_count_35 n_n5_value_35 f_n5_value_35 (show CAP n_n5_value_35 ∧ BY f_n5_value_35 ∧ 0 ≤ x2_39.toInt ∧ x2_39.toInt ≤ 64 ∧ 0 ≤ c_n5_count_35.toInt ∧ c_n5_count_35.toInt ≤ (n_n5_value_35 : Int) ∧ c_n5_count_35.toInt ≤ 3 * (x2_39.toInt) from by first | omega | assumption | trivial | (refine ⟨?_, ?_⟩ <;> first | omega | assumption | trivial | rfl) | (refine ⟨?_, ?_, ?_⟩ <;> first | omega | assumption | trivial | rfl) | (refine ⟨?_, ?_, ?_, ?_⟩ <;> first | omega | assumption | trivial | rfl) | (refine ⟨?_, ?_, ?_, ?_, ?_⟩ <;> first | omega | assumption | trivial | rfl) | (refine ⟨?_, ?_, ?_, ?_, ?_, ?_⟩ <;> first | omega | assumption | trivial | rfl) | (refine ⟨?_, ?_, ?_, ?_, ?_, ?_, ?_⟩ <;> first | omega | assumption | trivial | rfl) | (refine ⟨?_, ?_, ?_, ?_, ?_, ?_, ?_, ?_⟩ <;> first | omega | assumption | trivial | rfl)) (show (65 - x2_39.toInt).toNat < (65 - y2_15.toInt).toNat from by omega)
set_option maxHeartbeats 1000000 in
theorem sp_X9_told (c_t_many : Int32) (c_t_taps : Int64) (c_t_acts : Int32) (c_t_refused : Int32) (c_t_knocks : Int32) (f_t_forms : Nat → Int64) (p0 : Int32) (hp0 : 0 ≤ c_t_many.toInt) (hp1 : c_t_many.toInt ≤ 12) (hp2 : FA f_t_forms) : ok (F_X9_told c_t_many c_t_taps c_t_acts c_t_refused c_t_knocks f_t_forms p0) (fun r => True) := by
  have l032 : (0 : Int32).toInt = 0 := by decide
  have l132 : (1 : Int32).toInt = 1 := by decide
  have l232 : (2 : Int32).toInt = 2 := by decide
  have l332 : (3 : Int32).toInt = 3 := by decide
  have l432 : (4 : Int32).toInt = 4 := by decide
  have l632 : (6 : Int32).toInt = 6 := by decide
  unfold F_X9_told
  refine ok_L2 (fun y2_14 y5_14 => 0 ≤ y5_14.toInt) (fun y2_14 y5_14 => (7 - y5_14.toInt).toNat) (fun ih14 y2_14 y5_14 hI1 hih1 => ?_) 20000 (0 : Int32) (0 : Int32) (show 0 ≤ (0 : Int32).toInt from by first | omega | assumption | trivial | (refine ⟨?_, ?_⟩ <;> first | omega | assumption | trivial | rfl) | (refine ⟨?_, ?_, ?_⟩ <;> first | omega | assumption | trivial | rfl) | (refine ⟨?_, ?_, ?_, ?_⟩ <;> first | omega | assumption | trivial | rfl) | (refine ⟨?_, ?_, ?_, ?_, ?_⟩ <;> first | omega | assumption | trivial | rfl) | (refine ⟨?_, ?_, ?_, ?_, ?_, ?_⟩ <;> first | omega | assumption | trivial | rfl) | (refine ⟨?_, ?_, ?_, ?_, ?_, ?_, ?_⟩ <;> first | omega | assumption | trivial | rfl) | (refine ⟨?_, ?_, ?_, ?_, ?_, ?_, ?_, ?_⟩ <;> first | omega | assumption | trivial | rfl)) (show (7 - (0 : Int32).toInt).toNat < 20000 from by omega)
  have hI1 : 0 ≤ y5_14.toInt := hI1
  unfold S_X9_told_14
  refine ok_le (fun c2 => ?_) (fun c2 => ?_)
  · refine ok_eq (fun c3 => ?_) (fun c3 => ?_)
    · exact ok_s trivial
    · refine ok_eq (fun c4 => ?_) (fun c4 => ?_)
      · exact ok_s trivial
      · refine ok_eq (fun c5 => ?_) (fun c5 => ?_)
        · exact ok_s trivial
        · refine ok_eq (fun c6 => ?_) (fun c6 => ?_)
          · exact ok_s trivial
          · refine ok_eq (fun c7 => ?_) (fun c7 => ?_)
            · exact ok_s trivial
            · exact ok_s trivial
  · refine ok_c (ixo (by omega) (by omega)) ?_
    try have a8 := FA_at (f := f_t_forms) (by assumption) y5_14.toNatClampNeg
    refine ok_bx (fun x6_25 e_x6_25 => ?_)
    try have q_x6_25 : DG x6_25 = DG (f_t_forms y5_14.toNatClampNeg) := by rw [e_x6_25]
    try have d_x6_25 : -1 ≤ DG x6_25 ∧ DG x6_25 ≤ 39 := by rw [e_x6_25]; exact FA_at (by assumption) _
    refine ok_o (sp_X9_onesOf x6_25 ) (fun r30 h9 => ?_)
    have h9 : 0 ≤ r30.toInt ∧ r30.toInt ≤ 127 := h9
    refine ok_bx (fun x2_34 e_x2_34 => ?_)
    try have t_x2_34 : x2_34.toInt = y2_14.toInt + r30.toInt := by rw [e_x2_34]; exact addT1 (Eq.refl _) (by omega) (by omega)
    refine ok_bx (fun x5_35 e_x5_35 => ?_)
    try have t_x5_35 : x5_35.toInt = y5_14.toInt + 1 := by rw [e_x5_35]; exact addT1 (show (1 : Int32).toInt = 1 from by decide) (by omega) (by omega)
    exact hih1 x2_34 x5_35 (show 0 ≤ x5_35.toInt from by first | omega | assumption | trivial | (refine ⟨?_, ?_⟩ <;> first | omega | assumption | trivial | rfl) | (refine ⟨?_, ?_, ?_⟩ <;> first | omega | assumption | trivial | rfl) | (refine ⟨?_, ?_, ?_, ?_⟩ <;> first | omega | assumption | trivial | rfl) | (refine ⟨?_, ?_, ?_, ?_, ?_⟩ <;> first | omega | assumption | trivial | rfl) | (refine ⟨?_, ?_, ?_, ?_, ?_, ?_⟩ <;> first | omega | assumption | trivial | rfl) | (refine ⟨?_, ?_, ?_, ?_, ?_, ?_, ?_⟩ <;> first | omega | assumption | trivial | rfl) | (refine ⟨?_, ?_, ?_, ?_, ?_, ?_, ?_, ?_⟩ <;> first | omega | assumption | trivial | rfl)) (show (7 - x5_35.toInt).toNat < (7 - y5_14.toInt).toNat from by omega)
set_option maxHeartbeats 1000000 in
theorem sp_X9_house (c_t_many : Int32) (c_t_taps : Int64) (c_t_acts : Int32) (c_t_refused : Int32) (c_t_knocks : Int32) (f_t_forms : Nat → Int64) (p0 : Int32) (hp0 : 0 ≤ c_t_many.toInt) (hp1 : c_t_many.toInt ≤ 12) (hp2 : FA f_t_forms) : ok (F_X9_house c_t_many c_t_taps c_t_acts c_t_refused c_t_knocks f_t_forms p0) (fun r => True) := by
  have l032 : (0 : Int32).toInt = 0 := by decide
  have l132 : (1 : Int32).toInt = 1 := by decide
  have l532 : (5 : Int32).toInt = 5 := by decide
  unfold F_X9_house
  refine ok_lt (fun c1 => ?_) (fun c1 => ?_)
  · refine ok_o2 (sp_X9_isThrown_ (1 : Int32) ) (fun r15 c_t_thrown_15 h2 => ?_)
    have h2 : (r15.toInt = 0 ∧ c_t_thrown_15.toInt = 0 ∧ (1 : Int32).toInt = 0) ∨ (r15.toInt = 1 ∧ c_t_thrown_15.toInt = 1 ∧ (1 : Int32).toInt ≠ 0) := h2
    refine ok_eq (fun c3 => ?_) (fun c3 => ?_)
    · exfalso; omega
    · exact ok_s trivial
  · refine ok_le (fun c4 => ?_) (fun c4 => ?_)
    · refine ok_o2 (sp_X9_isThrown_ (0 : Int32) ) (fun r15_2 c_t_thrown_15_2 h5 => ?_)
      have h5 : (r15_2.toInt = 0 ∧ c_t_thrown_15_2.toInt = 0 ∧ (0 : Int32).toInt = 0) ∨ (r15_2.toInt = 1 ∧ c_t_thrown_15_2.toInt = 1 ∧ (0 : Int32).toInt ≠ 0) := h5
      refine ok_eq (fun c6 => ?_) (fun c6 => ?_)
      · refine ok_o (sp_X9_told c_t_many c_t_taps c_t_acts c_t_refused c_t_knocks f_t_forms p0 (by first | omega | assumption | trivial | exact wt_of (by assumption) (by omega)) (by first | omega | assumption | trivial | exact wt_of (by assumption) (by omega)) (by first | omega | assumption | trivial | exact wt_of (by assumption) (by omega))) (fun r27 h7 => ?_)
        exact ok_s trivial
      · exfalso; omega
    · refine ok_o2 (sp_X9_isThrown_ (1 : Int32) ) (fun r15_3 c_t_thrown_15_3 h8 => ?_)
      have h8 : (r15_3.toInt = 0 ∧ c_t_thrown_15_3.toInt = 0 ∧ (1 : Int32).toInt = 0) ∨ (r15_3.toInt = 1 ∧ c_t_thrown_15_3.toInt = 1 ∧ (1 : Int32).toInt ≠ 0) := h8
      refine ok_eq (fun c9 => ?_) (fun c9 => ?_)
      · exfalso; omega
      · exact ok_s trivial
set_option maxHeartbeats 1000000 in
theorem sp_X9_knock (c_t_knocks : Int32)  : ok (F_X9_knock c_t_knocks) (fun r => r.1 = c_t_knocks + 1 ∧ r.2.1 = c_t_knocks + 1) := by
  have l032 : (0 : Int32).toInt = 0 := by decide
  have l132 : (1 : Int32).toInt = 1 := by decide
  unfold F_X9_knock
  refine ok_bx (fun c_t_knocks_12 e_c_t_knocks_12 => ?_)
  try have t_c_t_knocks_12 : c_t_knocks_12.toInt = c_t_knocks.toInt + 1 := by rw [e_c_t_knocks_12]; exact addT1 (show (1 : Int32).toInt = 1 from by decide) (by omega) (by omega)
  exact ok_s (show c_t_knocks_12 = c_t_knocks + 1 ∧ c_t_knocks_12 = c_t_knocks + 1 from by exact ⟨e_c_t_knocks_12, e_c_t_knocks_12⟩)
set_option maxHeartbeats 1000000 in
theorem sp_X9_isSound   : ok (F_X9_isSound) (fun r => True) := by
  have l032 : (0 : Int32).toInt = 0 := by decide
  have l132 : (1 : Int32).toInt = 1 := by decide
  unfold F_X9_isSound
  exact ok_s trivial
set_option maxHeartbeats 1000000 in
theorem sp_X9_add_ (p0 : Int64) (p1 : Int64)  : ok (F_X9_add_ p0 p1) (fun r => True) := by
  have l3164 : (31 : Int64).toInt = 31 := by decide
  unfold F_X9_add_
  exact ok_s trivial
set_option maxHeartbeats 1000000 in
theorem sp_X9_digest (c_t_many : Int32) (c_t_taps : Int64) (c_t_cells : Int32) (c_t_acts : Int32) (c_t_refused : Int32) (c_t_knocks : Int32) (f_t_forms : Nat → Int64) (f_t_roll : Nat → Int64) (hp0 : 0 ≤ c_t_many.toInt) (hp1 : c_t_many.toInt ≤ 12) (hp2 : FA f_t_forms) (hp3 : FA f_t_roll) (hp4 : CT c_t_taps c_t_cells) : ok (F_X9_digest c_t_many c_t_taps c_t_cells c_t_acts c_t_refused c_t_knocks f_t_forms f_t_roll) (fun r => True) := by
  have lm132 : (-1 : Int32).toInt = -1 := by decide
  have l032 : (0 : Int32).toInt = 0 := by decide
  have l132 : (1 : Int32).toInt = 1 := by decide
  have l164 : (1 : Int64).toInt = 1 := by decide
  have l532 : (5 : Int32).toInt = 5 := by decide
  have l632 : (6 : Int32).toInt = 6 := by decide
  have l3932 : (39 : Int32).toInt = 39 := by decide
  have l802964 : (8029 : Int64).toInt = 8029 := by decide
  unfold F_X9_digest
  refine ok_L2 (fun y1_21 y5_21 => 0 ≤ y5_21.toInt) (fun y1_21 y5_21 => (7 - y5_21.toInt).toNat) (fun ih21 y1_21 y5_21 hI1 hih1 => ?_) 20000 (8029 : Int64) (0 : Int32) (show 0 ≤ (0 : Int32).toInt from by first | omega | assumption | trivial | (refine ⟨?_, ?_⟩ <;> first | omega | assumption | trivial | rfl) | (refine ⟨?_, ?_, ?_⟩ <;> first | omega | assumption | trivial | rfl) | (refine ⟨?_, ?_, ?_, ?_⟩ <;> first | omega | assumption | trivial | rfl) | (refine ⟨?_, ?_, ?_, ?_, ?_⟩ <;> first | omega | assumption | trivial | rfl) | (refine ⟨?_, ?_, ?_, ?_, ?_, ?_⟩ <;> first | omega | assumption | trivial | rfl) | (refine ⟨?_, ?_, ?_, ?_, ?_, ?_, ?_⟩ <;> first | omega | assumption | trivial | rfl) | (refine ⟨?_, ?_, ?_, ?_, ?_, ?_, ?_, ?_⟩ <;> first | omega | assumption | trivial | rfl)) (show (7 - (0 : Int32).toInt).toNat < 20000 from by omega)
  have hI1 : 0 ≤ y5_21.toInt := hI1
  unfold S_X9_digest_21
  refine ok_le (fun c2 => ?_) (fun c2 => ?_)
  · refine ok_o (sp_X9_add_ y1_21 c_t_many.toInt64 ) (fun r105 h3 => ?_)
    refine ok_L2 (fun y1_111 y3_111 => 0 ≤ y3_111.toInt) (fun y1_111 y3_111 => (c_t_many.toInt - y3_111.toInt + 1).toNat) (fun ih111 y1_111 y3_111 hI4 hih4 => ?_) 20000 r105 (0 : Int32) (show 0 ≤ (0 : Int32).toInt from by first | omega | assumption | trivial | (refine ⟨?_, ?_⟩ <;> first | omega | assumption | trivial | rfl) | (refine ⟨?_, ?_, ?_⟩ <;> first | omega | assumption | trivial | rfl) | (refine ⟨?_, ?_, ?_, ?_⟩ <;> first | omega | assumption | trivial | rfl) | (refine ⟨?_, ?_, ?_, ?_, ?_⟩ <;> first | omega | assumption | trivial | rfl) | (refine ⟨?_, ?_, ?_, ?_, ?_, ?_⟩ <;> first | omega | assumption | trivial | rfl) | (refine ⟨?_, ?_, ?_, ?_, ?_, ?_, ?_⟩ <;> first | omega | assumption | trivial | rfl) | (refine ⟨?_, ?_, ?_, ?_, ?_, ?_, ?_, ?_⟩ <;> first | omega | assumption | trivial | rfl)) (show (c_t_many.toInt - (0 : Int32).toInt + 1).toNat < 20000 from by omega)
    have hI4 : 0 ≤ y3_111.toInt := hI4
    unfold S_X9_digest_111
    refine ok_le (fun c5 => ?_) (fun c5 => ?_)
    · refine ok_o (sp_X9_add_ y1_111 c_t_taps ) (fun r158 h6 => ?_)
      refine ok_L2 (fun y1_164 y3_164 => 0 ≤ y3_164.toInt) (fun y1_164 y3_164 => (70 - y3_164.toInt).toNat) (fun ih164 y1_164 y3_164 hI7 hih7 => ?_) 20000 r158 (0 : Int32) (show 0 ≤ (0 : Int32).toInt from by first | omega | assumption | trivial | (refine ⟨?_, ?_⟩ <;> first | omega | assumption | trivial | rfl) | (refine ⟨?_, ?_, ?_⟩ <;> first | omega | assumption | trivial | rfl) | (refine ⟨?_, ?_, ?_, ?_⟩ <;> first | omega | assumption | trivial | rfl) | (refine ⟨?_, ?_, ?_, ?_, ?_⟩ <;> first | omega | assumption | trivial | rfl) | (refine ⟨?_, ?_, ?_, ?_, ?_, ?_⟩ <;> first | omega | assumption | trivial | rfl) | (refine ⟨?_, ?_, ?_, ?_, ?_, ?_, ?_⟩ <;> first | omega | assumption | trivial | rfl) | (refine ⟨?_, ?_, ?_, ?_, ?_, ?_, ?_, ?_⟩ <;> first | omega | assumption | trivial | rfl)) (show (70 - (0 : Int32).toInt).toNat < 20000 from by omega)
      have hI7 : 0 ≤ y3_164.toInt := hI7
      unfold S_X9_digest_164
      refine ok_o (sp_X9_degreeOf c_t_taps ) (fun r169 h8 => ?_)
      have h8 : r169.toInt = DG c_t_taps ∧ -1 ≤ r169.toInt ∧ r169.toInt ≤ 63 := h8
      refine ok_le (fun c9 => ?_) (fun c9 => ?_)
      · refine ok_L2 (fun y1_197 y3_197 => 0 ≤ y3_197.toInt) (fun y1_197 y3_197 => (6 - y3_197.toInt).toNat) (fun ih197 y1_197 y3_197 hI10 hih10 => ?_) 20000 y1_164 (0 : Int32) (show 0 ≤ (0 : Int32).toInt from by first | omega | assumption | trivial | (refine ⟨?_, ?_⟩ <;> first | omega | assumption | trivial | rfl) | (refine ⟨?_, ?_, ?_⟩ <;> first | omega | assumption | trivial | rfl) | (refine ⟨?_, ?_, ?_, ?_⟩ <;> first | omega | assumption | trivial | rfl) | (refine ⟨?_, ?_, ?_, ?_, ?_⟩ <;> first | omega | assumption | trivial | rfl) | (refine ⟨?_, ?_, ?_, ?_, ?_, ?_⟩ <;> first | omega | assumption | trivial | rfl) | (refine ⟨?_, ?_, ?_, ?_, ?_, ?_, ?_⟩ <;> first | omega | assumption | trivial | rfl) | (refine ⟨?_, ?_, ?_, ?_, ?_, ?_, ?_, ?_⟩ <;> first | omega | assumption | trivial | rfl)) (show (6 - (0 : Int32).toInt).toNat < 20000 from by omega)
        have hI10 : 0 ≤ y3_197.toInt := hI10
        unfold S_X9_digest_197
        refine ok_lt (fun c11 => ?_) (fun c11 => ?_)
        · refine ok_o (sp_X9_add_ y1_197 (1 : Int64) ) (fun r221 h12 => ?_)
          exact ok_s trivial
        · refine ok_o (sp_X9_told c_t_many c_t_taps c_t_acts c_t_refused c_t_knocks f_t_forms y3_197 (by first | omega | assumption | trivial | exact wt_of (by assumption) (by omega)) (by first | omega | assumption | trivial | exact wt_of (by assumption) (by omega)) (by first | omega | assumption | trivial | exact wt_of (by assumption) (by omega))) (fun r205 h13 => ?_)
          refine ok_o (sp_X9_add_ y1_197 r205.toInt64 ) (fun r209 h14 => ?_)
          refine ok_bx (fun x3_213 e_x3_213 => ?_)
          try have t_x3_213 : x3_213.toInt = y3_197.toInt + 1 := by rw [e_x3_213]; exact addT1 (show (1 : Int32).toInt = 1 from by decide) (by omega) (by omega)
          exact hih10 r209 x3_213 (show 0 ≤ x3_213.toInt from by first | omega | assumption | trivial | (refine ⟨?_, ?_⟩ <;> first | omega | assumption | trivial | rfl) | (refine ⟨?_, ?_, ?_⟩ <;> first | omega | assumption | trivial | rfl) | (refine ⟨?_, ?_, ?_, ?_⟩ <;> first | omega | assumption | trivial | rfl) | (refine ⟨?_, ?_, ?_, ?_, ?_⟩ <;> first | omega | assumption | trivial | rfl) | (refine ⟨?_, ?_, ?_, ?_, ?_, ?_⟩ <;> first | omega | assumption | trivial | rfl) | (refine ⟨?_, ?_, ?_, ?_, ?_, ?_, ?_⟩ <;> first | omega | assumption | trivial | rfl) | (refine ⟨?_, ?_, ?_, ?_, ?_, ?_, ?_, ?_⟩ <;> first | omega | assumption | trivial | rfl)) (show (6 - x3_213.toInt).toNat < (6 - y3_197.toInt).toNat from by omega)
      · refine ok_o (sp_X9_add_ y1_164 (((c_t_cells >>> (y3_164 &&& 31)) &&& (1 : Int32)).toInt64) ) (fun r185 h15 => ?_)
        refine ok_bx (fun x3_189 e_x3_189 => ?_)
        try have t_x3_189 : x3_189.toInt = y3_164.toInt + 1 := by rw [e_x3_189]; exact addT1 (show (1 : Int32).toInt = 1 from by decide) (by omega) (by omega)
        exact hih7 r185 x3_189 (show 0 ≤ x3_189.toInt from by first | omega | assumption | trivial | (refine ⟨?_, ?_⟩ <;> first | omega | assumption | trivial | rfl) | (refine ⟨?_, ?_, ?_⟩ <;> first | omega | assumption | trivial | rfl) | (refine ⟨?_, ?_, ?_, ?_⟩ <;> first | omega | assumption | trivial | rfl) | (refine ⟨?_, ?_, ?_, ?_, ?_⟩ <;> first | omega | assumption | trivial | rfl) | (refine ⟨?_, ?_, ?_, ?_, ?_, ?_⟩ <;> first | omega | assumption | trivial | rfl) | (refine ⟨?_, ?_, ?_, ?_, ?_, ?_, ?_⟩ <;> first | omega | assumption | trivial | rfl) | (refine ⟨?_, ?_, ?_, ?_, ?_, ?_, ?_, ?_⟩ <;> first | omega | assumption | trivial | rfl)) (show (70 - x3_189.toInt).toNat < (70 - y3_164.toInt).toNat from by omega)
    · refine ok_c (ixo (by omega) (by omega)) ?_
      try have a16 := FA_at (f := f_t_roll) (by assumption) y3_111.toNatClampNeg
      refine ok_o (sp_X9_degreeOf (f_t_roll y3_111.toNatClampNeg) ) (fun r126 h17 => ?_)
      have h17 : r126.toInt = DG (f_t_roll y3_111.toNatClampNeg) ∧ -1 ≤ r126.toInt ∧ r126.toInt ≤ 63 := h17
      refine ok_o (sp_X9_add_ y1_111 r126.toInt64 ) (fun r130 h18 => ?_)
      refine ok_c (ixo (by omega) (by omega)) ?_
      try have a19 := FA_at (f := f_t_roll) (by assumption) y3_111.toNatClampNeg
      refine ok_o (sp_X9_onesOf (f_t_roll y3_111.toNatClampNeg) ) (fun r139 h20 => ?_)
      have h20 : 0 ≤ r139.toInt ∧ r139.toInt ≤ 127 := h20
      refine ok_o (sp_X9_add_ r130 r139.toInt64 ) (fun r143 h21 => ?_)
      refine ok_bx (fun x3_147 e_x3_147 => ?_)
      try have t_x3_147 : x3_147.toInt = y3_111.toInt + 1 := by rw [e_x3_147]; exact addT1 (show (1 : Int32).toInt = 1 from by decide) (by omega) (by omega)
      exact hih4 r143 x3_147 (show 0 ≤ x3_147.toInt from by first | omega | assumption | trivial | (refine ⟨?_, ?_⟩ <;> first | omega | assumption | trivial | rfl) | (refine ⟨?_, ?_, ?_⟩ <;> first | omega | assumption | trivial | rfl) | (refine ⟨?_, ?_, ?_, ?_⟩ <;> first | omega | assumption | trivial | rfl) | (refine ⟨?_, ?_, ?_, ?_, ?_⟩ <;> first | omega | assumption | trivial | rfl) | (refine ⟨?_, ?_, ?_, ?_, ?_, ?_⟩ <;> first | omega | assumption | trivial | rfl) | (refine ⟨?_, ?_, ?_, ?_, ?_, ?_, ?_⟩ <;> first | omega | assumption | trivial | rfl) | (refine ⟨?_, ?_, ?_, ?_, ?_, ?_, ?_, ?_⟩ <;> first | omega | assumption | trivial | rfl)) (show (c_t_many.toInt - x3_147.toInt + 1).toNat < (c_t_many.toInt - y3_111.toInt + 1).toNat from by omega)
  · refine ok_c (ixo (by omega) (by omega)) ?_
    try have a22 := FA_at (f := f_t_forms) (by assumption) y5_21.toNatClampNeg
    refine ok_bx (fun x6_32 e_x6_32 => ?_)
    try have q_x6_32 : DG x6_32 = DG (f_t_forms y5_21.toNatClampNeg) := by rw [e_x6_32]
    try have d_x6_32 : -1 ≤ DG x6_32 ∧ DG x6_32 ≤ 39 := by rw [e_x6_32]; exact FA_at (by assumption) _
    refine ok_o (sp_X9_degreeOf x6_32 ) (fun r37 h23 => ?_)
    have h23 : r37.toInt = DG x6_32 ∧ -1 ≤ r37.toInt ∧ r37.toInt ≤ 63 := h23
    refine ok_o (sp_X9_add_ y1_21 r37.toInt64 ) (fun r41 h24 => ?_)
    refine ok_o (sp_X9_lowestOf x6_32 ) (fun r46 h25 => ?_)
    refine ok_o (sp_X9_add_ r41 r46.toInt64 ) (fun r50 h26 => ?_)
    refine ok_L2 (fun y1_58 y8_58 => y8_58.toInt ≤ 64) (fun y1_58 y8_58 => (y8_58.toInt + 1).toNat) (fun ih58 y1_58 y8_58 hI27 hih27 => ?_) 20000 r50 (39 : Int32) (show (39 : Int32).toInt ≤ 64 from by first | omega | assumption | trivial | (refine ⟨?_, ?_⟩ <;> first | omega | assumption | trivial | rfl) | (refine ⟨?_, ?_, ?_⟩ <;> first | omega | assumption | trivial | rfl) | (refine ⟨?_, ?_, ?_, ?_⟩ <;> first | omega | assumption | trivial | rfl) | (refine ⟨?_, ?_, ?_, ?_, ?_⟩ <;> first | omega | assumption | trivial | rfl) | (refine ⟨?_, ?_, ?_, ?_, ?_, ?_⟩ <;> first | omega | assumption | trivial | rfl) | (refine ⟨?_, ?_, ?_, ?_, ?_, ?_, ?_⟩ <;> first | omega | assumption | trivial | rfl) | (refine ⟨?_, ?_, ?_, ?_, ?_, ?_, ?_, ?_⟩ <;> first | omega | assumption | trivial | rfl)) (show ((39 : Int32).toInt + 1).toNat < 20000 from by omega)
    have hI27 : y8_58.toInt ≤ 64 := hI27
    unfold S_X9_digest_58
    refine ok_lt (fun c28 => ?_) (fun c28 => ?_)
    · refine ok_bx (fun x5_93 e_x5_93 => ?_)
      try have t_x5_93 : x5_93.toInt = y5_21.toInt + 1 := by rw [e_x5_93]; exact addT1 (show (1 : Int32).toInt = 1 from by decide) (by omega) (by omega)
      exact hih1 y1_58 x5_93 (show 0 ≤ x5_93.toInt from by first | omega | assumption | trivial | (refine ⟨?_, ?_⟩ <;> first | omega | assumption | trivial | rfl) | (refine ⟨?_, ?_, ?_⟩ <;> first | omega | assumption | trivial | rfl) | (refine ⟨?_, ?_, ?_, ?_⟩ <;> first | omega | assumption | trivial | rfl) | (refine ⟨?_, ?_, ?_, ?_, ?_⟩ <;> first | omega | assumption | trivial | rfl) | (refine ⟨?_, ?_, ?_, ?_, ?_, ?_⟩ <;> first | omega | assumption | trivial | rfl) | (refine ⟨?_, ?_, ?_, ?_, ?_, ?_, ?_⟩ <;> first | omega | assumption | trivial | rfl) | (refine ⟨?_, ?_, ?_, ?_, ?_, ?_, ?_, ?_⟩ <;> first | omega | assumption | trivial | rfl)) (show (7 - x5_93.toInt).toNat < (7 - y5_21.toInt).toNat from by omega)
    · refine ok_eqL (fun c29 => ?_) (fun c29 => ?_)
      · refine ok_o (sp_X9_add_ y1_58 y8_58.toInt64 ) (fun r79 h30 => ?_)
        first | unfold J_X9_digest_86 | skip
        refine ok_bx (fun x8_87 e_x8_87 => ?_)
        try have t_x8_87 : x8_87.toInt = y8_58.toInt + (-1) := by rw [e_x8_87]; exact addT1 (show (-1 : Int32).toInt = -1 from by decide) (by omega) (by omega)
        exact hih27 r79 x8_87 (show x8_87.toInt ≤ 64 from by first | omega | assumption | trivial | (refine ⟨?_, ?_⟩ <;> first | omega | assumption | trivial | rfl) | (refine ⟨?_, ?_, ?_⟩ <;> first | omega | assumption | trivial | rfl) | (refine ⟨?_, ?_, ?_, ?_⟩ <;> first | omega | assumption | trivial | rfl) | (refine ⟨?_, ?_, ?_, ?_, ?_⟩ <;> first | omega | assumption | trivial | rfl) | (refine ⟨?_, ?_, ?_, ?_, ?_, ?_⟩ <;> first | omega | assumption | trivial | rfl) | (refine ⟨?_, ?_, ?_, ?_, ?_, ?_, ?_⟩ <;> first | omega | assumption | trivial | rfl) | (refine ⟨?_, ?_, ?_, ?_, ?_, ?_, ?_, ?_⟩ <;> first | omega | assumption | trivial | rfl)) (show (x8_87.toInt + 1).toNat < (y8_58.toInt + 1).toNat from by omega)
      · first | unfold J_X9_digest_86 | skip
        refine ok_bx (fun x8_87_2 e_x8_87_2 => ?_)
        try have t_x8_87_2 : x8_87_2.toInt = y8_58.toInt + (-1) := by rw [e_x8_87_2]; exact addT1 (show (-1 : Int32).toInt = -1 from by decide) (by omega) (by omega)
        exact hih27 y1_58 x8_87_2 (show x8_87_2.toInt ≤ 64 from by first | omega | assumption | trivial | (refine ⟨?_, ?_⟩ <;> first | omega | assumption | trivial | rfl) | (refine ⟨?_, ?_, ?_⟩ <;> first | omega | assumption | trivial | rfl) | (refine ⟨?_, ?_, ?_, ?_⟩ <;> first | omega | assumption | trivial | rfl) | (refine ⟨?_, ?_, ?_, ?_, ?_⟩ <;> first | omega | assumption | trivial | rfl) | (refine ⟨?_, ?_, ?_, ?_, ?_, ?_⟩ <;> first | omega | assumption | trivial | rfl) | (refine ⟨?_, ?_, ?_, ?_, ?_, ?_, ?_⟩ <;> first | omega | assumption | trivial | rfl) | (refine ⟨?_, ?_, ?_, ?_, ?_, ?_, ?_, ?_⟩ <;> first | omega | assumption | trivial | rfl)) (show (x8_87_2.toInt + 1).toNat < (y8_58.toInt + 1).toNat from by omega)
