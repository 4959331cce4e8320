set_option maxHeartbeats 1000000 in
theorem sp_L_set (c_q0_acts : Int32) (f_q0_forms : Nat → Int64) (c_q3_n : Int64) (p1 : Int32) (p2 : Int32)  : ok (F_L_set c_q0_acts f_q0_forms c_q3_n p1 p2) (fun r => True) := by
  have l032 : (0 : Int32).toInt = 0 := by decide
  have l132 : (1 : Int32).toInt = 1 := by decide
  have l232 : (2 : Int32).toInt = 2 := by decide
  unfold F_L_set
  refine ok_o4 (sp_X7_set c_q0_acts f_q0_forms p1 p2 ) (fun xc4 r4 c_q0_acts_4 f_q0_forms_4 h1 => ?_)
  have h1 : xc4 = 0 ∨ xc4 = 1 ∨ xc4 = 2 := h1
  refine ok_i (fun c2 => ?_) (fun c2 => ?_)
  · refine ok_bx (fun c_q3_n_8 e_c_q3_n_8 => ?_)
    have t_c_q3_n_8 : c_q3_n_8.toInt = r4.toInt64.toInt := by rw [e_c_q3_n_8]
    exact ok_s trivial
  · refine ok_i (fun c3 => ?_) (fun c3 => ?_)
    · exact ok_s trivial
    · refine ok_i (fun c4 => ?_) (fun c4 => ?_)
      · exact ok_s trivial
      · exact False.elim (by omega)
set_option maxHeartbeats 1000000 in
theorem sp_L_digit (c_q0_acts : Int32) (f_q0_forms : Nat → Int64) (c_q4_n : Int64) (p1 : Int32) (p2 : Int32) (p3 : Int32)  : ok (F_L_digit c_q0_acts f_q0_forms c_q4_n p1 p2 p3) (fun r => True) := by
  have l032 : (0 : Int32).toInt = 0 := by decide
  have l132 : (1 : Int32).toInt = 1 := by decide
  have l232 : (2 : Int32).toInt = 2 := by decide
  unfold F_L_digit
  refine ok_o4 (sp_X7_digit c_q0_acts f_q0_forms p1 p2 p3 ) (fun xc6 r6 c_q0_acts_6 f_q0_forms_6 h1 => ?_)
  have h1 : xc6 = 0 ∨ xc6 = 1 ∨ xc6 = 2 := h1
  refine ok_i (fun c2 => ?_) (fun c2 => ?_)
  · refine ok_bx (fun c_q4_n_10 e_c_q4_n_10 => ?_)
    have t_c_q4_n_10 : c_q4_n_10.toInt = r6.toInt64.toInt := by rw [e_c_q4_n_10]
    exact ok_s trivial
  · refine ok_i (fun c3 => ?_) (fun c3 => ?_)
    · exact ok_s trivial
    · refine ok_i (fun c4 => ?_) (fun c4 => ?_)
      · exact ok_s trivial
      · exact False.elim (by omega)
set_option maxHeartbeats 1000000 in
theorem sp_L_run (c_q0_acts : Int32) (f_q0_forms : Nat → Int64) (c_q4_n : Int64) (p1 : Int32) (p2 : Int32) (p3 : Int32)  : ok (F_L_run c_q0_acts f_q0_forms c_q4_n p1 p2 p3) (fun r => True) := by
  have l032 : (0 : Int32).toInt = 0 := by decide
  have l132 : (1 : Int32).toInt = 1 := by decide
  have l232 : (2 : Int32).toInt = 2 := by decide
  unfold F_L_run
  refine ok_o4 (sp_X7_run c_q0_acts f_q0_forms p1 p2 p3 ) (fun xc6 r6 c_q0_acts_6 f_q0_forms_6 h1 => ?_)
  have h1 : xc6 = 0 ∨ xc6 = 1 ∨ xc6 = 2 := h1
  refine ok_i (fun c2 => ?_) (fun c2 => ?_)
  · refine ok_bx (fun c_q4_n_10 e_c_q4_n_10 => ?_)
    have t_c_q4_n_10 : c_q4_n_10.toInt = r6.toInt64.toInt := by rw [e_c_q4_n_10]
    exact ok_s trivial
  · refine ok_i (fun c3 => ?_) (fun c3 => ?_)
    · exact ok_s trivial
    · refine ok_i (fun c4 => ?_) (fun c4 => ?_)
      · exact ok_s trivial
      · exact False.elim (by omega)
set_option maxHeartbeats 1000000 in
theorem sp_L_copy (c_q0_acts : Int32) (f_q0_forms : Nat → Int64) (c_q3_n : Int64) (p1 : Int32) (p2 : Int32)  : ok (F_L_copy c_q0_acts f_q0_forms c_q3_n p1 p2) (fun r => True) := by
  have l032 : (0 : Int32).toInt = 0 := by decide
  have l132 : (1 : Int32).toInt = 1 := by decide
  unfold F_L_copy
  refine ok_o4 (sp_X7_copy c_q0_acts f_q0_forms p1 p2 ) (fun xc4 r4 c_q0_acts_4 f_q0_forms_4 h1 => ?_)
  have h1 : xc4 = 0 ∨ xc4 = 1 := h1
  refine ok_i (fun c2 => ?_) (fun c2 => ?_)
  · refine ok_bx (fun c_q3_n_8 e_c_q3_n_8 => ?_)
    have t_c_q3_n_8 : c_q3_n_8.toInt = r4.toInt64.toInt := by rw [e_c_q3_n_8]
    exact ok_s trivial
  · refine ok_i (fun c3 => ?_) (fun c3 => ?_)
    · exact ok_s trivial
    · exact False.elim (by omega)
set_option maxHeartbeats 1000000 in
theorem sp_L_swap (c_q0_acts : Int32) (f_q0_forms : Nat → Int64) (c_q3_n : Int64) (p1 : Int32) (p2 : Int32)  : ok (F_L_swap c_q0_acts f_q0_forms c_q3_n p1 p2) (fun r => True) := by
  have l032 : (0 : Int32).toInt = 0 := by decide
  have l132 : (1 : Int32).toInt = 1 := by decide
  unfold F_L_swap
  refine ok_o4 (sp_X7_swap c_q0_acts f_q0_forms p1 p2 ) (fun xc4 r4 c_q0_acts_4 f_q0_forms_4 h1 => ?_)
  have h1 : xc4 = 0 ∨ xc4 = 1 := h1
  refine ok_i (fun c2 => ?_) (fun c2 => ?_)
  · refine ok_bx (fun c_q3_n_8 e_c_q3_n_8 => ?_)
    have t_c_q3_n_8 : c_q3_n_8.toInt = r4.toInt64.toInt := by rw [e_c_q3_n_8]
    exact ok_s trivial
  · refine ok_i (fun c3 => ?_) (fun c3 => ?_)
    · exact ok_s trivial
    · exact False.elim (by omega)
set_option maxHeartbeats 1000000 in
theorem sp_L_shift (c_q0_acts : Int32) (c_q0_refusals : Int32) (f_q0_forms : Nat → Int64) (c_q3_n : Int64) (p1 : Int32) (p2 : Int32)  : ok (F_L_shift c_q0_acts c_q0_refusals f_q0_forms c_q3_n p1 p2) (fun r => True) := by
  have l032 : (0 : Int32).toInt = 0 := by decide
  have l132 : (1 : Int32).toInt = 1 := by decide
  have l232 : (2 : Int32).toInt = 2 := by decide
  unfold F_L_shift
  refine ok_o5 (sp_X7_shift c_q0_acts c_q0_refusals f_q0_forms p1 p2 ) (fun xc4 r4 c_q0_acts_4 c_q0_refusals_4 f_q0_forms_4 h1 => ?_)
  have h1 : xc4 = 0 ∨ xc4 = 1 ∨ xc4 = 2 := h1
  refine ok_i (fun c2 => ?_) (fun c2 => ?_)
  · refine ok_bx (fun c_q3_n_8 e_c_q3_n_8 => ?_)
    have t_c_q3_n_8 : c_q3_n_8.toInt = r4.toInt64.toInt := by rw [e_c_q3_n_8]
    exact ok_s trivial
  · refine ok_i (fun c3 => ?_) (fun c3 => ?_)
    · exact ok_s trivial
    · refine ok_i (fun c4 => ?_) (fun c4 => ?_)
      · exact ok_s trivial
      · exact False.elim (by omega)
set_option maxHeartbeats 1000000 in
theorem sp_L_turn (c_q0_acts : Int32) (f_q0_forms : Nat → Int64) (c_q2_n : Int64) (p1 : Int32)  : ok (F_L_turn c_q0_acts f_q0_forms c_q2_n p1) (fun r => True) := by
  have l032 : (0 : Int32).toInt = 0 := by decide
  have l132 : (1 : Int32).toInt = 1 := by decide
  unfold F_L_turn
  refine ok_o4 (sp_X7_turn c_q0_acts f_q0_forms p1 ) (fun xc3 r3 c_q0_acts_3 f_q0_forms_3 h1 => ?_)
  have h1 : xc3 = 0 ∨ xc3 = 1 := h1
  refine ok_i (fun c2 => ?_) (fun c2 => ?_)
  · refine ok_bx (fun c_q2_n_7 e_c_q2_n_7 => ?_)
    have t_c_q2_n_7 : c_q2_n_7.toInt = r3.toInt64.toInt := by rw [e_c_q2_n_7]
    exact ok_s trivial
  · refine ok_i (fun c3 => ?_) (fun c3 => ?_)
    · exact ok_s trivial
    · exact False.elim (by omega)
set_option maxHeartbeats 1000000 in
theorem sp_L_slope (c_q0_acts : Int32) (f_q0_forms : Nat → Int64) (c_q2_n : Int64) (p1 : Int32)  : ok (F_L_slope c_q0_acts f_q0_forms c_q2_n p1) (fun r => True) := by
  have l032 : (0 : Int32).toInt = 0 := by decide
  have l132 : (1 : Int32).toInt = 1 := by decide
  unfold F_L_slope
  refine ok_o4 (sp_X7_slope c_q0_acts f_q0_forms p1 ) (fun xc3 r3 c_q0_acts_3 f_q0_forms_3 h1 => ?_)
  have h1 : xc3 = 0 ∨ xc3 = 1 := h1
  refine ok_i (fun c2 => ?_) (fun c2 => ?_)
  · refine ok_bx (fun c_q2_n_7 e_c_q2_n_7 => ?_)
    have t_c_q2_n_7 : c_q2_n_7.toInt = r3.toInt64.toInt := by rw [e_c_q2_n_7]
    exact ok_s trivial
  · refine ok_i (fun c3 => ?_) (fun c3 => ?_)
    · exact ok_s trivial
    · exact False.elim (by omega)
set_option maxHeartbeats 1000000 in
theorem sp_L_add (c_q0_acts : Int32) (f_q0_forms : Nat → Int64) (c_q4_n : Int64) (p1 : Int32) (p2 : Int32) (p3 : Int32)  : ok (F_L_add c_q0_acts f_q0_forms c_q4_n p1 p2 p3) (fun r => True) := by
  have l032 : (0 : Int32).toInt = 0 := by decide
  have l132 : (1 : Int32).toInt = 1 := by decide
  unfold F_L_add
  refine ok_o4 (sp_X7_add c_q0_acts f_q0_forms p1 p2 p3 ) (fun xc6 r6 c_q0_acts_6 f_q0_forms_6 h1 => ?_)
  have h1 : xc6 = 0 ∨ xc6 = 1 := h1
  refine ok_i (fun c2 => ?_) (fun c2 => ?_)
  · refine ok_bx (fun c_q4_n_10 e_c_q4_n_10 => ?_)
    have t_c_q4_n_10 : c_q4_n_10.toInt = r6.toInt64.toInt := by rw [e_c_q4_n_10]
    exact ok_s trivial
  · refine ok_i (fun c3 => ?_) (fun c3 => ?_)
    · exact ok_s trivial
    · exact False.elim (by omega)
set_option maxHeartbeats 1000000 in
theorem sp_L_multiply (c_q0_acts : Int32) (c_q0_refusals : Int32) (f_q0_forms : Nat → Int64) (c_q4_n : Int64) (p1 : Int32) (p2 : Int32) (p3 : Int32)  : ok (F_L_multiply c_q0_acts c_q0_refusals f_q0_forms c_q4_n p1 p2 p3) (fun r => True) := by
  have l032 : (0 : Int32).toInt = 0 := by decide
  have l132 : (1 : Int32).toInt = 1 := by decide
  unfold F_L_multiply
  refine ok_o5 (sp_X7_multiply c_q0_acts c_q0_refusals f_q0_forms p1 p2 p3 ) (fun xc6 r6 c_q0_acts_6 c_q0_refusals_6 f_q0_forms_6 h1 => ?_)
  have h1 : xc6 = 0 ∨ xc6 = 1 := h1
  refine ok_i (fun c2 => ?_) (fun c2 => ?_)
  · refine ok_bx (fun c_q4_n_10 e_c_q4_n_10 => ?_)
    have t_c_q4_n_10 : c_q4_n_10.toInt = r6.toInt64.toInt := by rw [e_c_q4_n_10]
    exact ok_s trivial
  · refine ok_i (fun c3 => ?_) (fun c3 => ?_)
    · exact ok_s trivial
    · exact False.elim (by omega)
set_option maxHeartbeats 1000000 in
theorem sp_L_square (c_q0_acts : Int32) (c_q0_refusals : Int32) (f_q0_forms : Nat → Int64) (c_q3_n : Int64) (p1 : Int32) (p2 : Int32)  : ok (F_L_square c_q0_acts c_q0_refusals f_q0_forms c_q3_n p1 p2) (fun r => True) := by
  have l032 : (0 : Int32).toInt = 0 := by decide
  have l132 : (1 : Int32).toInt = 1 := by decide
  unfold F_L_square
  refine ok_o5 (sp_X7_square c_q0_acts c_q0_refusals f_q0_forms p1 p2 ) (fun xc4 r4 c_q0_acts_4 c_q0_refusals_4 f_q0_forms_4 h1 => ?_)
  have h1 : xc4 = 0 ∨ xc4 = 1 := h1
  refine ok_i (fun c2 => ?_) (fun c2 => ?_)
  · refine ok_bx (fun c_q3_n_8 e_c_q3_n_8 => ?_)
    have t_c_q3_n_8 : c_q3_n_8.toInt = r4.toInt64.toInt := by rw [e_c_q3_n_8]
    exact ok_s trivial
  · refine ok_i (fun c3 => ?_) (fun c3 => ?_)
    · exact ok_s trivial
    · exact False.elim (by omega)
set_option maxHeartbeats 1000000 in
theorem sp_L_divide (c_q0_acts : Int32) (c_q0_refusals : Int32) (f_q0_forms : Nat → Int64) (c_q4_n : Int64) (p1 : Int32) (p2 : Int32) (p3 : Int32)  : ok (F_L_divide c_q0_acts c_q0_refusals f_q0_forms c_q4_n p1 p2 p3) (fun r => True) := by
  have l032 : (0 : Int32).toInt = 0 := by decide
  have l132 : (1 : Int32).toInt = 1 := by decide
  unfold F_L_divide
  refine ok_o5 (sp_X7_divide c_q0_acts c_q0_refusals f_q0_forms p1 p2 p3 ) (fun xc6 r6 c_q0_acts_6 c_q0_refusals_6 f_q0_forms_6 h1 => ?_)
  have h1 : xc6 = 0 ∨ xc6 = 1 := h1
  refine ok_i (fun c2 => ?_) (fun c2 => ?_)
  · refine ok_bx (fun c_q4_n_10 e_c_q4_n_10 => ?_)
    have t_c_q4_n_10 : c_q4_n_10.toInt = r6.toInt64.toInt := by rw [e_c_q4_n_10]
    exact ok_s trivial
  · refine ok_i (fun c3 => ?_) (fun c3 => ?_)
    · exact ok_s trivial
    · exact False.elim (by omega)
set_option maxHeartbeats 1000000 in
theorem sp_L_remain (c_q0_acts : Int32) (c_q0_refusals : Int32) (f_q0_forms : Nat → Int64) (c_q4_n : Int64) (p1 : Int32) (p2 : Int32) (p3 : Int32)  : ok (F_L_remain c_q0_acts c_q0_refusals f_q0_forms c_q4_n p1 p2 p3) (fun r => True) := by
  have l032 : (0 : Int32).toInt = 0 := by decide
  have l132 : (1 : Int32).toInt = 1 := by decide
  unfold F_L_remain
  refine ok_o5 (sp_X7_remain c_q0_acts c_q0_refusals f_q0_forms p1 p2 p3 ) (fun xc6 r6 c_q0_acts_6 c_q0_refusals_6 f_q0_forms_6 h1 => ?_)
  have h1 : xc6 = 0 ∨ xc6 = 1 := h1
  refine ok_i (fun c2 => ?_) (fun c2 => ?_)
  · refine ok_bx (fun c_q4_n_10 e_c_q4_n_10 => ?_)
    have t_c_q4_n_10 : c_q4_n_10.toInt = r6.toInt64.toInt := by rw [e_c_q4_n_10]
    exact ok_s trivial
  · refine ok_i (fun c3 => ?_) (fun c3 => ?_)
    · exact ok_s trivial
    · exact False.elim (by omega)
set_option maxHeartbeats 1000000 in
theorem sp_L_common (c_q0_acts : Int32) (f_q0_forms : Nat → Int64) (c_q4_n : Int64) (p1 : Int32) (p2 : Int32) (p3 : Int32)  : ok (F_L_common c_q0_acts f_q0_forms c_q4_n p1 p2 p3) (fun r => True) := by
  have l032 : (0 : Int32).toInt = 0 := by decide
  have l132 : (1 : Int32).toInt = 1 := by decide
  unfold F_L_common
  refine ok_o4 (sp_X7_common c_q0_acts f_q0_forms p1 p2 p3 ) (fun xc6 r6 c_q0_acts_6 f_q0_forms_6 h1 => ?_)
  have h1 : xc6 = 0 ∨ xc6 = 1 := h1
  refine ok_i (fun c2 => ?_) (fun c2 => ?_)
  · refine ok_bx (fun c_q4_n_10 e_c_q4_n_10 => ?_)
    have t_c_q4_n_10 : c_q4_n_10.toInt = r6.toInt64.toInt := by rw [e_c_q4_n_10]
    exact ok_s trivial
  · refine ok_i (fun c3 => ?_) (fun c3 => ?_)
    · exact ok_s trivial
    · exact False.elim (by omega)
set_option maxHeartbeats 1000000 in
theorem sp_L_multipliers (c_q0_acts : Int32) (f_q0_forms : Nat → Int64) (c_q0_rows_first : Int64) (c_q0_rows_ofOne : Int64) (c_q0_rows_ofOther : Int64) (c_q0_rows_second : Int64) (c_q0_rows_secondOfOne : Int64) (c_q0_rows_secondOfOther : Int64) (c_q5_n : Int64) (p1 : Int32) (p2 : Int32) (p3 : Int32) (p4 : Int32)  : ok (F_L_multipliers c_q0_acts f_q0_forms c_q0_rows_first c_q0_rows_ofOne c_q0_rows_ofOther c_q0_rows_second c_q0_rows_secondOfOne c_q0_rows_secondOfOther c_q5_n p1 p2 p3 p4) (fun r => True) := by
  have l032 : (0 : Int32).toInt = 0 := by decide
  have l132 : (1 : Int32).toInt = 1 := by decide
  have l232 : (2 : Int32).toInt = 2 := by decide
  unfold F_L_multipliers
  refine ok_o10 (sp_X7_multipliers c_q0_acts f_q0_forms c_q0_rows_first c_q0_rows_ofOne c_q0_rows_ofOther c_q0_rows_second c_q0_rows_secondOfOne c_q0_rows_secondOfOther p1 p2 p3 p4 ) (fun xc8 r8 c_q0_acts_8 f_q0_forms_8 c_q0_rows_first_8 c_q0_rows_ofOne_8 c_q0_rows_ofOther_8 c_q0_rows_second_8 c_q0_rows_secondOfOne_8 c_q0_rows_secondOfOther_8 h1 => ?_)
  have h1 : xc8 = 0 ∨ xc8 = 1 ∨ xc8 = 2 := h1
  refine ok_i (fun c2 => ?_) (fun c2 => ?_)
  · refine ok_bx (fun c_q5_n_12 e_c_q5_n_12 => ?_)
    have t_c_q5_n_12 : c_q5_n_12.toInt = r8.toInt64.toInt := by rw [e_c_q5_n_12]
    exact ok_s trivial
  · refine ok_i (fun c3 => ?_) (fun c3 => ?_)
    · exact ok_s trivial
    · refine ok_i (fun c4 => ?_) (fun c4 => ?_)
      · exact ok_s trivial
      · exact False.elim (by omega)
set_option maxHeartbeats 1000000 in
theorem sp_L_power (c_q0_acts : Int32) (c_q0_refusals : Int32) (f_q0_forms : Nat → Int64) (c_q5_n : Int64) (p1 : Int32) (p2 : Int32) (p3 : Int32) (p4 : Int32)  : ok (F_L_power c_q0_acts c_q0_refusals f_q0_forms c_q5_n p1 p2 p3 p4) (fun r => True) := by
  have l032 : (0 : Int32).toInt = 0 := by decide
  have l132 : (1 : Int32).toInt = 1 := by decide
  have l232 : (2 : Int32).toInt = 2 := by decide
  unfold F_L_power
  refine ok_o5 (sp_X7_power c_q0_acts c_q0_refusals f_q0_forms p1 p2 p3 p4 ) (fun xc8 r8 c_q0_acts_8 c_q0_refusals_8 f_q0_forms_8 h1 => ?_)
  have h1 : xc8 = 0 ∨ xc8 = 1 ∨ xc8 = 2 := h1
  refine ok_i (fun c2 => ?_) (fun c2 => ?_)
  · refine ok_bx (fun c_q5_n_12 e_c_q5_n_12 => ?_)
    have t_c_q5_n_12 : c_q5_n_12.toInt = r8.toInt64.toInt := by rw [e_c_q5_n_12]
    exact ok_s trivial
  · refine ok_i (fun c3 => ?_) (fun c3 => ?_)
    · exact ok_s trivial
    · refine ok_i (fun c4 => ?_) (fun c4 => ?_)
      · exact ok_s trivial
      · exact False.elim (by omega)
set_option maxHeartbeats 1000000 in
theorem sp_L_allPrimes (c_q0_acts : Int32) (f_q0_forms : Nat → Int64) (c_q3_n : Int64) (p1 : Int32) (p2 : Int32)  : ok (F_L_allPrimes c_q0_acts f_q0_forms c_q3_n p1 p2) (fun r => True) := by
  have l032 : (0 : Int32).toInt = 0 := by decide
  have l132 : (1 : Int32).toInt = 1 := by decide
  have l232 : (2 : Int32).toInt = 2 := by decide
  unfold F_L_allPrimes
  refine ok_o4 (sp_X7_allPrimes c_q0_acts f_q0_forms p1 p2 ) (fun xc4 r4 c_q0_acts_4 f_q0_forms_4 h1 => ?_)
  have h1 : xc4 = 0 ∨ xc4 = 1 ∨ xc4 = 2 := h1
  refine ok_i (fun c2 => ?_) (fun c2 => ?_)
  · refine ok_bx (fun c_q3_n_8 e_c_q3_n_8 => ?_)
    have t_c_q3_n_8 : c_q3_n_8.toInt = r4.toInt64.toInt := by rw [e_c_q3_n_8]
    exact ok_s trivial
  · refine ok_i (fun c3 => ?_) (fun c3 => ?_)
    · exact ok_s trivial
    · refine ok_i (fun c4 => ?_) (fun c4 => ?_)
      · exact ok_s trivial
      · exact False.elim (by omega)
set_option maxHeartbeats 1000000 in
theorem sp_L_seal (c_q0_acts : Int32) (c_q0_refusals : Int32) (f_q0_forms : Nat → Int64) (c_q4_n : Int64) (p1 : Int32) (p2 : Int32) (p3 : Int32)  : ok (F_L_seal c_q0_acts c_q0_refusals f_q0_forms c_q4_n p1 p2 p3) (fun r => True) := by
  have l032 : (0 : Int32).toInt = 0 := by decide
  have l132 : (1 : Int32).toInt = 1 := by decide
  unfold F_L_seal
  refine ok_o5 (sp_X7_seal c_q0_acts c_q0_refusals f_q0_forms p1 p2 p3 ) (fun xc6 r6 c_q0_acts_6 c_q0_refusals_6 f_q0_forms_6 h1 => ?_)
  have h1 : xc6 = 0 ∨ xc6 = 1 := h1
  refine ok_i (fun c2 => ?_) (fun c2 => ?_)
  · refine ok_bx (fun c_q4_n_10 e_c_q4_n_10 => ?_)
    have t_c_q4_n_10 : c_q4_n_10.toInt = r6.toInt64.toInt := by rw [e_c_q4_n_10]
    exact ok_s trivial
  · refine ok_i (fun c3 => ?_) (fun c3 => ?_)
    · exact ok_s trivial
    · exact False.elim (by omega)
set_option maxHeartbeats 1000000 in
theorem sp_L_burst (c_q0_acts : Int32) (c_q0_refusals : Int32) (f_q0_forms : Nat → Int64) (c_q4_n : Int64) (p1 : Int32) (p2 : Int32) (p3 : Int32)  : ok (F_L_burst c_q0_acts c_q0_refusals f_q0_forms c_q4_n p1 p2 p3) (fun r => True) := by
  have l032 : (0 : Int32).toInt = 0 := by decide
  have l132 : (1 : Int32).toInt = 1 := by decide
  have l232 : (2 : Int32).toInt = 2 := by decide
  unfold F_L_burst
  refine ok_o5 (sp_X7_burst c_q0_acts c_q0_refusals f_q0_forms p1 p2 p3 ) (fun xc6 r6 c_q0_acts_6 c_q0_refusals_6 f_q0_forms_6 h1 => ?_)
  have h1 : xc6 = 0 ∨ xc6 = 1 ∨ xc6 = 2 := h1
  refine ok_i (fun c2 => ?_) (fun c2 => ?_)
  · refine ok_bx (fun c_q4_n_10 e_c_q4_n_10 => ?_)
    have t_c_q4_n_10 : c_q4_n_10.toInt = r6.toInt64.toInt := by rw [e_c_q4_n_10]
    exact ok_s trivial
  · refine ok_i (fun c3 => ?_) (fun c3 => ?_)
    · exact ok_s trivial
    · refine ok_i (fun c4 => ?_) (fun c4 => ?_)
      · exact ok_s trivial
      · exact False.elim (by omega)
set_option maxHeartbeats 1000000 in
theorem sp_L_factor (c_q0_acts : Int32) (c_q0_refusals : Int32) (f_q0_forms : Nat → Int64) (c_q0_roll_size : Int32) (f_q0_roll_held : Nat → Int64) (f_q0_roll_before : Nat → Int64) (c_q0_factors_parts_size : Int32) (f_q0_factors_parts_held : Nat → Int64) (c_q3_n : Int64) (p1 : Int32) (p2 : Int32) (hp0 : 0 ≤ c_q0_roll_size.toInt) (hp1 : c_q0_roll_size.toInt ≤ 12) (hp2 : 0 ≤ c_q0_factors_parts_size.toInt) (hp3 : c_q0_factors_parts_size.toInt ≤ 12) : ok (F_L_factor c_q0_acts c_q0_refusals f_q0_forms c_q0_roll_size f_q0_roll_held f_q0_roll_before c_q0_factors_parts_size f_q0_factors_parts_held c_q3_n p1 p2) (fun r => 0 ≤ r.2.2.2.1.toInt ∧ r.2.2.2.1.toInt ≤ 12 ∧ 0 ≤ r.2.2.2.2.2.2.1.toInt ∧ r.2.2.2.2.2.2.1.toInt ≤ 12) := by
  have l032 : (0 : Int32).toInt = 0 := by decide
  have l132 : (1 : Int32).toInt = 1 := by decide
  have l232 : (2 : Int32).toInt = 2 := by decide
  unfold F_L_factor
  refine ok_o9 (sp_X7_factor c_q0_acts c_q0_refusals f_q0_forms c_q0_roll_size f_q0_roll_held f_q0_roll_before c_q0_factors_parts_size f_q0_factors_parts_held p1 p2 (by first | omega | assumption | trivial) (by first | omega | assumption | trivial) (by first | omega | assumption | trivial) (by first | omega | assumption | trivial)) (fun xc4 r4 c_q0_acts_4 c_q0_refusals_4 c_q0_roll_size_4 f_q0_roll_held_4 f_q0_roll_before_4 c_q0_factors_parts_size_4 f_q0_factors_parts_held_4 h1 => ?_)
  have h1 : (xc4 = 0 ∨ xc4 = 1 ∨ xc4 = 2) ∧ 0 ≤ c_q0_roll_size_4.toInt ∧ c_q0_roll_size_4.toInt ≤ 12 ∧ 0 ≤ c_q0_factors_parts_size_4.toInt ∧ c_q0_factors_parts_size_4.toInt ≤ 12 := h1
  refine ok_i (fun c2 => ?_) (fun c2 => ?_)
  · refine ok_bx (fun c_q3_n_8 e_c_q3_n_8 => ?_)
    have t_c_q3_n_8 : c_q3_n_8.toInt = r4.toInt64.toInt := by rw [e_c_q3_n_8]
    exact ok_s (show 0 ≤ c_q0_roll_size_4.toInt ∧ c_q0_roll_size_4.toInt ≤ 12 ∧ 0 ≤ c_q0_factors_parts_size_4.toInt ∧ c_q0_factors_parts_size_4.toInt ≤ 12 from by first | omega | assumption | trivial | (refine ⟨?_, ?_⟩ <;> first | omega | assumption | trivial | rfl) | (refine ⟨?_, ?_, ?_⟩ <;> first | omega | assumption | trivial | rfl) | (refine ⟨?_, ?_, ?_, ?_⟩ <;> first | omega | assumption | trivial | rfl) | (refine ⟨?_, ?_, ?_, ?_, ?_⟩ <;> first | omega | assumption | trivial | rfl) | (refine ⟨?_, ?_, ?_, ?_, ?_, ?_⟩ <;> first | omega | assumption | trivial | rfl) | (refine ⟨?_, ?_, ?_, ?_, ?_, ?_, ?_⟩ <;> first | omega | assumption | trivial | rfl) | (refine ⟨?_, ?_, ?_, ?_, ?_, ?_, ?_, ?_⟩ <;> first | omega | assumption | trivial | rfl))
  · refine ok_i (fun c3 => ?_) (fun c3 => ?_)
    · exact ok_s (show 0 ≤ c_q0_roll_size_4.toInt ∧ c_q0_roll_size_4.toInt ≤ 12 ∧ 0 ≤ c_q0_factors_parts_size_4.toInt ∧ c_q0_factors_parts_size_4.toInt ≤ 12 from by first | omega | assumption | trivial | (refine ⟨?_, ?_⟩ <;> first | omega | assumption | trivial | rfl) | (refine ⟨?_, ?_, ?_⟩ <;> first | omega | assumption | trivial | rfl) | (refine ⟨?_, ?_, ?_, ?_⟩ <;> first | omega | assumption | trivial | rfl) | (refine ⟨?_, ?_, ?_, ?_, ?_⟩ <;> first | omega | assumption | trivial | rfl) | (refine ⟨?_, ?_, ?_, ?_, ?_, ?_⟩ <;> first | omega | assumption | trivial | rfl) | (refine ⟨?_, ?_, ?_, ?_, ?_, ?_, ?_⟩ <;> first | omega | assumption | trivial | rfl) | (refine ⟨?_, ?_, ?_, ?_, ?_, ?_, ?_, ?_⟩ <;> first | omega | assumption | trivial | rfl))
    · refine ok_i (fun c4 => ?_) (fun c4 => ?_)
      · exact ok_s (show 0 ≤ c_q0_roll_size_4.toInt ∧ c_q0_roll_size_4.toInt ≤ 12 ∧ 0 ≤ c_q0_factors_parts_size_4.toInt ∧ c_q0_factors_parts_size_4.toInt ≤ 12 from by first | omega | assumption | trivial | (refine ⟨?_, ?_⟩ <;> first | omega | assumption | trivial | rfl) | (refine ⟨?_, ?_, ?_⟩ <;> first | omega | assumption | trivial | rfl) | (refine ⟨?_, ?_, ?_, ?_⟩ <;> first | omega | assumption | trivial | rfl) | (refine ⟨?_, ?_, ?_, ?_, ?_⟩ <;> first | omega | assumption | trivial | rfl) | (refine ⟨?_, ?_, ?_, ?_, ?_, ?_⟩ <;> first | omega | assumption | trivial | rfl) | (refine ⟨?_, ?_, ?_, ?_, ?_, ?_, ?_⟩ <;> first | omega | assumption | trivial | rfl) | (refine ⟨?_, ?_, ?_, ?_, ?_, ?_, ?_, ?_⟩ <;> first | omega | assumption | trivial | rfl))
      · exact False.elim (by omega)
set_option maxHeartbeats 1000000 in
theorem sp_L_enroll (c_q0_acts : Int32) (c_q0_refusals : Int32) (f_q0_forms : Nat → Int64) (c_q0_roll_size : Int32) (f_q0_roll_held : Nat → Int64) (c_q2_n : Int64) (p1 : Int32) (hp0 : 0 ≤ c_q0_roll_size.toInt) (hp1 : c_q0_roll_size.toInt ≤ 12) : ok (F_L_enroll c_q0_acts c_q0_refusals f_q0_forms c_q0_roll_size f_q0_roll_held c_q2_n p1) (fun r => 0 ≤ r.2.2.2.1.toInt ∧ r.2.2.2.1.toInt ≤ 12) := by
  have l032 : (0 : Int32).toInt = 0 := by decide
  have l132 : (1 : Int32).toInt = 1 := by decide
  unfold F_L_enroll
  refine ok_o6 (sp_X7_enroll c_q0_acts c_q0_refusals f_q0_forms c_q0_roll_size f_q0_roll_held p1 (by first | omega | assumption | trivial) (by first | omega | assumption | trivial)) (fun xc3 r3 c_q0_acts_3 c_q0_refusals_3 c_q0_roll_size_3 f_q0_roll_held_3 h1 => ?_)
  have h1 : (xc3 = 0 ∨ xc3 = 1) ∧ 0 ≤ c_q0_roll_size_3.toInt ∧ c_q0_roll_size_3.toInt ≤ 12 := h1
  refine ok_i (fun c2 => ?_) (fun c2 => ?_)
  · refine ok_bx (fun c_q2_n_7 e_c_q2_n_7 => ?_)
    have t_c_q2_n_7 : c_q2_n_7.toInt = r3.toInt64.toInt := by rw [e_c_q2_n_7]
    exact ok_s (show 0 ≤ c_q0_roll_size_3.toInt ∧ c_q0_roll_size_3.toInt ≤ 12 from by first | omega | assumption | trivial | (refine ⟨?_, ?_⟩ <;> first | omega | assumption | trivial | rfl) | (refine ⟨?_, ?_, ?_⟩ <;> first | omega | assumption | trivial | rfl) | (refine ⟨?_, ?_, ?_, ?_⟩ <;> first | omega | assumption | trivial | rfl) | (refine ⟨?_, ?_, ?_, ?_, ?_⟩ <;> first | omega | assumption | trivial | rfl) | (refine ⟨?_, ?_, ?_, ?_, ?_, ?_⟩ <;> first | omega | assumption | trivial | rfl) | (refine ⟨?_, ?_, ?_, ?_, ?_, ?_, ?_⟩ <;> first | omega | assumption | trivial | rfl) | (refine ⟨?_, ?_, ?_, ?_, ?_, ?_, ?_, ?_⟩ <;> first | omega | assumption | trivial | rfl))
  · refine ok_i (fun c3 => ?_) (fun c3 => ?_)
    · exact ok_s (show 0 ≤ c_q0_roll_size_3.toInt ∧ c_q0_roll_size_3.toInt ≤ 12 from by first | omega | assumption | trivial | (refine ⟨?_, ?_⟩ <;> first | omega | assumption | trivial | rfl) | (refine ⟨?_, ?_, ?_⟩ <;> first | omega | assumption | trivial | rfl) | (refine ⟨?_, ?_, ?_, ?_⟩ <;> first | omega | assumption | trivial | rfl) | (refine ⟨?_, ?_, ?_, ?_, ?_⟩ <;> first | omega | assumption | trivial | rfl) | (refine ⟨?_, ?_, ?_, ?_, ?_, ?_⟩ <;> first | omega | assumption | trivial | rfl) | (refine ⟨?_, ?_, ?_, ?_, ?_, ?_, ?_⟩ <;> first | omega | assumption | trivial | rfl) | (refine ⟨?_, ?_, ?_, ?_, ?_, ?_, ?_, ?_⟩ <;> first | omega | assumption | trivial | rfl))
    · exact False.elim (by omega)
set_option maxHeartbeats 1000000 in
theorem sp_L_strike (c_q0_acts : Int32) (c_q0_roll_size : Int32) (f_q0_roll_held : Nat → Int64) (c_q2_n : Int64) (p1 : Int32) (hp0 : 0 ≤ c_q0_roll_size.toInt) (hp1 : c_q0_roll_size.toInt ≤ 12) : ok (F_L_strike c_q0_acts c_q0_roll_size f_q0_roll_held c_q2_n p1) (fun r => 0 ≤ r.2.2.1.toInt ∧ r.2.2.1.toInt ≤ 12) := by
  have l032 : (0 : Int32).toInt = 0 := by decide
  have l132 : (1 : Int32).toInt = 1 := by decide
  unfold F_L_strike
  refine ok_o5 (sp_X7_strike c_q0_acts c_q0_roll_size f_q0_roll_held p1 (by first | omega | assumption | trivial) (by first | omega | assumption | trivial)) (fun xc3 r3 c_q0_acts_3 c_q0_roll_size_3 f_q0_roll_held_3 h1 => ?_)
  have h1 : (xc3 = 0 ∨ xc3 = 1) ∧ 0 ≤ c_q0_roll_size_3.toInt ∧ c_q0_roll_size_3.toInt ≤ 12 := h1
  refine ok_i (fun c2 => ?_) (fun c2 => ?_)
  · refine ok_bx (fun c_q2_n_7 e_c_q2_n_7 => ?_)
    have t_c_q2_n_7 : c_q2_n_7.toInt = r3.toInt64.toInt := by rw [e_c_q2_n_7]
    exact ok_s (show 0 ≤ c_q0_roll_size_3.toInt ∧ c_q0_roll_size_3.toInt ≤ 12 from by first | omega | assumption | trivial | (refine ⟨?_, ?_⟩ <;> first | omega | assumption | trivial | rfl) | (refine ⟨?_, ?_, ?_⟩ <;> first | omega | assumption | trivial | rfl) | (refine ⟨?_, ?_, ?_, ?_⟩ <;> first | omega | assumption | trivial | rfl) | (refine ⟨?_, ?_, ?_, ?_, ?_⟩ <;> first | omega | assumption | trivial | rfl) | (refine ⟨?_, ?_, ?_, ?_, ?_, ?_⟩ <;> first | omega | assumption | trivial | rfl) | (refine ⟨?_, ?_, ?_, ?_, ?_, ?_, ?_⟩ <;> first | omega | assumption | trivial | rfl) | (refine ⟨?_, ?_, ?_, ?_, ?_, ?_, ?_, ?_⟩ <;> first | omega | assumption | trivial | rfl))
  · refine ok_i (fun c3 => ?_) (fun c3 => ?_)
    · exact ok_s (show 0 ≤ c_q0_roll_size_3.toInt ∧ c_q0_roll_size_3.toInt ≤ 12 from by first | omega | assumption | trivial | (refine ⟨?_, ?_⟩ <;> first | omega | assumption | trivial | rfl) | (refine ⟨?_, ?_, ?_⟩ <;> first | omega | assumption | trivial | rfl) | (refine ⟨?_, ?_, ?_, ?_⟩ <;> first | omega | assumption | trivial | rfl) | (refine ⟨?_, ?_, ?_, ?_, ?_⟩ <;> first | omega | assumption | trivial | rfl) | (refine ⟨?_, ?_, ?_, ?_, ?_, ?_⟩ <;> first | omega | assumption | trivial | rfl) | (refine ⟨?_, ?_, ?_, ?_, ?_, ?_, ?_⟩ <;> first | omega | assumption | trivial | rfl) | (refine ⟨?_, ?_, ?_, ?_, ?_, ?_, ?_, ?_⟩ <;> first | omega | assumption | trivial | rfl))
    · exact False.elim (by omega)
set_option maxHeartbeats 1000000 in
theorem sp_L_take (c_q0_acts : Int32) (f_q0_forms : Nat → Int64) (c_q0_roll_size : Int32) (f_q0_roll_held : Nat → Int64) (c_q3_n : Int64) (p1 : Int32) (p2 : Int32) (hp0 : 0 ≤ c_q0_roll_size.toInt) (hp1 : c_q0_roll_size.toInt ≤ 12) : ok (F_L_take c_q0_acts f_q0_forms c_q0_roll_size f_q0_roll_held c_q3_n p1 p2) (fun r => True) := by
  have l032 : (0 : Int32).toInt = 0 := by decide
  have l132 : (1 : Int32).toInt = 1 := by decide
  unfold F_L_take
  refine ok_o4 (sp_X7_take c_q0_acts f_q0_forms c_q0_roll_size f_q0_roll_held p1 p2 (by first | omega | assumption | trivial) (by first | omega | assumption | trivial)) (fun xc4 r4 c_q0_acts_4 f_q0_forms_4 h1 => ?_)
  have h1 : xc4 = 0 ∨ xc4 = 1 := h1
  refine ok_i (fun c2 => ?_) (fun c2 => ?_)
  · refine ok_bx (fun c_q3_n_8 e_c_q3_n_8 => ?_)
    have t_c_q3_n_8 : c_q3_n_8.toInt = r4.toInt64.toInt := by rw [e_c_q3_n_8]
    exact ok_s trivial
  · refine ok_i (fun c3 => ?_) (fun c3 => ?_)
    · exact ok_s trivial
    · exact False.elim (by omega)
set_option maxHeartbeats 1000000 in
theorem sp_L_product (c_q0_acts : Int32) (c_q0_refusals : Int32) (f_q0_forms : Nat → Int64) (c_q0_roll_size : Int32) (f_q0_roll_held : Nat → Int64) (c_q2_n : Int64) (p1 : Int32) (hp0 : 0 ≤ c_q0_roll_size.toInt) (hp1 : c_q0_roll_size.toInt ≤ 12) : ok (F_L_product c_q0_acts c_q0_refusals f_q0_forms c_q0_roll_size f_q0_roll_held c_q2_n p1) (fun r => True) := by
  have l032 : (0 : Int32).toInt = 0 := by decide
  have l132 : (1 : Int32).toInt = 1 := by decide
  unfold F_L_product
  refine ok_o5 (sp_X7_product c_q0_acts c_q0_refusals f_q0_forms c_q0_roll_size f_q0_roll_held p1 (by first | omega | assumption | trivial) (by first | omega | assumption | trivial)) (fun xc3 r3 c_q0_acts_3 c_q0_refusals_3 f_q0_forms_3 h1 => ?_)
  have h1 : xc3 = 0 ∨ xc3 = 1 := h1
  refine ok_i (fun c2 => ?_) (fun c2 => ?_)
  · refine ok_bx (fun c_q2_n_7 e_c_q2_n_7 => ?_)
    have t_c_q2_n_7 : c_q2_n_7.toInt = r3.toInt64.toInt := by rw [e_c_q2_n_7]
    exact ok_s trivial
  · refine ok_i (fun c3 => ?_) (fun c3 => ?_)
    · exact ok_s trivial
    · exact False.elim (by omega)
set_option maxHeartbeats 1000000 in
theorem sp_L_start (c_q0_acts : Int32) (c_q0_refusals : Int32) (f_q0_forms : Nat → Int64) (c_q0_row_taps : Int64) (c_q0_row_cells : Int64) (c_q2_n : Int64) (p1 : Int32)  : ok (F_L_start c_q0_acts c_q0_refusals f_q0_forms c_q0_row_taps c_q0_row_cells c_q2_n p1) (fun r => True) := by
  have l032 : (0 : Int32).toInt = 0 := by decide
  have l132 : (1 : Int32).toInt = 1 := by decide
  unfold F_L_start
  refine ok_o6 (sp_X7_start c_q0_acts c_q0_refusals f_q0_forms c_q0_row_taps c_q0_row_cells p1 ) (fun xc3 r3 c_q0_acts_3 c_q0_refusals_3 c_q0_row_taps_3 c_q0_row_cells_3 h1 => ?_)
  have h1 : xc3 = 0 ∨ xc3 = 1 := h1
  refine ok_i (fun c2 => ?_) (fun c2 => ?_)
  · refine ok_bx (fun c_q2_n_7 e_c_q2_n_7 => ?_)
    have t_c_q2_n_7 : c_q2_n_7.toInt = r3.toInt64.toInt := by rw [e_c_q2_n_7]
    exact ok_s trivial
  · refine ok_i (fun c3 => ?_) (fun c3 => ?_)
    · exact ok_s trivial
    · exact False.elim (by omega)
set_option maxHeartbeats 1000000 in
theorem sp_L_step (c_q0_acts : Int32) (c_q0_row_taps : Int64) (c_q0_row_cells : Int64) (c_q2_n : Int64) (p1 : Int32)  : ok (F_L_step c_q0_acts c_q0_row_taps c_q0_row_cells c_q2_n p1) (fun r => True) := by
  have l032 : (0 : Int32).toInt = 0 := by decide
  have l132 : (1 : Int32).toInt = 1 := by decide
  have l232 : (2 : Int32).toInt = 2 := by decide
  unfold F_L_step
  refine ok_o4 (sp_X7_step c_q0_acts c_q0_row_taps c_q0_row_cells p1 ) (fun xc3 r3 c_q0_acts_3 c_q0_row_cells_3 h1 => ?_)
  have h1 : xc3 = 0 ∨ xc3 = 2 := h1
  refine ok_i (fun c2 => ?_) (fun c2 => ?_)
  · refine ok_bx (fun c_q2_n_7 e_c_q2_n_7 => ?_)
    have t_c_q2_n_7 : c_q2_n_7.toInt = r3.toInt64.toInt := by rw [e_c_q2_n_7]
    exact ok_s trivial
  · refine ok_i (fun c3 => ?_) (fun c3 => ?_)
    · exact ok_s trivial
    · exact False.elim (by omega)
set_option maxHeartbeats 1000000 in
theorem sp_L_load (c_q0_acts : Int32) (c_q0_refusals : Int32) (c_q0_row_taps : Int64) (c_q0_row_cells : Int64) (c_q2_n : Int64) (p1 : Int32)  : ok (F_L_load c_q0_acts c_q0_refusals c_q0_row_taps c_q0_row_cells c_q2_n p1) (fun r => True) := by
  have l032 : (0 : Int32).toInt = 0 := by decide
  have l132 : (1 : Int32).toInt = 1 := by decide
  have l232 : (2 : Int32).toInt = 2 := by decide
  unfold F_L_load
  refine ok_o5 (sp_X7_load c_q0_acts c_q0_refusals c_q0_row_taps c_q0_row_cells p1 ) (fun xc3 r3 c_q0_acts_3 c_q0_refusals_3 c_q0_row_cells_3 h1 => ?_)
  have h1 : xc3 = 0 ∨ xc3 = 2 := h1
  refine ok_i (fun c2 => ?_) (fun c2 => ?_)
  · refine ok_bx (fun c_q2_n_7 e_c_q2_n_7 => ?_)
    have t_c_q2_n_7 : c_q2_n_7.toInt = r3.toInt64.toInt := by rw [e_c_q2_n_7]
    exact ok_s trivial
  · refine ok_i (fun c3 => ?_) (fun c3 => ?_)
    · exact ok_s trivial
    · exact False.elim (by omega)
set_option maxHeartbeats 1000000 in
theorem sp_L_degree (f_q0_forms : Nat → Int64) (c_q2_n : Int64) (p1 : Int32)  : ok (F_L_degree f_q0_forms c_q2_n p1) (fun r => True) := by
  have l032 : (0 : Int32).toInt = 0 := by decide
  have l132 : (1 : Int32).toInt = 1 := by decide
  unfold F_L_degree
  refine ok_o2 (sp_X7_degree f_q0_forms p1 ) (fun xc3 r3 h1 => ?_)
  have h1 : xc3 = 0 ∨ xc3 = 1 := h1
  refine ok_i (fun c2 => ?_) (fun c2 => ?_)
  · refine ok_bx (fun c_q2_n_7 e_c_q2_n_7 => ?_)
    have t_c_q2_n_7 : c_q2_n_7.toInt = r3.toInt64.toInt := by rw [e_c_q2_n_7]
    exact ok_s trivial
  · refine ok_i (fun c3 => ?_) (fun c3 => ?_)
    · exact ok_s trivial
    · exact False.elim (by omega)
set_option maxHeartbeats 1000000 in
theorem sp_L_code (f_q0_forms : Nat → Int64) (c_q2_n : Int64) (p1 : Int32)  : ok (F_L_code f_q0_forms c_q2_n p1) (fun r => True) := by
  have l032 : (0 : Int32).toInt = 0 := by decide
  have l132 : (1 : Int32).toInt = 1 := by decide
  unfold F_L_code
  refine ok_o2 (sp_X7_code f_q0_forms p1 ) (fun xc3 r3 h1 => ?_)
  have h1 : xc3 = 0 ∨ xc3 = 1 := h1
  refine ok_i (fun c2 => ?_) (fun c2 => ?_)
  · refine ok_bx (fun c_q2_n_7 e_c_q2_n_7 => ?_)
    have t_c_q2_n_7 : c_q2_n_7.toInt = r3.toInt64.toInt := by rw [e_c_q2_n_7]
    exact ok_s trivial
  · refine ok_i (fun c3 => ?_) (fun c3 => ?_)
    · exact ok_s trivial
    · exact False.elim (by omega)
set_option maxHeartbeats 1000000 in
theorem sp_L_has (f_q0_forms : Nat → Int64) (c_q3_n : Int64) (p1 : Int32) (p2 : Int32)  : ok (F_L_has f_q0_forms c_q3_n p1 p2) (fun r => True) := by
  have l032 : (0 : Int32).toInt = 0 := by decide
  have l064 : (0 : Int64).toInt = 0 := by decide
  have l132 : (1 : Int32).toInt = 1 := by decide
  have l164 : (1 : Int64).toInt = 1 := by decide
  unfold F_L_has
  refine ok_o2 (sp_X7_has f_q0_forms p1 p2 ) (fun xc4 r4 h1 => ?_)
  have h1 : xc4 = 0 ∨ xc4 = 1 := h1
  refine ok_i (fun c2 => ?_) (fun c2 => ?_)
  · refine ok_eq (fun c3 => ?_) (fun c3 => ?_)
    · exact ok_s trivial
    · exact ok_s trivial
  · refine ok_i (fun c4 => ?_) (fun c4 => ?_)
    · exact ok_s trivial
    · exact False.elim (by omega)
set_option maxHeartbeats 1000000 in
theorem sp_L_ones (f_q0_forms : Nat → Int64) (c_q2_n : Int64) (p1 : Int32)  : ok (F_L_ones f_q0_forms c_q2_n p1) (fun r => True) := by
  have l032 : (0 : Int32).toInt = 0 := by decide
  have l132 : (1 : Int32).toInt = 1 := by decide
  unfold F_L_ones
  refine ok_o2 (sp_X7_ones f_q0_forms p1 ) (fun xc3 r3 h1 => ?_)
  have h1 : xc3 = 0 ∨ xc3 = 1 := h1
  refine ok_i (fun c2 => ?_) (fun c2 => ?_)
  · refine ok_bx (fun c_q2_n_7 e_c_q2_n_7 => ?_)
    have t_c_q2_n_7 : c_q2_n_7.toInt = r3.toInt64.toInt := by rw [e_c_q2_n_7]
    exact ok_s trivial
  · refine ok_i (fun c3 => ?_) (fun c3 => ?_)
    · exact ok_s trivial
    · exact False.elim (by omega)
set_option maxHeartbeats 1000000 in
theorem sp_L_lowest (f_q0_forms : Nat → Int64) (c_q2_n : Int64) (p1 : Int32)  : ok (F_L_lowest f_q0_forms c_q2_n p1) (fun r => True) := by
  have l032 : (0 : Int32).toInt = 0 := by decide
  have l132 : (1 : Int32).toInt = 1 := by decide
  unfold F_L_lowest
  refine ok_o2 (sp_X7_lowest f_q0_forms p1 ) (fun xc3 r3 h1 => ?_)
  have h1 : xc3 = 0 ∨ xc3 = 1 := h1
  refine ok_i (fun c2 => ?_) (fun c2 => ?_)
  · refine ok_bx (fun c_q2_n_7 e_c_q2_n_7 => ?_)
    have t_c_q2_n_7 : c_q2_n_7.toInt = r3.toInt64.toInt := by rw [e_c_q2_n_7]
    exact ok_s trivial
  · refine ok_i (fun c3 => ?_) (fun c3 => ?_)
    · exact ok_s trivial
    · exact False.elim (by omega)
set_option maxHeartbeats 1000000 in
theorem sp_L_text (f_q0_forms : Nat → Int64) (p1 : Int32)  : ok (F_L_text f_q0_forms p1) (fun r => True) := by
  have l032 : (0 : Int32).toInt = 0 := by decide
  have l132 : (1 : Int32).toInt = 1 := by decide
  unfold F_L_text
  refine ok_o (sp_X7_text f_q0_forms p1 ) (fun xc3 h1 => ?_)
  have h1 : xc3 = 0 ∨ xc3 = 1 := h1
  refine ok_i (fun c2 => ?_) (fun c2 => ?_)
  · exact ok_s trivial
  · refine ok_i (fun c3 => ?_) (fun c3 => ?_)
    · exact ok_s trivial
    · exact False.elim (by omega)
set_option maxHeartbeats 1000000 in
theorem sp_L_order (f_q0_forms : Nat → Int64) (c_q3_n : Int64) (p1 : Int32) (p2 : Int32)  : ok (F_L_order f_q0_forms c_q3_n p1 p2) (fun r => True) := by
  have l032 : (0 : Int32).toInt = 0 := by decide
  have l132 : (1 : Int32).toInt = 1 := by decide
  unfold F_L_order
  refine ok_o2 (sp_X7_order f_q0_forms p1 p2 ) (fun xc4 r4 h1 => ?_)
  have h1 : xc4 = 0 ∨ xc4 = 1 := h1
  refine ok_i (fun c2 => ?_) (fun c2 => ?_)
  · refine ok_bx (fun c_q3_n_8 e_c_q3_n_8 => ?_)
    have t_c_q3_n_8 : c_q3_n_8.toInt = r4.toInt64.toInt := by rw [e_c_q3_n_8]
    exact ok_s trivial
  · refine ok_i (fun c3 => ?_) (fun c3 => ?_)
    · exact ok_s trivial
    · exact False.elim (by omega)
set_option maxHeartbeats 1000000 in
theorem sp_L_divides (f_q0_forms : Nat → Int64) (c_q3_n : Int64) (p1 : Int32) (p2 : Int32)  : ok (F_L_divides f_q0_forms c_q3_n p1 p2) (fun r => True) := by
  have l032 : (0 : Int32).toInt = 0 := by decide
  have l064 : (0 : Int64).toInt = 0 := by decide
  have l132 : (1 : Int32).toInt = 1 := by decide
  have l164 : (1 : Int64).toInt = 1 := by decide
  unfold F_L_divides
  refine ok_o2 (sp_X7_divides f_q0_forms p1 p2 ) (fun xc4 r4 h1 => ?_)
  have h1 : xc4 = 0 ∨ xc4 = 1 := h1
  refine ok_i (fun c2 => ?_) (fun c2 => ?_)
  · refine ok_eq (fun c3 => ?_) (fun c3 => ?_)
    · exact ok_s trivial
    · exact ok_s trivial
  · refine ok_i (fun c4 => ?_) (fun c4 => ?_)
    · exact ok_s trivial
    · exact False.elim (by omega)
set_option maxHeartbeats 1000000 in
theorem sp_L_check (f_q0_forms : Nat → Int64) (c_q3_n : Int64) (p1 : Int32) (p2 : Int32)  : ok (F_L_check f_q0_forms c_q3_n p1 p2) (fun r => True) := by
  have l032 : (0 : Int32).toInt = 0 := by decide
  have l132 : (1 : Int32).toInt = 1 := by decide
  unfold F_L_check
  refine ok_o2 (sp_X7_check f_q0_forms p1 p2 ) (fun xc4 r4 h1 => ?_)
  have h1 : xc4 = 0 ∨ xc4 = 1 := h1
  refine ok_i (fun c2 => ?_) (fun c2 => ?_)
  · refine ok_bx (fun c_q3_n_8 e_c_q3_n_8 => ?_)
    have t_c_q3_n_8 : c_q3_n_8.toInt = r4.toInt64.toInt := by rw [e_c_q3_n_8]
    exact ok_s trivial
  · refine ok_i (fun c3 => ?_) (fun c3 => ?_)
    · exact ok_s trivial
    · exact False.elim (by omega)
set_option maxHeartbeats 1000000 in
theorem sp_L_isPrime (f_q0_forms : Nat → Int64) (c_q3_n : Int64) (p1 : Int32) (p2 : Int32)  : ok (F_L_isPrime f_q0_forms c_q3_n p1 p2) (fun r => True) := by
  have l032 : (0 : Int32).toInt = 0 := by decide
  have l132 : (1 : Int32).toInt = 1 := by decide
  have l232 : (2 : Int32).toInt = 2 := by decide
  unfold F_L_isPrime
  refine ok_o2 (sp_X7_isPrime f_q0_forms p1 p2 ) (fun xc4 r4 h1 => ?_)
  have h1 : xc4 = 0 ∨ xc4 = 1 ∨ xc4 = 2 := h1
  refine ok_i (fun c2 => ?_) (fun c2 => ?_)
  · refine ok_bx (fun c_q3_n_8 e_c_q3_n_8 => ?_)
    have t_c_q3_n_8 : c_q3_n_8.toInt = r4.toInt64.toInt := by rw [e_c_q3_n_8]
    exact ok_s trivial
  · refine ok_i (fun c3 => ?_) (fun c3 => ?_)
    · exact ok_s trivial
    · refine ok_i (fun c4 => ?_) (fun c4 => ?_)
      · exact ok_s trivial
      · exact False.elim (by omega)
set_option maxHeartbeats 1000000 in
theorem sp_L_primes (c_q3_n : Int64) (p1 : Int32) (p2 : Int32)  : ok (F_L_primes c_q3_n p1 p2) (fun r => True) := by
  have l032 : (0 : Int32).toInt = 0 := by decide
  have l132 : (1 : Int32).toInt = 1 := by decide
  have l232 : (2 : Int32).toInt = 2 := by decide
  unfold F_L_primes
  refine ok_o2 (sp_X7_primes p1 p2 ) (fun xc4 r4 h1 => ?_)
  have h1 : xc4 = 0 ∨ xc4 = 2 := h1
  refine ok_i (fun c2 => ?_) (fun c2 => ?_)
  · refine ok_bx (fun c_q3_n_8 e_c_q3_n_8 => ?_)
    have t_c_q3_n_8 : c_q3_n_8.toInt = r4.toInt64.toInt := by rw [e_c_q3_n_8]
    exact ok_s trivial
  · refine ok_i (fun c3 => ?_) (fun c3 => ?_)
    · exact ok_s trivial
    · exact False.elim (by omega)
set_option maxHeartbeats 1000000 in
theorem sp_L_prime (c_q3_n : Int64) (p1 : Int32) (p2 : Int32)  : ok (F_L_prime c_q3_n p1 p2) (fun r => True) := by
  have l032 : (0 : Int32).toInt = 0 := by decide
  have l132 : (1 : Int32).toInt = 1 := by decide
  have l232 : (2 : Int32).toInt = 2 := by decide
  unfold F_L_prime
  refine ok_o2 (sp_X7_prime p1 p2 ) (fun xc4 r4 h1 => ?_)
  have h1 : xc4 = 0 ∨ xc4 = 2 := h1
  refine ok_i (fun c2 => ?_) (fun c2 => ?_)
  · refine ok_bx (fun c_q3_n_8 e_c_q3_n_8 => ?_)
    have t_c_q3_n_8 : c_q3_n_8.toInt = r4.toInt64.toInt := by rw [e_c_q3_n_8]
    exact ok_s trivial
  · refine ok_i (fun c3 => ?_) (fun c3 => ?_)
    · exact ok_s trivial
    · exact False.elim (by omega)
set_option maxHeartbeats 1000000 in
theorem sp_L_period (f_q0_forms : Nat → Int64) (c_q0_found_size : Int32) (f_q0_found_held : Nat → Int64) (c_q3_n : Int64) (p1 : Int32) (p2 : Int32) (hp0 : 0 ≤ c_q0_found_size.toInt) (hp1 : c_q0_found_size.toInt ≤ 12) : ok (F_L_period f_q0_forms c_q0_found_size f_q0_found_held c_q3_n p1 p2) (fun r => 0 ≤ r.2.1.toInt ∧ r.2.1.toInt ≤ 12) := by
  have l032 : (0 : Int32).toInt = 0 := by decide
  have l132 : (1 : Int32).toInt = 1 := by decide
  have l232 : (2 : Int32).toInt = 2 := by decide
  unfold F_L_period
  refine ok_o4 (sp_X7_period f_q0_forms c_q0_found_size f_q0_found_held p1 p2 (by first | omega | assumption | trivial) (by first | omega | assumption | trivial)) (fun xc4 r4 c_q0_found_size_4 f_q0_found_held_4 h1 => ?_)
  have h1 : (xc4 = 0 ∨ xc4 = 1 ∨ xc4 = 2) ∧ 0 ≤ c_q0_found_size_4.toInt ∧ c_q0_found_size_4.toInt ≤ 12 := h1
  refine ok_i (fun c2 => ?_) (fun c2 => ?_)
  · refine ok_bx (fun c_q3_n_8 e_c_q3_n_8 => ?_)
    have t_c_q3_n_8 : c_q3_n_8.toInt = r4.toInt64.toInt := by rw [e_c_q3_n_8]
    exact ok_s (show 0 ≤ c_q0_found_size_4.toInt ∧ c_q0_found_size_4.toInt ≤ 12 from by first | omega | assumption | trivial | (refine ⟨?_, ?_⟩ <;> first | omega | assumption | trivial | rfl) | (refine ⟨?_, ?_, ?_⟩ <;> first | omega | assumption | trivial | rfl) | (refine ⟨?_, ?_, ?_, ?_⟩ <;> first | omega | assumption | trivial | rfl) | (refine ⟨?_, ?_, ?_, ?_, ?_⟩ <;> first | omega | assumption | trivial | rfl) | (refine ⟨?_, ?_, ?_, ?_, ?_, ?_⟩ <;> first | omega | assumption | trivial | rfl) | (refine ⟨?_, ?_, ?_, ?_, ?_, ?_, ?_⟩ <;> first | omega | assumption | trivial | rfl) | (refine ⟨?_, ?_, ?_, ?_, ?_, ?_, ?_, ?_⟩ <;> first | omega | assumption | trivial | rfl))
  · refine ok_i (fun c3 => ?_) (fun c3 => ?_)
    · exact ok_s (show 0 ≤ c_q0_found_size_4.toInt ∧ c_q0_found_size_4.toInt ≤ 12 from by first | omega | assumption | trivial | (refine ⟨?_, ?_⟩ <;> first | omega | assumption | trivial | rfl) | (refine ⟨?_, ?_, ?_⟩ <;> first | omega | assumption | trivial | rfl) | (refine ⟨?_, ?_, ?_, ?_⟩ <;> first | omega | assumption | trivial | rfl) | (refine ⟨?_, ?_, ?_, ?_, ?_⟩ <;> first | omega | assumption | trivial | rfl) | (refine ⟨?_, ?_, ?_, ?_, ?_, ?_⟩ <;> first | omega | assumption | trivial | rfl) | (refine ⟨?_, ?_, ?_, ?_, ?_, ?_, ?_⟩ <;> first | omega | assumption | trivial | rfl) | (refine ⟨?_, ?_, ?_, ?_, ?_, ?_, ?_, ?_⟩ <;> first | omega | assumption | trivial | rfl))
    · refine ok_i (fun c4 => ?_) (fun c4 => ?_)
      · exact ok_s (show 0 ≤ c_q0_found_size_4.toInt ∧ c_q0_found_size_4.toInt ≤ 12 from by first | omega | assumption | trivial | (refine ⟨?_, ?_⟩ <;> first | omega | assumption | trivial | rfl) | (refine ⟨?_, ?_, ?_⟩ <;> first | omega | assumption | trivial | rfl) | (refine ⟨?_, ?_, ?_, ?_⟩ <;> first | omega | assumption | trivial | rfl) | (refine ⟨?_, ?_, ?_, ?_, ?_⟩ <;> first | omega | assumption | trivial | rfl) | (refine ⟨?_, ?_, ?_, ?_, ?_, ?_⟩ <;> first | omega | assumption | trivial | rfl) | (refine ⟨?_, ?_, ?_, ?_, ?_, ?_, ?_⟩ <;> first | omega | assumption | trivial | rfl) | (refine ⟨?_, ?_, ?_, ?_, ?_, ?_, ?_, ?_⟩ <;> first | omega | assumption | trivial | rfl))
      · exact False.elim (by omega)
set_option maxHeartbeats 1000000 in
theorem sp_L_rollText (c_q0_roll_size : Int32) (f_q0_roll_held : Nat → Int64) (p1 : Int32) (hp0 : 0 ≤ c_q0_roll_size.toInt) (hp1 : c_q0_roll_size.toInt ≤ 12) : ok (F_L_rollText c_q0_roll_size f_q0_roll_held p1) (fun r => True) := by
  have l032 : (0 : Int32).toInt = 0 := by decide
  have l132 : (1 : Int32).toInt = 1 := by decide
  unfold F_L_rollText
  refine ok_o (sp_X7_rollText c_q0_roll_size f_q0_roll_held p1 (by first | omega | assumption | trivial) (by first | omega | assumption | trivial)) (fun xc3 h1 => ?_)
  have h1 : xc3 = 0 ∨ xc3 = 1 := h1
  refine ok_i (fun c2 => ?_) (fun c2 => ?_)
  · exact ok_s trivial
  · refine ok_i (fun c3 => ?_) (fun c3 => ?_)
    · exact ok_s trivial
    · exact False.elim (by omega)
set_option maxHeartbeats 1000000 in
theorem sp_L_house (c_q0_acts : Int32) (c_q0_refusals : Int32) (c_q0_knocks : Int32) (f_q0_forms : Nat → Int64) (c_q0_roll_size : Int32) (c_q0_row_taps : Int64) (c_q2_n : Int64) (p1 : Int32) (hp0 : 0 ≤ c_q0_roll_size.toInt) (hp1 : c_q0_roll_size.toInt ≤ 12) : ok (F_L_house c_q0_acts c_q0_refusals c_q0_knocks f_q0_forms c_q0_roll_size c_q0_row_taps c_q2_n p1) (fun r => True) := by
  have l032 : (0 : Int32).toInt = 0 := by decide
  have l132 : (1 : Int32).toInt = 1 := by decide
  have l232 : (2 : Int32).toInt = 2 := by decide
  unfold F_L_house
  refine ok_o2 (sp_X7_house c_q0_acts c_q0_refusals c_q0_knocks f_q0_forms c_q0_roll_size c_q0_row_taps p1 ) (fun xc3 r3 h1 => ?_)
  have h1 : (xc3 = 0 ∧ 0 ≤ p1.toInt ∧ p1.toInt ≤ 5) ∨ (xc3 = 2 ∧ (p1.toInt < 0 ∨ 5 < p1.toInt)) := h1
  refine ok_i (fun c2 => ?_) (fun c2 => ?_)
  · refine ok_bx (fun c_q2_n_7 e_c_q2_n_7 => ?_)
    have t_c_q2_n_7 : c_q2_n_7.toInt = r3.toInt64.toInt := by rw [e_c_q2_n_7]
    exact ok_s trivial
  · refine ok_i (fun c3 => ?_) (fun c3 => ?_)
    · exact ok_s trivial
    · exact False.elim (by omega)
