set_option maxHeartbeats 1000000 in
theorem sp_X1_partByTraces (f_t_parts_held : Nat → Int64) (p0 : Int64) (p1 : Int32) (hp0 : 1 ≤ p1.toInt) (hp1 : p1.toInt ≤ 10) : ok (F_X1_partByTraces f_t_parts_held p0 p1) (fun r => 0 ≤ r.1.toInt ∧ r.1.toInt ≤ 12) := by
  have l032 : (0 : Int32).toInt = 0 := by decide
  have l132 : (1 : Int32).toInt = 1 := by decide
  have l164 : (1 : Int64).toInt = 1 := by decide
  unfold F_X1_partByTraces
  refine ok_o (sp_X3_removeAll  ) (fun c_t_parts_size_4 h1 => ?_)
  have h1 : c_t_parts_size_4.toInt = 0 := h1
  refine ok_o (sp_X0_degreeOf p0 ) (fun r8 h2 => ?_)
  have h2 : r8.toInt = DG p0 ∧ -1 ≤ r8.toInt ∧ r8.toInt ≤ 63 := h2
  refine ok_le (fun c3 => ?_) (fun c3 => ?_)
  · refine ok_o2 (sp_X3_append c_t_parts_size_4 f_t_parts_held p0 (by first | omega | assumption | trivial) (by first | omega | assumption | trivial)) (fun c_t_parts_size_25 f_t_parts_held_25 h4 => ?_)
    have h4 : 0 ≤ c_t_parts_size_25.toInt ∧ c_t_parts_size_25.toInt ≤ 12 := h4
    refine ok_L3 (fun y5_31 c_t_parts_size_31 f_t_parts_held_31 => 0 ≤ y5_31.toInt ∧ 0 ≤ c_t_parts_size_31.toInt ∧ c_t_parts_size_31.toInt ≤ 12) (fun y5_31 c_t_parts_size_31 f_t_parts_held_31 => (r8.toInt - y5_31.toInt + 1).toNat) (fun ih31 y5_31 c_t_parts_size_31 f_t_parts_held_31 hI5 hih5 => ?_) 20000 (0 : Int32) c_t_parts_size_25 f_t_parts_held_25 (show 0 ≤ (0 : Int32).toInt ∧ 0 ≤ c_t_parts_size_25.toInt ∧ c_t_parts_size_25.toInt ≤ 12 from by first | omega | assumption | trivial | (refine ⟨?_, ?_⟩ <;> first | omega | assumption | trivial | rfl) | (refine ⟨?_, ?_, ?_⟩ <;> first | omega | assumption | trivial | rfl) | (refine ⟨?_, ?_, ?_, ?_⟩ <;> first | omega | assumption | trivial | rfl) | (refine ⟨?_, ?_, ?_, ?_, ?_⟩ <;> first | omega | assumption | trivial | rfl) | (refine ⟨?_, ?_, ?_, ?_, ?_, ?_⟩ <;> first | omega | assumption | trivial | rfl) | (refine ⟨?_, ?_, ?_, ?_, ?_, ?_, ?_⟩ <;> first | omega | assumption | trivial | rfl) | (refine ⟨?_, ?_, ?_, ?_, ?_, ?_, ?_, ?_⟩ <;> first | omega | assumption | trivial | rfl)) (show (r8.toInt - (0 : Int32).toInt + 1).toNat < 20000 from by omega)
    have hI5 : 0 ≤ y5_31.toInt ∧ 0 ≤ c_t_parts_size_31.toInt ∧ c_t_parts_size_31.toInt ≤ 12 := hI5
    unfold S_X1_partByTraces_31
    refine ok_le (fun c6 => ?_) (fun c6 => ?_)
    · exact ok_s (show 0 ≤ c_t_parts_size_31.toInt ∧ c_t_parts_size_31.toInt ≤ 12 from by first | omega | assumption | trivial | (refine ⟨?_, ?_⟩ <;> first | omega | assumption | trivial | rfl) | (refine ⟨?_, ?_, ?_⟩ <;> first | omega | assumption | trivial | rfl) | (refine ⟨?_, ?_, ?_, ?_⟩ <;> first | omega | assumption | trivial | rfl) | (refine ⟨?_, ?_, ?_, ?_, ?_⟩ <;> first | omega | assumption | trivial | rfl) | (refine ⟨?_, ?_, ?_, ?_, ?_, ?_⟩ <;> first | omega | assumption | trivial | rfl) | (refine ⟨?_, ?_, ?_, ?_, ?_, ?_, ?_⟩ <;> first | omega | assumption | trivial | rfl) | (refine ⟨?_, ?_, ?_, ?_, ?_, ?_, ?_, ?_⟩ <;> first | omega | assumption | trivial | rfl))
    · refine ok_L3 (fun y7_50 c_t_parts_size_50 f_t_parts_held_50 => 0 ≤ y7_50.toInt ∧ 0 ≤ c_t_parts_size_50.toInt ∧ c_t_parts_size_50.toInt ≤ 12) (fun y7_50 c_t_parts_size_50 f_t_parts_held_50 => (c_t_parts_size_31.toInt - y7_50.toInt + 1).toNat) (fun ih50 y7_50 c_t_parts_size_50 f_t_parts_held_50 hI7 hih7 => ?_) 20000 (0 : Int32) c_t_parts_size_31 f_t_parts_held_31 (show 0 ≤ (0 : Int32).toInt ∧ 0 ≤ c_t_parts_size_31.toInt ∧ c_t_parts_size_31.toInt ≤ 12 from by first | omega | assumption | trivial | (refine ⟨?_, ?_⟩ <;> first | omega | assumption | trivial | rfl) | (refine ⟨?_, ?_, ?_⟩ <;> first | omega | assumption | trivial | rfl) | (refine ⟨?_, ?_, ?_, ?_⟩ <;> first | omega | assumption | trivial | rfl) | (refine ⟨?_, ?_, ?_, ?_, ?_⟩ <;> first | omega | assumption | trivial | rfl) | (refine ⟨?_, ?_, ?_, ?_, ?_, ?_⟩ <;> first | omega | assumption | trivial | rfl) | (refine ⟨?_, ?_, ?_, ?_, ?_, ?_, ?_⟩ <;> first | omega | assumption | trivial | rfl) | (refine ⟨?_, ?_, ?_, ?_, ?_, ?_, ?_, ?_⟩ <;> first | omega | assumption | trivial | rfl)) (show (c_t_parts_size_31.toInt - (0 : Int32).toInt + 1).toNat < 20000 from by omega)
      have hI7 : 0 ≤ y7_50.toInt ∧ 0 ≤ c_t_parts_size_50.toInt ∧ c_t_parts_size_50.toInt ≤ 12 := hI7
      unfold S_X1_partByTraces_50
      refine ok_le (fun c8 => ?_) (fun c8 => ?_)
      · refine ok_bx (fun x5_129 e_x5_129 => ?_)
        try have t_x5_129 : x5_129.toInt = y5_31.toInt + 1 := by rw [e_x5_129]; exact addT1 (show (1 : Int32).toInt = 1 from by decide) (by omega) (by omega)
        exact hih5 x5_129 c_t_parts_size_50 f_t_parts_held_50 (show 0 ≤ x5_129.toInt ∧ 0 ≤ c_t_parts_size_50.toInt ∧ c_t_parts_size_50.toInt ≤ 12 from by first | omega | assumption | trivial | (refine ⟨?_, ?_⟩ <;> first | omega | assumption | trivial | rfl) | (refine ⟨?_, ?_, ?_⟩ <;> first | omega | assumption | trivial | rfl) | (refine ⟨?_, ?_, ?_, ?_⟩ <;> first | omega | assumption | trivial | rfl) | (refine ⟨?_, ?_, ?_, ?_, ?_⟩ <;> first | omega | assumption | trivial | rfl) | (refine ⟨?_, ?_, ?_, ?_, ?_, ?_⟩ <;> first | omega | assumption | trivial | rfl) | (refine ⟨?_, ?_, ?_, ?_, ?_, ?_, ?_⟩ <;> first | omega | assumption | trivial | rfl) | (refine ⟨?_, ?_, ?_, ?_, ?_, ?_, ?_, ?_⟩ <;> first | omega | assumption | trivial | rfl)) (show (r8.toInt - x5_129.toInt + 1).toNat < (r8.toInt - y5_31.toInt + 1).toNat from by omega)
      · refine ok_o (sp_X3_at c_t_parts_size_50 f_t_parts_held_50 y7_50 (by first | omega | assumption | trivial) (by first | omega | assumption | trivial)) (fun r63 h9 => ?_)
        refine ok_o (sp_X0_trace y5_31 p1 r63 (by first | omega | assumption | trivial) (by first | omega | assumption | trivial)) (fun r75 h10 => ?_)
        refine ok_o (sp_X0_greatestBoth r63 r75 ) (fun r78 h11 => ?_)
        refine ok_eqL (fun c12 => ?_) (fun c12 => ?_)
        · first | unfold J_X1_partByTraces_123 | skip
          refine ok_bx (fun x7_123 e_x7_123 => ?_)
          try have t_x7_123 : x7_123.toInt = y7_50.toInt + 1 := by rw [e_x7_123]; exact addT1 (show (1 : Int32).toInt = 1 from by decide) (by omega) (by omega)
          exact hih7 x7_123 c_t_parts_size_50 f_t_parts_held_50 (show 0 ≤ x7_123.toInt ∧ 0 ≤ c_t_parts_size_50.toInt ∧ c_t_parts_size_50.toInt ≤ 12 from by first | omega | assumption | trivial | (refine ⟨?_, ?_⟩ <;> first | omega | assumption | trivial | rfl) | (refine ⟨?_, ?_, ?_⟩ <;> first | omega | assumption | trivial | rfl) | (refine ⟨?_, ?_, ?_, ?_⟩ <;> first | omega | assumption | trivial | rfl) | (refine ⟨?_, ?_, ?_, ?_, ?_⟩ <;> first | omega | assumption | trivial | rfl) | (refine ⟨?_, ?_, ?_, ?_, ?_, ?_⟩ <;> first | omega | assumption | trivial | rfl) | (refine ⟨?_, ?_, ?_, ?_, ?_, ?_, ?_⟩ <;> first | omega | assumption | trivial | rfl) | (refine ⟨?_, ?_, ?_, ?_, ?_, ?_, ?_, ?_⟩ <;> first | omega | assumption | trivial | rfl)) (show (c_t_parts_size_31.toInt - x7_123.toInt + 1).toNat < (c_t_parts_size_31.toInt - y7_50.toInt + 1).toNat from by omega)
        · refine ok_eqL (fun c13 => ?_) (fun c13 => ?_)
          · first | unfold J_X1_partByTraces_123 | skip
            refine ok_bx (fun x7_123_2 e_x7_123_2 => ?_)
            try have t_x7_123_2 : x7_123_2.toInt = y7_50.toInt + 1 := by rw [e_x7_123_2]; exact addT1 (show (1 : Int32).toInt = 1 from by decide) (by omega) (by omega)
            exact hih7 x7_123_2 c_t_parts_size_50 f_t_parts_held_50 (show 0 ≤ x7_123_2.toInt ∧ 0 ≤ c_t_parts_size_50.toInt ∧ c_t_parts_size_50.toInt ≤ 12 from by first | omega | assumption | trivial | (refine ⟨?_, ?_⟩ <;> first | omega | assumption | trivial | rfl) | (refine ⟨?_, ?_, ?_⟩ <;> first | omega | assumption | trivial | rfl) | (refine ⟨?_, ?_, ?_, ?_⟩ <;> first | omega | assumption | trivial | rfl) | (refine ⟨?_, ?_, ?_, ?_, ?_⟩ <;> first | omega | assumption | trivial | rfl) | (refine ⟨?_, ?_, ?_, ?_, ?_, ?_⟩ <;> first | omega | assumption | trivial | rfl) | (refine ⟨?_, ?_, ?_, ?_, ?_, ?_, ?_⟩ <;> first | omega | assumption | trivial | rfl) | (refine ⟨?_, ?_, ?_, ?_, ?_, ?_, ?_, ?_⟩ <;> first | omega | assumption | trivial | rfl)) (show (c_t_parts_size_31.toInt - x7_123_2.toInt + 1).toNat < (c_t_parts_size_31.toInt - y7_50.toInt + 1).toNat from by omega)
          · refine ok_o (sp_X3_put c_t_parts_size_50 f_t_parts_held_50 y7_50 r78 (by first | omega | assumption | trivial) (by first | omega | assumption | trivial)) (fun f_t_parts_held_106 h14 => ?_)
            refine ok_o (sp_X0_quotient r63 r78 ) (fun r117 h15 => ?_)
            refine ok_o2 (sp_X3_append c_t_parts_size_50 f_t_parts_held_106 r117 (by first | omega | assumption | trivial) (by first | omega | assumption | trivial)) (fun c_t_parts_size_120 f_t_parts_held_120 h16 => ?_)
            have h16 : 0 ≤ c_t_parts_size_120.toInt ∧ c_t_parts_size_120.toInt ≤ 12 := h16
            first | unfold J_X1_partByTraces_123 | skip
            refine ok_bx (fun x7_123_3 e_x7_123_3 => ?_)
            try have t_x7_123_3 : x7_123_3.toInt = y7_50.toInt + 1 := by rw [e_x7_123_3]; exact addT1 (show (1 : Int32).toInt = 1 from by decide) (by omega) (by omega)
            exact hih7 x7_123_3 c_t_parts_size_120 f_t_parts_held_120 (show 0 ≤ x7_123_3.toInt ∧ 0 ≤ c_t_parts_size_120.toInt ∧ c_t_parts_size_120.toInt ≤ 12 from by first | omega | assumption | trivial | (refine ⟨?_, ?_⟩ <;> first | omega | assumption | trivial | rfl) | (refine ⟨?_, ?_, ?_⟩ <;> first | omega | assumption | trivial | rfl) | (refine ⟨?_, ?_, ?_, ?_⟩ <;> first | omega | assumption | trivial | rfl) | (refine ⟨?_, ?_, ?_, ?_, ?_⟩ <;> first | omega | assumption | trivial | rfl) | (refine ⟨?_, ?_, ?_, ?_, ?_, ?_⟩ <;> first | omega | assumption | trivial | rfl) | (refine ⟨?_, ?_, ?_, ?_, ?_, ?_, ?_⟩ <;> first | omega | assumption | trivial | rfl) | (refine ⟨?_, ?_, ?_, ?_, ?_, ?_, ?_, ?_⟩ <;> first | omega | assumption | trivial | rfl)) (show (c_t_parts_size_31.toInt - x7_123_3.toInt + 1).toNat < (c_t_parts_size_31.toInt - y7_50.toInt + 1).toNat from by omega)
  · exact ok_s (show 0 ≤ c_t_parts_size_4.toInt ∧ c_t_parts_size_4.toInt ≤ 12 from by first | omega | assumption | trivial | (refine ⟨?_, ?_⟩ <;> first | omega | assumption | trivial | rfl) | (refine ⟨?_, ?_, ?_⟩ <;> first | omega | assumption | trivial | rfl) | (refine ⟨?_, ?_, ?_, ?_⟩ <;> first | omega | assumption | trivial | rfl) | (refine ⟨?_, ?_, ?_, ?_, ?_⟩ <;> first | omega | assumption | trivial | rfl) | (refine ⟨?_, ?_, ?_, ?_, ?_, ?_⟩ <;> first | omega | assumption | trivial | rfl) | (refine ⟨?_, ?_, ?_, ?_, ?_, ?_, ?_⟩ <;> first | omega | assumption | trivial | rfl) | (refine ⟨?_, ?_, ?_, ?_, ?_, ?_, ?_, ?_⟩ <;> first | omega | assumption | trivial | rfl))
set_option maxHeartbeats 1000000 in
theorem sp_X1_dividedOut (c_q2_size : Int32) (f_q2_held : Nat → Int64) (p0 : Int64) (p1 : Int64) (hp0 : 0 ≤ c_q2_size.toInt) (hp1 : c_q2_size.toInt ≤ 12) : ok (F_X1_dividedOut c_q2_size f_q2_held p0 p1) (fun r => 0 ≤ r.2.1.toInt ∧ r.2.1.toInt ≤ 12) := by
  have l032 : (0 : Int32).toInt = 0 := by decide
  have l132 : (1 : Int32).toInt = 1 := by decide
  have l1032 : (10 : Int32).toInt = 10 := by decide
  unfold F_X1_dividedOut
  refine ok_L4 (fun y5_6 y7_6 c_q2_size_6 f_q2_held_6 => 0 ≤ y7_6.toInt ∧ 0 ≤ c_q2_size_6.toInt ∧ c_q2_size_6.toInt ≤ 12) (fun y5_6 y7_6 c_q2_size_6 f_q2_held_6 => (10 - y7_6.toInt + 1).toNat) (fun ih6 y5_6 y7_6 c_q2_size_6 f_q2_held_6 hI1 hih1 => ?_) 20000 p0 (0 : Int32) c_q2_size f_q2_held (show 0 ≤ (0 : Int32).toInt ∧ 0 ≤ c_q2_size.toInt ∧ c_q2_size.toInt ≤ 12 from by first | omega | assumption | trivial | (refine ⟨?_, ?_⟩ <;> first | omega | assumption | trivial | rfl) | (refine ⟨?_, ?_, ?_⟩ <;> first | omega | assumption | trivial | rfl) | (refine ⟨?_, ?_, ?_, ?_⟩ <;> first | omega | assumption | trivial | rfl) | (refine ⟨?_, ?_, ?_, ?_, ?_⟩ <;> first | omega | assumption | trivial | rfl) | (refine ⟨?_, ?_, ?_, ?_, ?_, ?_⟩ <;> first | omega | assumption | trivial | rfl) | (refine ⟨?_, ?_, ?_, ?_, ?_, ?_, ?_⟩ <;> first | omega | assumption | trivial | rfl) | (refine ⟨?_, ?_, ?_, ?_, ?_, ?_, ?_, ?_⟩ <;> first | omega | assumption | trivial | rfl)) (show (10 - (0 : Int32).toInt + 1).toNat < 20000 from by omega)
  have hI1 : 0 ≤ y7_6.toInt ∧ 0 ≤ c_q2_size_6.toInt ∧ c_q2_size_6.toInt ≤ 12 := hI1
  unfold S_X1_dividedOut_6
  refine ok_le (fun c2 => ?_) (fun c2 => ?_)
  · exact ok_s (show 0 ≤ c_q2_size_6.toInt ∧ c_q2_size_6.toInt ≤ 12 from by first | omega | assumption | trivial | (refine ⟨?_, ?_⟩ <;> first | omega | assumption | trivial | rfl) | (refine ⟨?_, ?_, ?_⟩ <;> first | omega | assumption | trivial | rfl) | (refine ⟨?_, ?_, ?_, ?_⟩ <;> first | omega | assumption | trivial | rfl) | (refine ⟨?_, ?_, ?_, ?_, ?_⟩ <;> first | omega | assumption | trivial | rfl) | (refine ⟨?_, ?_, ?_, ?_, ?_, ?_⟩ <;> first | omega | assumption | trivial | rfl) | (refine ⟨?_, ?_, ?_, ?_, ?_, ?_, ?_⟩ <;> first | omega | assumption | trivial | rfl) | (refine ⟨?_, ?_, ?_, ?_, ?_, ?_, ?_, ?_⟩ <;> first | omega | assumption | trivial | rfl))
  · refine ok_o (sp_X0_goesInto p1 y5_6 ) (fun r16 h3 => ?_)
    have h3 : r16.toInt = 0 ∨ r16.toInt = 1 := h3
    refine ok_eq (fun c4 => ?_) (fun c4 => ?_)
    · exact ok_s (show 0 ≤ c_q2_size_6.toInt ∧ c_q2_size_6.toInt ≤ 12 from by first | omega | assumption | trivial | (refine ⟨?_, ?_⟩ <;> first | omega | assumption | trivial | rfl) | (refine ⟨?_, ?_, ?_⟩ <;> first | omega | assumption | trivial | rfl) | (refine ⟨?_, ?_, ?_, ?_⟩ <;> first | omega | assumption | trivial | rfl) | (refine ⟨?_, ?_, ?_, ?_, ?_⟩ <;> first | omega | assumption | trivial | rfl) | (refine ⟨?_, ?_, ?_, ?_, ?_, ?_⟩ <;> first | omega | assumption | trivial | rfl) | (refine ⟨?_, ?_, ?_, ?_, ?_, ?_, ?_⟩ <;> first | omega | assumption | trivial | rfl) | (refine ⟨?_, ?_, ?_, ?_, ?_, ?_, ?_, ?_⟩ <;> first | omega | assumption | trivial | rfl))
    · refine ok_o2 (sp_X3_append c_q2_size_6 f_q2_held_6 p1 (by first | omega | assumption | trivial) (by first | omega | assumption | trivial)) (fun c_q2_size_25 f_q2_held_25 h5 => ?_)
      have h5 : 0 ≤ c_q2_size_25.toInt ∧ c_q2_size_25.toInt ≤ 12 := h5
      refine ok_o (sp_X0_quotient y5_6 p1 ) (fun r31 h6 => ?_)
      refine ok_bx (fun x7_36 e_x7_36 => ?_)
      try have t_x7_36 : x7_36.toInt = y7_6.toInt + 1 := by rw [e_x7_36]; exact addT1 (show (1 : Int32).toInt = 1 from by decide) (by omega) (by omega)
      exact hih1 r31 x7_36 c_q2_size_25 f_q2_held_25 (show 0 ≤ x7_36.toInt ∧ 0 ≤ c_q2_size_25.toInt ∧ c_q2_size_25.toInt ≤ 12 from by first | omega | assumption | trivial | (refine ⟨?_, ?_⟩ <;> first | omega | assumption | trivial | rfl) | (refine ⟨?_, ?_, ?_⟩ <;> first | omega | assumption | trivial | rfl) | (refine ⟨?_, ?_, ?_, ?_⟩ <;> first | omega | assumption | trivial | rfl) | (refine ⟨?_, ?_, ?_, ?_, ?_⟩ <;> first | omega | assumption | trivial | rfl) | (refine ⟨?_, ?_, ?_, ?_, ?_, ?_⟩ <;> first | omega | assumption | trivial | rfl) | (refine ⟨?_, ?_, ?_, ?_, ?_, ?_, ?_⟩ <;> first | omega | assumption | trivial | rfl) | (refine ⟨?_, ?_, ?_, ?_, ?_, ?_, ?_, ?_⟩ <;> first | omega | assumption | trivial | rfl)) (show (10 - x7_36.toInt + 1).toNat < (10 - y7_6.toInt + 1).toNat from by omega)
set_option maxHeartbeats 1000000 in
theorem sp_X0_risenRest (p0 : Int32) (p1 : Int64) (hp0 : p0.toInt ≤ 100) (hp1 : -100 ≤ p0.toInt) : ok (F_X0_risenRest p0 p1) (fun r => True) := by
  have l032 : (0 : Int32).toInt = 0 := by decide
  have l132 : (1 : Int32).toInt = 1 := by decide
  have l264 : (2 : Int64).toInt = 2 := by decide
  unfold F_X0_risenRest
  refine ok_o (sp_X0_rest (2 : Int64) p1 ) (fun r4 h1 => ?_)
  refine ok_L2 (fun y3_11 y5_11 => 0 ≤ y5_11.toInt) (fun y3_11 y5_11 => (p0.toInt - y5_11.toInt + 1).toNat) (fun ih11 y3_11 y5_11 hI2 hih2 => ?_) 20000 r4 (0 : Int32) (show 0 ≤ (0 : Int32).toInt from by first | omega | assumption | trivial | (refine ⟨?_, ?_⟩ <;> first | omega | assumption | trivial | rfl) | (refine ⟨?_, ?_, ?_⟩ <;> first | omega | assumption | trivial | rfl) | (refine ⟨?_, ?_, ?_, ?_⟩ <;> first | omega | assumption | trivial | rfl) | (refine ⟨?_, ?_, ?_, ?_, ?_⟩ <;> first | omega | assumption | trivial | rfl) | (refine ⟨?_, ?_, ?_, ?_, ?_, ?_⟩ <;> first | omega | assumption | trivial | rfl) | (refine ⟨?_, ?_, ?_, ?_, ?_, ?_, ?_⟩ <;> first | omega | assumption | trivial | rfl) | (refine ⟨?_, ?_, ?_, ?_, ?_, ?_, ?_, ?_⟩ <;> first | omega | assumption | trivial | rfl)) (show (p0.toInt - (0 : Int32).toInt + 1).toNat < 20000 from by omega)
  have hI2 : 0 ≤ y5_11.toInt := hI2
  unfold S_X0_risenRest_11
  refine ok_le (fun c3 => ?_) (fun c3 => ?_)
  · exact ok_s trivial
  · refine ok_o (sp_X0_squared y3_11 ) (fun r18 h4 => ?_)
    refine ok_o (sp_X0_rest r18 p1 ) (fun r22 h5 => ?_)
    refine ok_bx (fun x5_26 e_x5_26 => ?_)
    try have t_x5_26 : x5_26.toInt = y5_11.toInt + 1 := by rw [e_x5_26]; exact addT1 (show (1 : Int32).toInt = 1 from by decide) (by omega) (by omega)
    exact hih2 r22 x5_26 (show 0 ≤ x5_26.toInt from by first | omega | assumption | trivial | (refine ⟨?_, ?_⟩ <;> first | omega | assumption | trivial | rfl) | (refine ⟨?_, ?_, ?_⟩ <;> first | omega | assumption | trivial | rfl) | (refine ⟨?_, ?_, ?_, ?_⟩ <;> first | omega | assumption | trivial | rfl) | (refine ⟨?_, ?_, ?_, ?_, ?_⟩ <;> first | omega | assumption | trivial | rfl) | (refine ⟨?_, ?_, ?_, ?_, ?_, ?_⟩ <;> first | omega | assumption | trivial | rfl) | (refine ⟨?_, ?_, ?_, ?_, ?_, ?_, ?_⟩ <;> first | omega | assumption | trivial | rfl) | (refine ⟨?_, ?_, ?_, ?_, ?_, ?_, ?_, ?_⟩ <;> first | omega | assumption | trivial | rfl)) (show (p0.toInt - x5_26.toInt + 1).toNat < (p0.toInt - y5_11.toInt + 1).toNat from by omega)
set_option maxHeartbeats 1000000 in
theorem sp_X1_findByDegrees (c_t_parts_size : Int32) (f_t_parts_held : Nat → Int64) (f_q1_held : Nat → Int64) (p0 : Int64) (hp0 : 0 ≤ c_t_parts_size.toInt) (hp1 : c_t_parts_size.toInt ≤ 12) : ok (F_X1_findByDegrees c_t_parts_size f_t_parts_held f_q1_held p0) (fun r => 0 ≤ r.1.toInt ∧ r.1.toInt ≤ 12 ∧ 0 ≤ r.2.2.1.toInt ∧ r.2.2.1.toInt ≤ 12) := by
  have l032 : (0 : Int32).toInt = 0 := by decide
  have l132 : (1 : Int32).toInt = 1 := by decide
  have l264 : (2 : Int64).toInt = 2 := by decide
  have l1032 : (10 : Int32).toInt = 10 := by decide
  unfold F_X1_findByDegrees
  refine ok_o (sp_X3_removeAll  ) (fun c_q1_size_1 h1 => ?_)
  have h1 : c_q1_size_1.toInt = 0 := h1
  refine ok_L6 (fun y4_10 y6_10 c_t_parts_size_10 f_t_parts_held_10 c_q1_size_10 f_q1_held_10 => 1 ≤ y6_10.toInt ∧ 0 ≤ c_t_parts_size_10.toInt ∧ c_t_parts_size_10.toInt ≤ 12 ∧ 0 ≤ c_q1_size_10.toInt ∧ c_q1_size_10.toInt ≤ 12) (fun y4_10 y6_10 c_t_parts_size_10 f_t_parts_held_10 c_q1_size_10 f_q1_held_10 => (11 - y6_10.toInt + 1).toNat) (fun ih10 y4_10 y6_10 c_t_parts_size_10 f_t_parts_held_10 c_q1_size_10 f_q1_held_10 hI2 hih2 => ?_) 20000 p0 (1 : Int32) c_t_parts_size f_t_parts_held c_q1_size_1 f_q1_held (show 1 ≤ (1 : Int32).toInt ∧ 0 ≤ c_t_parts_size.toInt ∧ c_t_parts_size.toInt ≤ 12 ∧ 0 ≤ c_q1_size_1.toInt ∧ c_q1_size_1.toInt ≤ 12 from by first | omega | assumption | trivial | (refine ⟨?_, ?_⟩ <;> first | omega | assumption | trivial | rfl) | (refine ⟨?_, ?_, ?_⟩ <;> first | omega | assumption | trivial | rfl) | (refine ⟨?_, ?_, ?_, ?_⟩ <;> first | omega | assumption | trivial | rfl) | (refine ⟨?_, ?_, ?_, ?_, ?_⟩ <;> first | omega | assumption | trivial | rfl) | (refine ⟨?_, ?_, ?_, ?_, ?_, ?_⟩ <;> first | omega | assumption | trivial | rfl) | (refine ⟨?_, ?_, ?_, ?_, ?_, ?_, ?_⟩ <;> first | omega | assumption | trivial | rfl) | (refine ⟨?_, ?_, ?_, ?_, ?_, ?_, ?_, ?_⟩ <;> first | omega | assumption | trivial | rfl)) (show (11 - (1 : Int32).toInt + 1).toNat < 20000 from by omega)
  have hI2 : 1 ≤ y6_10.toInt ∧ 0 ≤ c_t_parts_size_10.toInt ∧ c_t_parts_size_10.toInt ≤ 12 ∧ 0 ≤ c_q1_size_10.toInt ∧ c_q1_size_10.toInt ≤ 12 := hI2
  unfold S_X1_findByDegrees_10
  refine ok_lt (fun c3 => ?_) (fun c3 => ?_)
  · exact ok_s (show 0 ≤ c_t_parts_size_10.toInt ∧ c_t_parts_size_10.toInt ≤ 12 ∧ 0 ≤ c_q1_size_10.toInt ∧ c_q1_size_10.toInt ≤ 12 from by first | omega | assumption | trivial | (refine ⟨?_, ?_⟩ <;> first | omega | assumption | trivial | rfl) | (refine ⟨?_, ?_, ?_⟩ <;> first | omega | assumption | trivial | rfl) | (refine ⟨?_, ?_, ?_, ?_⟩ <;> first | omega | assumption | trivial | rfl) | (refine ⟨?_, ?_, ?_, ?_, ?_⟩ <;> first | omega | assumption | trivial | rfl) | (refine ⟨?_, ?_, ?_, ?_, ?_, ?_⟩ <;> first | omega | assumption | trivial | rfl) | (refine ⟨?_, ?_, ?_, ?_, ?_, ?_, ?_⟩ <;> first | omega | assumption | trivial | rfl) | (refine ⟨?_, ?_, ?_, ?_, ?_, ?_, ?_, ?_⟩ <;> first | omega | assumption | trivial | rfl))
  · refine ok_o (sp_X0_degreeOf y4_10 ) (fun r19 h4 => ?_)
    have h4 : r19.toInt = DG y4_10 ∧ -1 ≤ r19.toInt ∧ r19.toInt ≤ 63 := h4
    refine ok_le (fun c5 => ?_) (fun c5 => ?_)
    · exact ok_s (show 0 ≤ c_t_parts_size_10.toInt ∧ c_t_parts_size_10.toInt ≤ 12 ∧ 0 ≤ c_q1_size_10.toInt ∧ c_q1_size_10.toInt ≤ 12 from by first | omega | assumption | trivial | (refine ⟨?_, ?_⟩ <;> first | omega | assumption | trivial | rfl) | (refine ⟨?_, ?_, ?_⟩ <;> first | omega | assumption | trivial | rfl) | (refine ⟨?_, ?_, ?_, ?_⟩ <;> first | omega | assumption | trivial | rfl) | (refine ⟨?_, ?_, ?_, ?_, ?_⟩ <;> first | omega | assumption | trivial | rfl) | (refine ⟨?_, ?_, ?_, ?_, ?_, ?_⟩ <;> first | omega | assumption | trivial | rfl) | (refine ⟨?_, ?_, ?_, ?_, ?_, ?_, ?_⟩ <;> first | omega | assumption | trivial | rfl) | (refine ⟨?_, ?_, ?_, ?_, ?_, ?_, ?_, ?_⟩ <;> first | omega | assumption | trivial | rfl))
    · refine ok_o (sp_X0_risenRest y6_10 y4_10 (by first | omega | assumption | trivial) (by first | omega | assumption | trivial)) (fun r31 h6 => ?_)
      refine ok_o (sp_X0_greatestBoth y4_10 (r31 ^^^ (2 : Int64)) ) (fun r38 h7 => ?_)
      refine ok_o2 (sp_X1_partByTraces f_t_parts_held_10 r38 y6_10 (by first | omega | assumption | trivial) (by first | omega | assumption | trivial)) (fun c_t_parts_size_48 f_t_parts_held_48 h8 => ?_)
      have h8 : 0 ≤ c_t_parts_size_48.toInt ∧ c_t_parts_size_48.toInt ≤ 12 := h8
      refine ok_L4 (fun y4_54 y9_54 c_q1_size_54 f_q1_held_54 => 0 ≤ y9_54.toInt ∧ 0 ≤ c_q1_size_54.toInt ∧ c_q1_size_54.toInt ≤ 12) (fun y4_54 y9_54 c_q1_size_54 f_q1_held_54 => (c_t_parts_size_48.toInt - y9_54.toInt + 1).toNat) (fun ih54 y4_54 y9_54 c_q1_size_54 f_q1_held_54 hI9 hih9 => ?_) 20000 y4_10 (0 : Int32) c_q1_size_10 f_q1_held_10 (show 0 ≤ (0 : Int32).toInt ∧ 0 ≤ c_q1_size_10.toInt ∧ c_q1_size_10.toInt ≤ 12 from by first | omega | assumption | trivial | (refine ⟨?_, ?_⟩ <;> first | omega | assumption | trivial | rfl) | (refine ⟨?_, ?_, ?_⟩ <;> first | omega | assumption | trivial | rfl) | (refine ⟨?_, ?_, ?_, ?_⟩ <;> first | omega | assumption | trivial | rfl) | (refine ⟨?_, ?_, ?_, ?_, ?_⟩ <;> first | omega | assumption | trivial | rfl) | (refine ⟨?_, ?_, ?_, ?_, ?_, ?_⟩ <;> first | omega | assumption | trivial | rfl) | (refine ⟨?_, ?_, ?_, ?_, ?_, ?_, ?_⟩ <;> first | omega | assumption | trivial | rfl) | (refine ⟨?_, ?_, ?_, ?_, ?_, ?_, ?_, ?_⟩ <;> first | omega | assumption | trivial | rfl)) (show (c_t_parts_size_48.toInt - (0 : Int32).toInt + 1).toNat < 20000 from by omega)
      have hI9 : 0 ≤ y9_54.toInt ∧ 0 ≤ c_q1_size_54.toInt ∧ c_q1_size_54.toInt ≤ 12 := hI9
      unfold S_X1_findByDegrees_54
      refine ok_le (fun c10 => ?_) (fun c10 => ?_)
      · refine ok_bx (fun x6_89 e_x6_89 => ?_)
        try have t_x6_89 : x6_89.toInt = y6_10.toInt + 1 := by rw [e_x6_89]; exact addT1 (show (1 : Int32).toInt = 1 from by decide) (by omega) (by omega)
        exact hih2 y4_54 x6_89 c_t_parts_size_48 f_t_parts_held_48 c_q1_size_54 f_q1_held_54 (show 1 ≤ x6_89.toInt ∧ 0 ≤ c_t_parts_size_48.toInt ∧ c_t_parts_size_48.toInt ≤ 12 ∧ 0 ≤ c_q1_size_54.toInt ∧ c_q1_size_54.toInt ≤ 12 from by first | omega | assumption | trivial | (refine ⟨?_, ?_⟩ <;> first | omega | assumption | trivial | rfl) | (refine ⟨?_, ?_, ?_⟩ <;> first | omega | assumption | trivial | rfl) | (refine ⟨?_, ?_, ?_, ?_⟩ <;> first | omega | assumption | trivial | rfl) | (refine ⟨?_, ?_, ?_, ?_, ?_⟩ <;> first | omega | assumption | trivial | rfl) | (refine ⟨?_, ?_, ?_, ?_, ?_, ?_⟩ <;> first | omega | assumption | trivial | rfl) | (refine ⟨?_, ?_, ?_, ?_, ?_, ?_, ?_⟩ <;> first | omega | assumption | trivial | rfl) | (refine ⟨?_, ?_, ?_, ?_, ?_, ?_, ?_, ?_⟩ <;> first | omega | assumption | trivial | rfl)) (show (11 - x6_89.toInt + 1).toNat < (11 - y6_10.toInt + 1).toNat from by omega)
      · refine ok_o (sp_X3_at c_t_parts_size_48 f_t_parts_held_48 y9_54 (by first | omega | assumption | trivial) (by first | omega | assumption | trivial)) (fun r74 h11 => ?_)
        refine ok_o3 (sp_X1_dividedOut c_q1_size_54 f_q1_held_54 y4_54 r74 (by first | omega | assumption | trivial) (by first | omega | assumption | trivial)) (fun r78 c_q1_size_78 f_q1_held_78 h12 => ?_)
        have h12 : 0 ≤ c_q1_size_78.toInt ∧ c_q1_size_78.toInt ≤ 12 := h12
        refine ok_bx (fun x9_83 e_x9_83 => ?_)
        try have t_x9_83 : x9_83.toInt = y9_54.toInt + 1 := by rw [e_x9_83]; exact addT1 (show (1 : Int32).toInt = 1 from by decide) (by omega) (by omega)
        exact hih9 r78 x9_83 c_q1_size_78 f_q1_held_78 (show 0 ≤ x9_83.toInt ∧ 0 ≤ c_q1_size_78.toInt ∧ c_q1_size_78.toInt ≤ 12 from by first | omega | assumption | trivial | (refine ⟨?_, ?_⟩ <;> first | omega | assumption | trivial | rfl) | (refine ⟨?_, ?_, ?_⟩ <;> first | omega | assumption | trivial | rfl) | (refine ⟨?_, ?_, ?_, ?_⟩ <;> first | omega | assumption | trivial | rfl) | (refine ⟨?_, ?_, ?_, ?_, ?_⟩ <;> first | omega | assumption | trivial | rfl) | (refine ⟨?_, ?_, ?_, ?_, ?_, ?_⟩ <;> first | omega | assumption | trivial | rfl) | (refine ⟨?_, ?_, ?_, ?_, ?_, ?_, ?_⟩ <;> first | omega | assumption | trivial | rfl) | (refine ⟨?_, ?_, ?_, ?_, ?_, ?_, ?_, ?_⟩ <;> first | omega | assumption | trivial | rfl)) (show (c_t_parts_size_48.toInt - x9_83.toInt + 1).toNat < (c_t_parts_size_48.toInt - y9_54.toInt + 1).toNat from by omega)
set_option maxHeartbeats 1000000 in
theorem sp_X3_howManyOthers (c_t_size : Int32) (f_t_held : Nat → Int64) (f_t_before : Nat → Int64) (hp0 : 0 ≤ c_t_size.toInt) (hp1 : c_t_size.toInt ≤ 12) : ok (F_X3_howManyOthers c_t_size f_t_held f_t_before) (fun r => True) := by
  have l032 : (0 : Int32).toInt = 0 := by decide
  have l132 : (1 : Int32).toInt = 1 := by decide
  unfold F_X3_howManyOthers
  refine ok_L2 (fun y1_4 y2_4 => 0 ≤ y2_4.toInt) (fun y1_4 y2_4 => (c_t_size.toInt - y2_4.toInt + 1).toNat) (fun ih4 y1_4 y2_4 hI1 hih1 => ?_) 20000 (0 : Int32) (0 : Int32) (show 0 ≤ (0 : Int32).toInt from by first | omega | assumption | trivial | (refine ⟨?_, ?_⟩ <;> first | omega | assumption | trivial | rfl) | (refine ⟨?_, ?_, ?_⟩ <;> first | omega | assumption | trivial | rfl) | (refine ⟨?_, ?_, ?_, ?_⟩ <;> first | omega | assumption | trivial | rfl) | (refine ⟨?_, ?_, ?_, ?_, ?_⟩ <;> first | omega | assumption | trivial | rfl) | (refine ⟨?_, ?_, ?_, ?_, ?_, ?_⟩ <;> first | omega | assumption | trivial | rfl) | (refine ⟨?_, ?_, ?_, ?_, ?_, ?_, ?_⟩ <;> first | omega | assumption | trivial | rfl) | (refine ⟨?_, ?_, ?_, ?_, ?_, ?_, ?_, ?_⟩ <;> first | omega | assumption | trivial | rfl)) (show (c_t_size.toInt - (0 : Int32).toInt + 1).toNat < 20000 from by omega)
  have hI1 : 0 ≤ y2_4.toInt := hI1
  unfold S_X3_howManyOthers_4
  refine ok_le (fun c2 => ?_) (fun c2 => ?_)
  · exact ok_s trivial
  · refine ok_c (ixo (by omega) (by omega)) ?_
    refine ok_c (ixo (by omega) (by omega)) ?_
    refine ok_eqL (fun c3 => ?_) (fun c3 => ?_)
    · refine ok_bx (fun x2_31 e_x2_31 => ?_)
      try have t_x2_31 : x2_31.toInt = y2_4.toInt + 1 := by rw [e_x2_31]; exact addT1 (show (1 : Int32).toInt = 1 from by decide) (by omega) (by omega)
      exact hih1 y1_4 x2_31 (show 0 ≤ x2_31.toInt from by first | omega | assumption | trivial | (refine ⟨?_, ?_⟩ <;> first | omega | assumption | trivial | rfl) | (refine ⟨?_, ?_, ?_⟩ <;> first | omega | assumption | trivial | rfl) | (refine ⟨?_, ?_, ?_, ?_⟩ <;> first | omega | assumption | trivial | rfl) | (refine ⟨?_, ?_, ?_, ?_, ?_⟩ <;> first | omega | assumption | trivial | rfl) | (refine ⟨?_, ?_, ?_, ?_, ?_, ?_⟩ <;> first | omega | assumption | trivial | rfl) | (refine ⟨?_, ?_, ?_, ?_, ?_, ?_, ?_⟩ <;> first | omega | assumption | trivial | rfl) | (refine ⟨?_, ?_, ?_, ?_, ?_, ?_, ?_, ?_⟩ <;> first | omega | assumption | trivial | rfl)) (show (c_t_size.toInt - x2_31.toInt + 1).toNat < (c_t_size.toInt - y2_4.toInt + 1).toNat from by omega)
    · refine ok_bx (fun x1_28 e_x1_28 => ?_)
      try have t_x1_28 : x1_28.toInt = y1_4.toInt + 1 := by rw [e_x1_28]; exact addT1 (show (1 : Int32).toInt = 1 from by decide) (by omega) (by omega)
      refine ok_bx (fun x2_31_2 e_x2_31_2 => ?_)
      try have t_x2_31_2 : x2_31_2.toInt = y2_4.toInt + 1 := by rw [e_x2_31_2]; exact addT1 (show (1 : Int32).toInt = 1 from by decide) (by omega) (by omega)
      exact hih1 x1_28 x2_31_2 (show 0 ≤ x2_31_2.toInt from by first | omega | assumption | trivial | (refine ⟨?_, ?_⟩ <;> first | omega | assumption | trivial | rfl) | (refine ⟨?_, ?_, ?_⟩ <;> first | omega | assumption | trivial | rfl) | (refine ⟨?_, ?_, ?_, ?_⟩ <;> first | omega | assumption | trivial | rfl) | (refine ⟨?_, ?_, ?_, ?_, ?_⟩ <;> first | omega | assumption | trivial | rfl) | (refine ⟨?_, ?_, ?_, ?_, ?_, ?_⟩ <;> first | omega | assumption | trivial | rfl) | (refine ⟨?_, ?_, ?_, ?_, ?_, ?_, ?_⟩ <;> first | omega | assumption | trivial | rfl) | (refine ⟨?_, ?_, ?_, ?_, ?_, ?_, ?_, ?_⟩ <;> first | omega | assumption | trivial | rfl)) (show (c_t_size.toInt - x2_31_2.toInt + 1).toNat < (c_t_size.toInt - y2_4.toInt + 1).toNat from by omega)
set_option maxHeartbeats 1000000 in
theorem sp_X3_arrange (c_t_size : Int32) (f_t_held : Nat → Int64) (f_t_before : Nat → Int64) (p0 : Int32) (hp0 : 0 ≤ c_t_size.toInt) (hp1 : c_t_size.toInt ≤ 12) : ok (F_X3_arrange c_t_size f_t_held f_t_before p0) (fun r => True) := by
  have lm132 : (-1 : Int32).toInt = -1 := by decide
  have l032 : (0 : Int32).toInt = 0 := by decide
  have l132 : (1 : Int32).toInt = 1 := by decide
  have l1232 : (12 : Int32).toInt = 12 := by decide
  unfold F_X3_arrange
  refine ok_bx (fun f_t_before_12 e_f_t_before_12 => ?_)
  refine ok_L2 (fun y2_17 f_t_held_17 => 1 ≤ y2_17.toInt) (fun y2_17 f_t_held_17 => (c_t_size.toInt - y2_17.toInt + 1).toNat) (fun ih17 y2_17 f_t_held_17 hI1 hih1 => ?_) 20000 (1 : Int32) f_t_held (show 1 ≤ (1 : Int32).toInt from by first | omega | assumption | trivial | (refine ⟨?_, ?_⟩ <;> first | omega | assumption | trivial | rfl) | (refine ⟨?_, ?_, ?_⟩ <;> first | omega | assumption | trivial | rfl) | (refine ⟨?_, ?_, ?_, ?_⟩ <;> first | omega | assumption | trivial | rfl) | (refine ⟨?_, ?_, ?_, ?_, ?_⟩ <;> first | omega | assumption | trivial | rfl) | (refine ⟨?_, ?_, ?_, ?_, ?_, ?_⟩ <;> first | omega | assumption | trivial | rfl) | (refine ⟨?_, ?_, ?_, ?_, ?_, ?_, ?_⟩ <;> first | omega | assumption | trivial | rfl) | (refine ⟨?_, ?_, ?_, ?_, ?_, ?_, ?_, ?_⟩ <;> first | omega | assumption | trivial | rfl)) (show (c_t_size.toInt - (1 : Int32).toInt + 1).toNat < 20000 from by omega)
  have hI1 : 1 ≤ y2_17.toInt := hI1
  unfold S_X3_arrange_17
  refine ok_le (fun c2 => ?_) (fun c2 => ?_)
  · refine ok_o (sp_X3_howManyOthers c_t_size f_t_held_17 f_t_before_12 (by first | omega | assumption | trivial) (by first | omega | assumption | trivial)) (fun r112 h3 => ?_)
    exact ok_s trivial
  · refine ok_c (ixo (by omega) (by omega)) ?_
    refine ok_bx (fun x3_31 e_x3_31 => ?_)
    refine ok_L2 (fun y5_35 f_t_held_35 => 0 ≤ y5_35.toInt ∧ y5_35.toInt ≤ 11) (fun y5_35 f_t_held_35 => (y5_35.toInt + 1).toNat) (fun ih35 y5_35 f_t_held_35 hI4 hih4 => ?_) 20000 y2_17 f_t_held_17 (show 0 ≤ y2_17.toInt ∧ y2_17.toInt ≤ 11 from by first | omega | assumption | trivial | (refine ⟨?_, ?_⟩ <;> first | omega | assumption | trivial | rfl) | (refine ⟨?_, ?_, ?_⟩ <;> first | omega | assumption | trivial | rfl) | (refine ⟨?_, ?_, ?_, ?_⟩ <;> first | omega | assumption | trivial | rfl) | (refine ⟨?_, ?_, ?_, ?_, ?_⟩ <;> first | omega | assumption | trivial | rfl) | (refine ⟨?_, ?_, ?_, ?_, ?_, ?_⟩ <;> first | omega | assumption | trivial | rfl) | (refine ⟨?_, ?_, ?_, ?_, ?_, ?_, ?_⟩ <;> first | omega | assumption | trivial | rfl) | (refine ⟨?_, ?_, ?_, ?_, ?_, ?_, ?_, ?_⟩ <;> first | omega | assumption | trivial | rfl)) (show (y2_17.toInt + 1).toNat < 20000 from by omega)
    have hI4 : 0 ≤ y5_35.toInt ∧ y5_35.toInt ≤ 11 := hI4
    unfold S_X3_arrange_35
    refine ok_le (fun c5 => ?_) (fun c5 => ?_)
    · first | unfold J_X3_arrange_97 | skip
      refine ok_c (ixo (by omega) (by omega)) ?_
      refine ok_bx (fun f_t_held_104 e_f_t_held_104 => ?_)
      refine ok_bx (fun x2_105 e_x2_105 => ?_)
      try have t_x2_105 : x2_105.toInt = y2_17.toInt + 1 := by rw [e_x2_105]; exact addT1 (show (1 : Int32).toInt = 1 from by decide) (by omega) (by omega)
      exact hih1 x2_105 f_t_held_104 (show 1 ≤ x2_105.toInt from by first | omega | assumption | trivial | (refine ⟨?_, ?_⟩ <;> first | omega | assumption | trivial | rfl) | (refine ⟨?_, ?_, ?_⟩ <;> first | omega | assumption | trivial | rfl) | (refine ⟨?_, ?_, ?_, ?_⟩ <;> first | omega | assumption | trivial | rfl) | (refine ⟨?_, ?_, ?_, ?_, ?_⟩ <;> first | omega | assumption | trivial | rfl) | (refine ⟨?_, ?_, ?_, ?_, ?_, ?_⟩ <;> first | omega | assumption | trivial | rfl) | (refine ⟨?_, ?_, ?_, ?_, ?_, ?_, ?_⟩ <;> first | omega | assumption | trivial | rfl) | (refine ⟨?_, ?_, ?_, ?_, ?_, ?_, ?_, ?_⟩ <;> first | omega | assumption | trivial | rfl)) (show (c_t_size.toInt - x2_105.toInt + 1).toNat < (c_t_size.toInt - y2_17.toInt + 1).toNat from by omega)
    · refine ok_eq (fun c6 => ?_) (fun c6 => ?_)
      · obtain ⟨w7, e_w7⟩ : ∃ w : Int32, w = y5_35 - (1 : Int32) := ⟨_, rfl⟩
        try have t_w7 : w7.toInt = y5_35.toInt - 1 := by rw [e_w7]; exact subT1 (show (1 : Int32).toInt = 1 from by decide) (by omega) (by omega)
        try rw [← e_w7]
        refine ok_c (ixo (by omega) (by omega)) ?_
        refine ok_leL (fun c8 => ?_) (fun c8 => ?_)
        · first | unfold J_X3_arrange_97 | skip
          try rw [← e_w7]
          refine ok_c (ixo (by omega) (by omega)) ?_
          refine ok_bx (fun f_t_held_104_2 e_f_t_held_104_2 => ?_)
          refine ok_bx (fun x2_105_2 e_x2_105_2 => ?_)
          try have t_x2_105_2 : x2_105_2.toInt = y2_17.toInt + 1 := by rw [e_x2_105_2]; exact addT1 (show (1 : Int32).toInt = 1 from by decide) (by omega) (by omega)
          exact hih1 x2_105_2 f_t_held_104_2 (show 1 ≤ x2_105_2.toInt from by first | omega | assumption | trivial | (refine ⟨?_, ?_⟩ <;> first | omega | assumption | trivial | rfl) | (refine ⟨?_, ?_, ?_⟩ <;> first | omega | assumption | trivial | rfl) | (refine ⟨?_, ?_, ?_, ?_⟩ <;> first | omega | assumption | trivial | rfl) | (refine ⟨?_, ?_, ?_, ?_, ?_⟩ <;> first | omega | assumption | trivial | rfl) | (refine ⟨?_, ?_, ?_, ?_, ?_, ?_⟩ <;> first | omega | assumption | trivial | rfl) | (refine ⟨?_, ?_, ?_, ?_, ?_, ?_, ?_⟩ <;> first | omega | assumption | trivial | rfl) | (refine ⟨?_, ?_, ?_, ?_, ?_, ?_, ?_, ?_⟩ <;> first | omega | assumption | trivial | rfl)) (show (c_t_size.toInt - x2_105_2.toInt + 1).toNat < (c_t_size.toInt - y2_17.toInt + 1).toNat from by omega)
        · first | unfold J_X3_arrange_75 | skip
          try rw [← e_w7]
          refine ok_c (ixo (by omega) (by omega)) ?_
          refine ok_c (ixo (by omega) (by omega)) ?_
          refine ok_bx (fun f_t_held_90 e_f_t_held_90 => ?_)
          refine ok_bx (fun x5_91 e_x5_91 => ?_)
          try have t_x5_91 : x5_91.toInt = y5_35.toInt + (-1) := by rw [e_x5_91]; exact addT1 (show (-1 : Int32).toInt = -1 from by decide) (by omega) (by omega)
          exact hih4 x5_91 f_t_held_90 (show 0 ≤ x5_91.toInt ∧ x5_91.toInt ≤ 11 from by first | omega | assumption | trivial | (refine ⟨?_, ?_⟩ <;> first | omega | assumption | trivial | rfl) | (refine ⟨?_, ?_, ?_⟩ <;> first | omega | assumption | trivial | rfl) | (refine ⟨?_, ?_, ?_, ?_⟩ <;> first | omega | assumption | trivial | rfl) | (refine ⟨?_, ?_, ?_, ?_, ?_⟩ <;> first | omega | assumption | trivial | rfl) | (refine ⟨?_, ?_, ?_, ?_, ?_, ?_⟩ <;> first | omega | assumption | trivial | rfl) | (refine ⟨?_, ?_, ?_, ?_, ?_, ?_, ?_⟩ <;> first | omega | assumption | trivial | rfl) | (refine ⟨?_, ?_, ?_, ?_, ?_, ?_, ?_, ?_⟩ <;> first | omega | assumption | trivial | rfl)) (show (x5_91.toInt + 1).toNat < (y5_35.toInt + 1).toNat from by omega)
      · obtain ⟨w9, e_w9⟩ : ∃ w : Int32, w = y5_35 - (1 : Int32) := ⟨_, rfl⟩
        try have t_w9 : w9.toInt = y5_35.toInt - 1 := by rw [e_w9]; exact subT1 (show (1 : Int32).toInt = 1 from by decide) (by omega) (by omega)
        try rw [← e_w9]
        refine ok_c (ixo (by omega) (by omega)) ?_
        refine ok_leL (fun c10 => ?_) (fun c10 => ?_)
        · first | unfold J_X3_arrange_97 | skip
          try rw [← e_w9]
          refine ok_c (ixo (by omega) (by omega)) ?_
          refine ok_bx (fun f_t_held_104_3 e_f_t_held_104_3 => ?_)
          refine ok_bx (fun x2_105_3 e_x2_105_3 => ?_)
          try have t_x2_105_3 : x2_105_3.toInt = y2_17.toInt + 1 := by rw [e_x2_105_3]; exact addT1 (show (1 : Int32).toInt = 1 from by decide) (by omega) (by omega)
          exact hih1 x2_105_3 f_t_held_104_3 (show 1 ≤ x2_105_3.toInt from by first | omega | assumption | trivial | (refine ⟨?_, ?_⟩ <;> first | omega | assumption | trivial | rfl) | (refine ⟨?_, ?_, ?_⟩ <;> first | omega | assumption | trivial | rfl) | (refine ⟨?_, ?_, ?_, ?_⟩ <;> first | omega | assumption | trivial | rfl) | (refine ⟨?_, ?_, ?_, ?_, ?_⟩ <;> first | omega | assumption | trivial | rfl) | (refine ⟨?_, ?_, ?_, ?_, ?_, ?_⟩ <;> first | omega | assumption | trivial | rfl) | (refine ⟨?_, ?_, ?_, ?_, ?_, ?_, ?_⟩ <;> first | omega | assumption | trivial | rfl) | (refine ⟨?_, ?_, ?_, ?_, ?_, ?_, ?_, ?_⟩ <;> first | omega | assumption | trivial | rfl)) (show (c_t_size.toInt - x2_105_3.toInt + 1).toNat < (c_t_size.toInt - y2_17.toInt + 1).toNat from by omega)
        · first | unfold J_X3_arrange_75 | skip
          try rw [← e_w9]
          refine ok_c (ixo (by omega) (by omega)) ?_
          refine ok_c (ixo (by omega) (by omega)) ?_
          refine ok_bx (fun f_t_held_90_2 e_f_t_held_90_2 => ?_)
          refine ok_bx (fun x5_91_2 e_x5_91_2 => ?_)
          try have t_x5_91_2 : x5_91_2.toInt = y5_35.toInt + (-1) := by rw [e_x5_91_2]; exact addT1 (show (-1 : Int32).toInt = -1 from by decide) (by omega) (by omega)
          exact hih4 x5_91_2 f_t_held_90_2 (show 0 ≤ x5_91_2.toInt ∧ x5_91_2.toInt ≤ 11 from by first | omega | assumption | trivial | (refine ⟨?_, ?_⟩ <;> first | omega | assumption | trivial | rfl) | (refine ⟨?_, ?_, ?_⟩ <;> first | omega | assumption | trivial | rfl) | (refine ⟨?_, ?_, ?_, ?_⟩ <;> first | omega | assumption | trivial | rfl) | (refine ⟨?_, ?_, ?_, ?_, ?_⟩ <;> first | omega | assumption | trivial | rfl) | (refine ⟨?_, ?_, ?_, ?_, ?_, ?_⟩ <;> first | omega | assumption | trivial | rfl) | (refine ⟨?_, ?_, ?_, ?_, ?_, ?_, ?_⟩ <;> first | omega | assumption | trivial | rfl) | (refine ⟨?_, ?_, ?_, ?_, ?_, ?_, ?_, ?_⟩ <;> first | omega | assumption | trivial | rfl)) (show (x5_91_2.toInt + 1).toNat < (y5_35.toInt + 1).toNat from by omega)
set_option maxHeartbeats 1000000 in
theorem sp_X1_findByTrying (f_q1_held : Nat → Int64) (p0 : Int64)  : ok (F_X1_findByTrying f_q1_held p0) (fun r => 0 ≤ r.1.toInt ∧ r.1.toInt ≤ 12) := by
  have l032 : (0 : Int32).toInt = 0 := by decide
  have l132 : (1 : Int32).toInt = 1 := by decide
  have l164 : (1 : Int64).toInt = 1 := by decide
  have l232 : (2 : Int32).toInt = 2 := by decide
  have l264 : (2 : Int64).toInt = 2 := by decide
  have l1000032 : (10000 : Int32).toInt = 10000 := by decide
  unfold F_X1_findByTrying
  refine ok_o (sp_X3_removeAll  ) (fun c_q1_size_1 h1 => ?_)
  have h1 : c_q1_size_1.toInt = 0 := h1
  refine ok_L5 (fun y4_15 y6_15 y8_15 c_q1_size_15 f_q1_held_15 => 0 ≤ y8_15.toInt ∧ 0 ≤ c_q1_size_15.toInt ∧ c_q1_size_15.toInt ≤ 12) (fun y4_15 y6_15 y8_15 c_q1_size_15 f_q1_held_15 => (10000 - y8_15.toInt + 1).toNat) (fun ih15 y4_15 y6_15 y8_15 c_q1_size_15 f_q1_held_15 hI2 hih2 => ?_) 20000 p0 (2 : Int64) (0 : Int32) c_q1_size_1 f_q1_held (show 0 ≤ (0 : Int32).toInt ∧ 0 ≤ c_q1_size_1.toInt ∧ c_q1_size_1.toInt ≤ 12 from by first | omega | assumption | trivial | (refine ⟨?_, ?_⟩ <;> first | omega | assumption | trivial | rfl) | (refine ⟨?_, ?_, ?_⟩ <;> first | omega | assumption | trivial | rfl) | (refine ⟨?_, ?_, ?_, ?_⟩ <;> first | omega | assumption | trivial | rfl) | (refine ⟨?_, ?_, ?_, ?_, ?_⟩ <;> first | omega | assumption | trivial | rfl) | (refine ⟨?_, ?_, ?_, ?_, ?_, ?_⟩ <;> first | omega | assumption | trivial | rfl) | (refine ⟨?_, ?_, ?_, ?_, ?_, ?_, ?_⟩ <;> first | omega | assumption | trivial | rfl) | (refine ⟨?_, ?_, ?_, ?_, ?_, ?_, ?_, ?_⟩ <;> first | omega | assumption | trivial | rfl)) (show (10000 - (0 : Int32).toInt + 1).toNat < 20000 from by omega)
  have hI2 : 0 ≤ y8_15.toInt ∧ 0 ≤ c_q1_size_15.toInt ∧ c_q1_size_15.toInt ≤ 12 := hI2
  unfold S_X1_findByTrying_15
  refine ok_le (fun c3 => ?_) (fun c3 => ?_)
  · exact ok_s (show 0 ≤ c_q1_size_15.toInt ∧ c_q1_size_15.toInt ≤ 12 from by first | omega | assumption | trivial | (refine ⟨?_, ?_⟩ <;> first | omega | assumption | trivial | rfl) | (refine ⟨?_, ?_, ?_⟩ <;> first | omega | assumption | trivial | rfl) | (refine ⟨?_, ?_, ?_, ?_⟩ <;> first | omega | assumption | trivial | rfl) | (refine ⟨?_, ?_, ?_, ?_, ?_⟩ <;> first | omega | assumption | trivial | rfl) | (refine ⟨?_, ?_, ?_, ?_, ?_, ?_⟩ <;> first | omega | assumption | trivial | rfl) | (refine ⟨?_, ?_, ?_, ?_, ?_, ?_, ?_⟩ <;> first | omega | assumption | trivial | rfl) | (refine ⟨?_, ?_, ?_, ?_, ?_, ?_, ?_, ?_⟩ <;> first | omega | assumption | trivial | rfl))
  · refine ok_o (sp_X0_degreeOf y4_15 ) (fun r25 h4 => ?_)
    have h4 : r25.toInt = DG y4_15 ∧ -1 ≤ r25.toInt ∧ r25.toInt ≤ 63 := h4
    refine ok_le (fun c5 => ?_) (fun c5 => ?_)
    · exact ok_s (show 0 ≤ c_q1_size_15.toInt ∧ c_q1_size_15.toInt ≤ 12 from by first | omega | assumption | trivial | (refine ⟨?_, ?_⟩ <;> first | omega | assumption | trivial | rfl) | (refine ⟨?_, ?_, ?_⟩ <;> first | omega | assumption | trivial | rfl) | (refine ⟨?_, ?_, ?_, ?_⟩ <;> first | omega | assumption | trivial | rfl) | (refine ⟨?_, ?_, ?_, ?_, ?_⟩ <;> first | omega | assumption | trivial | rfl) | (refine ⟨?_, ?_, ?_, ?_, ?_, ?_⟩ <;> first | omega | assumption | trivial | rfl) | (refine ⟨?_, ?_, ?_, ?_, ?_, ?_, ?_⟩ <;> first | omega | assumption | trivial | rfl) | (refine ⟨?_, ?_, ?_, ?_, ?_, ?_, ?_, ?_⟩ <;> first | omega | assumption | trivial | rfl))
    · refine ok_o (sp_X0_degreeOf y6_15 ) (fun r34 h6 => ?_)
      have h6 : r34.toInt = DG y6_15 ∧ -1 ≤ r34.toInt ∧ r34.toInt ≤ 63 := h6
      refine ok_o (sp_X0_degreeOf y4_15 ) (fun r40 h7 => ?_)
      have h7 : r40.toInt = DG y4_15 ∧ -1 ≤ r40.toInt ∧ r40.toInt ≤ 63 := h7
      refine ok_le (fun c8 => ?_) (fun c8 => ?_)
      · refine ok_o (sp_X0_goesInto y6_15 y4_15 ) (fun r54 h9 => ?_)
        have h9 : r54.toInt = 0 ∨ r54.toInt = 1 := h9
        refine ok_eq (fun c10 => ?_) (fun c10 => ?_)
        · refine ok_bx (fun x6_82 e_x6_82 => ?_)
          try have t_x6_82 : x6_82.toInt = y6_15.toInt + 1 := by rw [e_x6_82]; exact addL1 (show (1 : Int64).toInt = 1 from by decide) (by omega) (by omega)
          refine ok_bx (fun x8_84 e_x8_84 => ?_)
          try have t_x8_84 : x8_84.toInt = y8_15.toInt + 1 := by rw [e_x8_84]; exact addT1 (show (1 : Int32).toInt = 1 from by decide) (by omega) (by omega)
          exact hih2 y4_15 x6_82 x8_84 c_q1_size_15 f_q1_held_15 (show 0 ≤ x8_84.toInt ∧ 0 ≤ c_q1_size_15.toInt ∧ c_q1_size_15.toInt ≤ 12 from by first | omega | assumption | trivial | (refine ⟨?_, ?_⟩ <;> first | omega | assumption | trivial | rfl) | (refine ⟨?_, ?_, ?_⟩ <;> first | omega | assumption | trivial | rfl) | (refine ⟨?_, ?_, ?_, ?_⟩ <;> first | omega | assumption | trivial | rfl) | (refine ⟨?_, ?_, ?_, ?_, ?_⟩ <;> first | omega | assumption | trivial | rfl) | (refine ⟨?_, ?_, ?_, ?_, ?_, ?_⟩ <;> first | omega | assumption | trivial | rfl) | (refine ⟨?_, ?_, ?_, ?_, ?_, ?_, ?_⟩ <;> first | omega | assumption | trivial | rfl) | (refine ⟨?_, ?_, ?_, ?_, ?_, ?_, ?_, ?_⟩ <;> first | omega | assumption | trivial | rfl)) (show (10000 - x8_84.toInt + 1).toNat < (10000 - y8_15.toInt + 1).toNat from by omega)
        · refine ok_o2 (sp_X3_append c_q1_size_15 f_q1_held_15 y6_15 (by first | omega | assumption | trivial) (by first | omega | assumption | trivial)) (fun c_q1_size_63 f_q1_held_63 h11 => ?_)
          have h11 : 0 ≤ c_q1_size_63.toInt ∧ c_q1_size_63.toInt ≤ 12 := h11
          refine ok_o (sp_X0_quotient y4_15 y6_15 ) (fun r70 h12 => ?_)
          refine ok_bx (fun x8_84_2 e_x8_84_2 => ?_)
          try have t_x8_84_2 : x8_84_2.toInt = y8_15.toInt + 1 := by rw [e_x8_84_2]; exact addT1 (show (1 : Int32).toInt = 1 from by decide) (by omega) (by omega)
          exact hih2 r70 y6_15 x8_84_2 c_q1_size_63 f_q1_held_63 (show 0 ≤ x8_84_2.toInt ∧ 0 ≤ c_q1_size_63.toInt ∧ c_q1_size_63.toInt ≤ 12 from by first | omega | assumption | trivial | (refine ⟨?_, ?_⟩ <;> first | omega | assumption | trivial | rfl) | (refine ⟨?_, ?_, ?_⟩ <;> first | omega | assumption | trivial | rfl) | (refine ⟨?_, ?_, ?_, ?_⟩ <;> first | omega | assumption | trivial | rfl) | (refine ⟨?_, ?_, ?_, ?_, ?_⟩ <;> first | omega | assumption | trivial | rfl) | (refine ⟨?_, ?_, ?_, ?_, ?_, ?_⟩ <;> first | omega | assumption | trivial | rfl) | (refine ⟨?_, ?_, ?_, ?_, ?_, ?_, ?_⟩ <;> first | omega | assumption | trivial | rfl) | (refine ⟨?_, ?_, ?_, ?_, ?_, ?_, ?_, ?_⟩ <;> first | omega | assumption | trivial | rfl)) (show (10000 - x8_84_2.toInt + 1).toNat < (10000 - y8_15.toInt + 1).toNat from by omega)
      · refine ok_o (sp_X0_goesInto y4_15 y4_15 ) (fun r54_2 h13 => ?_)
        have h13 : r54_2.toInt = 0 ∨ r54_2.toInt = 1 := h13
        refine ok_eq (fun c14 => ?_) (fun c14 => ?_)
        · refine ok_bx (fun x6_82_2 e_x6_82_2 => ?_)
          try have t_x6_82_2 : x6_82_2.toInt = y4_15.toInt + 1 := by rw [e_x6_82_2]; exact addL1 (show (1 : Int64).toInt = 1 from by decide) (by omega) (by omega)
          refine ok_bx (fun x8_84_3 e_x8_84_3 => ?_)
          try have t_x8_84_3 : x8_84_3.toInt = y8_15.toInt + 1 := by rw [e_x8_84_3]; exact addT1 (show (1 : Int32).toInt = 1 from by decide) (by omega) (by omega)
          exact hih2 y4_15 x6_82_2 x8_84_3 c_q1_size_15 f_q1_held_15 (show 0 ≤ x8_84_3.toInt ∧ 0 ≤ c_q1_size_15.toInt ∧ c_q1_size_15.toInt ≤ 12 from by first | omega | assumption | trivial | (refine ⟨?_, ?_⟩ <;> first | omega | assumption | trivial | rfl) | (refine ⟨?_, ?_, ?_⟩ <;> first | omega | assumption | trivial | rfl) | (refine ⟨?_, ?_, ?_, ?_⟩ <;> first | omega | assumption | trivial | rfl) | (refine ⟨?_, ?_, ?_, ?_, ?_⟩ <;> first | omega | assumption | trivial | rfl) | (refine ⟨?_, ?_, ?_, ?_, ?_, ?_⟩ <;> first | omega | assumption | trivial | rfl) | (refine ⟨?_, ?_, ?_, ?_, ?_, ?_, ?_⟩ <;> first | omega | assumption | trivial | rfl) | (refine ⟨?_, ?_, ?_, ?_, ?_, ?_, ?_, ?_⟩ <;> first | omega | assumption | trivial | rfl)) (show (10000 - x8_84_3.toInt + 1).toNat < (10000 - y8_15.toInt + 1).toNat from by omega)
        · refine ok_o2 (sp_X3_append c_q1_size_15 f_q1_held_15 y4_15 (by first | omega | assumption | trivial) (by first | omega | assumption | trivial)) (fun c_q1_size_63_2 f_q1_held_63_2 h15 => ?_)
          have h15 : 0 ≤ c_q1_size_63_2.toInt ∧ c_q1_size_63_2.toInt ≤ 12 := h15
          refine ok_o (sp_X0_quotient y4_15 y4_15 ) (fun r70_2 h16 => ?_)
          refine ok_bx (fun x8_84_4 e_x8_84_4 => ?_)
          try have t_x8_84_4 : x8_84_4.toInt = y8_15.toInt + 1 := by rw [e_x8_84_4]; exact addT1 (show (1 : Int32).toInt = 1 from by decide) (by omega) (by omega)
          exact hih2 r70_2 y4_15 x8_84_4 c_q1_size_63_2 f_q1_held_63_2 (show 0 ≤ x8_84_4.toInt ∧ 0 ≤ c_q1_size_63_2.toInt ∧ c_q1_size_63_2.toInt ≤ 12 from by first | omega | assumption | trivial | (refine ⟨?_, ?_⟩ <;> first | omega | assumption | trivial | rfl) | (refine ⟨?_, ?_, ?_⟩ <;> first | omega | assumption | trivial | rfl) | (refine ⟨?_, ?_, ?_, ?_⟩ <;> first | omega | assumption | trivial | rfl) | (refine ⟨?_, ?_, ?_, ?_, ?_⟩ <;> first | omega | assumption | trivial | rfl) | (refine ⟨?_, ?_, ?_, ?_, ?_, ?_⟩ <;> first | omega | assumption | trivial | rfl) | (refine ⟨?_, ?_, ?_, ?_, ?_, ?_, ?_⟩ <;> first | omega | assumption | trivial | rfl) | (refine ⟨?_, ?_, ?_, ?_, ?_, ?_, ?_, ?_⟩ <;> first | omega | assumption | trivial | rfl)) (show (10000 - x8_84_4.toInt + 1).toNat < (10000 - y8_15.toInt + 1).toNat from by omega)
set_option maxHeartbeats 1000000 in
theorem sp_X7_factor (c_t_acts : Int32) (c_t_refusals : Int32) (f_t_forms : Nat → Int64) (c_t_roll_size : Int32) (f_t_roll_held : Nat → Int64) (f_t_roll_before : Nat → Int64) (c_t_factors_parts_size : Int32) (f_t_factors_parts_held : Nat → Int64) (p0 : Int32) (p1 : Int32) (hp0 : 0 ≤ c_t_roll_size.toInt) (hp1 : c_t_roll_size.toInt ≤ 12) (hp2 : 0 ≤ c_t_factors_parts_size.toInt) (hp3 : c_t_factors_parts_size.toInt ≤ 12) : ok (F_X7_factor c_t_acts c_t_refusals f_t_forms c_t_roll_size f_t_roll_held f_t_roll_before c_t_factors_parts_size f_t_factors_parts_held p0 p1) (fun r => (r.1 = 0 ∨ r.1 = 1 ∨ r.1 = 2) ∧ 0 ≤ r.2.2.2.2.1.toInt ∧ r.2.2.2.2.1.toInt ≤ 12 ∧ 0 ≤ r.2.2.2.2.2.2.2.1.toInt ∧ r.2.2.2.2.2.2.2.1.toInt ≤ 12) := by
  have l032 : (0 : Int32).toInt = 0 := by decide
  have l132 : (1 : Int32).toInt = 1 := by decide
  have l1032 : (10 : Int32).toInt = 10 := by decide
  unfold F_X7_factor
  refine ok_o (sp_X7_testForm p0 ) (fun xc1 h1 => ?_)
  have h1 : (xc1 = 0 ∧ 0 ≤ p0.toInt ∧ p0.toInt ≤ 5) ∨ xc1 = 1 := h1
  refine ok_i (fun c2 => ?_) (fun c2 => ?_)
  · refine ok_o (sp_X7_testRange p1 (0 : Int32) (1 : Int32) ) (fun xc7 h3 => ?_)
    have h3 : (xc7 = 0 ∧ (0 : Int32).toInt ≤ p1.toInt ∧ p1.toInt ≤ (1 : Int32).toInt) ∨ (xc7 = 2 ∧ (p1.toInt < (0 : Int32).toInt ∨ (1 : Int32).toInt < p1.toInt)) := h3
    refine ok_i (fun c4 => ?_) (fun c4 => ?_)
    · refine ok_c (ixo (by omega) (by omega)) ?_
      refine ok_o (sp_X0_degreeOf (f_t_forms p0.toNatClampNeg) ) (fun r16 h5 => ?_)
      have h5 : r16.toInt = DG (f_t_forms p0.toNatClampNeg) ∧ -1 ≤ r16.toInt ∧ r16.toInt ≤ 63 := h5
      refine ok_o (sp_X7_isBetween r16 (1 : Int32) (10 : Int32) ) (fun r22 h6 => ?_)
      have h6 : (r22.toInt = 0 ∧ (r16.toInt < (1 : Int32).toInt ∨ (10 : Int32).toInt < r16.toInt)) ∨ (r22.toInt = 1 ∧ (1 : Int32).toInt ≤ r16.toInt ∧ r16.toInt ≤ (10 : Int32).toInt) := h6
      refine ok_eq (fun c7 => ?_) (fun c7 => ?_)
      · refine ok_o2 (sp_X7_refuse c_t_refusals ) (fun r29 c_t_refusals_29 h8 => ?_)
        exact ok_s (show (0 = 0 ∨ 0 = 1 ∨ 0 = 2) ∧ 0 ≤ c_t_roll_size.toInt ∧ c_t_roll_size.toInt ≤ 12 ∧ 0 ≤ c_t_factors_parts_size.toInt ∧ c_t_factors_parts_size.toInt ≤ 12 from by first | omega | assumption | trivial | (refine ⟨?_, ?_⟩ <;> first | omega | assumption | trivial | rfl) | (refine ⟨?_, ?_, ?_⟩ <;> first | omega | assumption | trivial | rfl) | (refine ⟨?_, ?_, ?_, ?_⟩ <;> first | omega | assumption | trivial | rfl) | (refine ⟨?_, ?_, ?_, ?_, ?_⟩ <;> first | omega | assumption | trivial | rfl) | (refine ⟨?_, ?_, ?_, ?_, ?_, ?_⟩ <;> first | omega | assumption | trivial | rfl) | (refine ⟨?_, ?_, ?_, ?_, ?_, ?_, ?_⟩ <;> first | omega | assumption | trivial | rfl) | (refine ⟨?_, ?_, ?_, ?_, ?_, ?_, ?_, ?_⟩ <;> first | omega | assumption | trivial | rfl))
      · refine ok_eq (fun c9 => ?_) (fun c9 => ?_)
        · refine ok_c (ixo (by omega) (by omega)) ?_
          refine ok_o2 (sp_X1_findByTrying f_t_roll_held (f_t_forms p0.toNatClampNeg) ) (fun c_t_roll_size_51 f_t_roll_held_51 h10 => ?_)
          have h10 : 0 ≤ c_t_roll_size_51.toInt ∧ c_t_roll_size_51.toInt ≤ 12 := h10
          first | unfold J_X7_factor_83 | skip
          refine ok_o2 (sp_X7_done c_t_acts c_t_roll_size_51 ) (fun r91 c_t_acts_91 h11 => ?_)
          exact ok_s (show (0 = 0 ∨ 0 = 1 ∨ 0 = 2) ∧ 0 ≤ c_t_roll_size_51.toInt ∧ c_t_roll_size_51.toInt ≤ 12 ∧ 0 ≤ c_t_factors_parts_size.toInt ∧ c_t_factors_parts_size.toInt ≤ 12 from by first | omega | assumption | trivial | (refine ⟨?_, ?_⟩ <;> first | omega | assumption | trivial | rfl) | (refine ⟨?_, ?_, ?_⟩ <;> first | omega | assumption | trivial | rfl) | (refine ⟨?_, ?_, ?_, ?_⟩ <;> first | omega | assumption | trivial | rfl) | (refine ⟨?_, ?_, ?_, ?_, ?_⟩ <;> first | omega | assumption | trivial | rfl) | (refine ⟨?_, ?_, ?_, ?_, ?_, ?_⟩ <;> first | omega | assumption | trivial | rfl) | (refine ⟨?_, ?_, ?_, ?_, ?_, ?_, ?_⟩ <;> first | omega | assumption | trivial | rfl) | (refine ⟨?_, ?_, ?_, ?_, ?_, ?_, ?_, ?_⟩ <;> first | omega | assumption | trivial | rfl))
        · refine ok_c (ixo (by omega) (by omega)) ?_
          refine ok_o4 (sp_X1_findByDegrees c_t_factors_parts_size f_t_factors_parts_held f_t_roll_held (f_t_forms p0.toNatClampNeg) (by first | omega | assumption | trivial) (by first | omega | assumption | trivial)) (fun c_t_factors_parts_size_71 f_t_factors_parts_held_71 c_t_roll_size_71 f_t_roll_held_71 h12 => ?_)
          have h12 : 0 ≤ c_t_factors_parts_size_71.toInt ∧ c_t_factors_parts_size_71.toInt ≤ 12 ∧ 0 ≤ c_t_roll_size_71.toInt ∧ c_t_roll_size_71.toInt ≤ 12 := h12
          refine ok_o3 (sp_X3_arrange c_t_roll_size_71 f_t_roll_held_71 f_t_roll_before (1 : Int32) (by first | omega | assumption | trivial) (by first | omega | assumption | trivial)) (fun r79 f_t_roll_held_79 f_t_roll_before_79 h13 => ?_)
          first | unfold J_X7_factor_83 | skip
          refine ok_o2 (sp_X7_done c_t_acts c_t_roll_size_71 ) (fun r91_2 c_t_acts_91_2 h14 => ?_)
          exact ok_s (show (0 = 0 ∨ 0 = 1 ∨ 0 = 2) ∧ 0 ≤ c_t_roll_size_71.toInt ∧ c_t_roll_size_71.toInt ≤ 12 ∧ 0 ≤ c_t_factors_parts_size_71.toInt ∧ c_t_factors_parts_size_71.toInt ≤ 12 from by first | omega | assumption | trivial | (refine ⟨?_, ?_⟩ <;> first | omega | assumption | trivial | rfl) | (refine ⟨?_, ?_, ?_⟩ <;> first | omega | assumption | trivial | rfl) | (refine ⟨?_, ?_, ?_, ?_⟩ <;> first | omega | assumption | trivial | rfl) | (refine ⟨?_, ?_, ?_, ?_, ?_⟩ <;> first | omega | assumption | trivial | rfl) | (refine ⟨?_, ?_, ?_, ?_, ?_, ?_⟩ <;> first | omega | assumption | trivial | rfl) | (refine ⟨?_, ?_, ?_, ?_, ?_, ?_, ?_⟩ <;> first | omega | assumption | trivial | rfl) | (refine ⟨?_, ?_, ?_, ?_, ?_, ?_, ?_, ?_⟩ <;> first | omega | assumption | trivial | rfl))
    · exact ok_s (show (xc7 = 0 ∨ xc7 = 1 ∨ xc7 = 2) ∧ 0 ≤ c_t_roll_size.toInt ∧ c_t_roll_size.toInt ≤ 12 ∧ 0 ≤ c_t_factors_parts_size.toInt ∧ c_t_factors_parts_size.toInt ≤ 12 from by first | omega | assumption | trivial | (refine ⟨?_, ?_⟩ <;> first | omega | assumption | trivial | rfl) | (refine ⟨?_, ?_, ?_⟩ <;> first | omega | assumption | trivial | rfl) | (refine ⟨?_, ?_, ?_, ?_⟩ <;> first | omega | assumption | trivial | rfl) | (refine ⟨?_, ?_, ?_, ?_, ?_⟩ <;> first | omega | assumption | trivial | rfl) | (refine ⟨?_, ?_, ?_, ?_, ?_, ?_⟩ <;> first | omega | assumption | trivial | rfl) | (refine ⟨?_, ?_, ?_, ?_, ?_, ?_, ?_⟩ <;> first | omega | assumption | trivial | rfl) | (refine ⟨?_, ?_, ?_, ?_, ?_, ?_, ?_, ?_⟩ <;> first | omega | assumption | trivial | rfl))
  · exact ok_s (show (xc1 = 0 ∨ xc1 = 1 ∨ xc1 = 2) ∧ 0 ≤ c_t_roll_size.toInt ∧ c_t_roll_size.toInt ≤ 12 ∧ 0 ≤ c_t_factors_parts_size.toInt ∧ c_t_factors_parts_size.toInt ≤ 12 from by first | omega | assumption | trivial | (refine ⟨?_, ?_⟩ <;> first | omega | assumption | trivial | rfl) | (refine ⟨?_, ?_, ?_⟩ <;> first | omega | assumption | trivial | rfl) | (refine ⟨?_, ?_, ?_, ?_⟩ <;> first | omega | assumption | trivial | rfl) | (refine ⟨?_, ?_, ?_, ?_, ?_⟩ <;> first | omega | assumption | trivial | rfl) | (refine ⟨?_, ?_, ?_, ?_, ?_, ?_⟩ <;> first | omega | assumption | trivial | rfl) | (refine ⟨?_, ?_, ?_, ?_, ?_, ?_, ?_⟩ <;> first | omega | assumption | trivial | rfl) | (refine ⟨?_, ?_, ?_, ?_, ?_, ?_, ?_, ?_⟩ <;> first | omega | assumption | trivial | rfl))
set_option maxHeartbeats 1000000 in
theorem sp_X7_enroll (c_t_acts : Int32) (c_t_refusals : Int32) (f_t_forms : Nat → Int64) (c_t_roll_size : Int32) (f_t_roll_held : Nat → Int64) (p0 : Int32) (hp0 : 0 ≤ c_t_roll_size.toInt) (hp1 : c_t_roll_size.toInt ≤ 12) : ok (F_X7_enroll c_t_acts c_t_refusals f_t_forms c_t_roll_size f_t_roll_held p0) (fun r => (r.1 = 0 ∨ r.1 = 1) ∧ 0 ≤ r.2.2.2.2.1.toInt ∧ r.2.2.2.2.1.toInt ≤ 12) := by
  have l032 : (0 : Int32).toInt = 0 := by decide
  have l1232 : (12 : Int32).toInt = 12 := by decide
  unfold F_X7_enroll
  refine ok_o (sp_X7_testForm p0 ) (fun xc1 h1 => ?_)
  have h1 : (xc1 = 0 ∧ 0 ≤ p0.toInt ∧ p0.toInt ≤ 5) ∨ xc1 = 1 := h1
  refine ok_i (fun c2 => ?_) (fun c2 => ?_)
  · refine ok_lt (fun c3 => ?_) (fun c3 => ?_)
    · refine ok_c (ixo (by omega) (by omega)) ?_
      refine ok_o2 (sp_X3_append c_t_roll_size f_t_roll_held (f_t_forms p0.toNatClampNeg) (by first | omega | assumption | trivial) (by first | omega | assumption | trivial)) (fun c_t_roll_size_31 f_t_roll_held_31 h4 => ?_)
      have h4 : 0 ≤ c_t_roll_size_31.toInt ∧ c_t_roll_size_31.toInt ≤ 12 := h4
      refine ok_o2 (sp_X7_done c_t_acts c_t_roll_size_31 ) (fun r42 c_t_acts_42 h5 => ?_)
      exact ok_s (show (0 = 0 ∨ 0 = 1) ∧ 0 ≤ c_t_roll_size_31.toInt ∧ c_t_roll_size_31.toInt ≤ 12 from by first | omega | assumption | trivial | (refine ⟨?_, ?_⟩ <;> first | omega | assumption | trivial | rfl) | (refine ⟨?_, ?_, ?_⟩ <;> first | omega | assumption | trivial | rfl) | (refine ⟨?_, ?_, ?_, ?_⟩ <;> first | omega | assumption | trivial | rfl) | (refine ⟨?_, ?_, ?_, ?_, ?_⟩ <;> first | omega | assumption | trivial | rfl) | (refine ⟨?_, ?_, ?_, ?_, ?_, ?_⟩ <;> first | omega | assumption | trivial | rfl) | (refine ⟨?_, ?_, ?_, ?_, ?_, ?_, ?_⟩ <;> first | omega | assumption | trivial | rfl) | (refine ⟨?_, ?_, ?_, ?_, ?_, ?_, ?_, ?_⟩ <;> first | omega | assumption | trivial | rfl))
    · refine ok_o2 (sp_X7_refuse c_t_refusals ) (fun r17 c_t_refusals_17 h6 => ?_)
      exact ok_s (show (0 = 0 ∨ 0 = 1) ∧ 0 ≤ c_t_roll_size.toInt ∧ c_t_roll_size.toInt ≤ 12 from by first | omega | assumption | trivial | (refine ⟨?_, ?_⟩ <;> first | omega | assumption | trivial | rfl) | (refine ⟨?_, ?_, ?_⟩ <;> first | omega | assumption | trivial | rfl) | (refine ⟨?_, ?_, ?_, ?_⟩ <;> first | omega | assumption | trivial | rfl) | (refine ⟨?_, ?_, ?_, ?_, ?_⟩ <;> first | omega | assumption | trivial | rfl) | (refine ⟨?_, ?_, ?_, ?_, ?_, ?_⟩ <;> first | omega | assumption | trivial | rfl) | (refine ⟨?_, ?_, ?_, ?_, ?_, ?_, ?_⟩ <;> first | omega | assumption | trivial | rfl) | (refine ⟨?_, ?_, ?_, ?_, ?_, ?_, ?_, ?_⟩ <;> first | omega | assumption | trivial | rfl))
  · exact ok_s (show (xc1 = 0 ∨ xc1 = 1) ∧ 0 ≤ c_t_roll_size.toInt ∧ c_t_roll_size.toInt ≤ 12 from by first | omega | assumption | trivial | (refine ⟨?_, ?_⟩ <;> first | omega | assumption | trivial | rfl) | (refine ⟨?_, ?_, ?_⟩ <;> first | omega | assumption | trivial | rfl) | (refine ⟨?_, ?_, ?_, ?_⟩ <;> first | omega | assumption | trivial | rfl) | (refine ⟨?_, ?_, ?_, ?_, ?_⟩ <;> first | omega | assumption | trivial | rfl) | (refine ⟨?_, ?_, ?_, ?_, ?_, ?_⟩ <;> first | omega | assumption | trivial | rfl) | (refine ⟨?_, ?_, ?_, ?_, ?_, ?_, ?_⟩ <;> first | omega | assumption | trivial | rfl) | (refine ⟨?_, ?_, ?_, ?_, ?_, ?_, ?_, ?_⟩ <;> first | omega | assumption | trivial | rfl))
set_option maxHeartbeats 1000000 in
theorem sp_X7_testRolled (c_t_roll_size : Int32) (p0 : Int32) (hp0 : 0 ≤ c_t_roll_size.toInt) (hp1 : c_t_roll_size.toInt ≤ 12) : ok (F_X7_testRolled c_t_roll_size p0) (fun r => (r = 0 ∧ 0 ≤ p0.toInt ∧ p0.toInt ≤ c_t_roll_size.toInt - 1) ∨ r = 1) := by
  have l032 : (0 : Int32).toInt = 0 := by decide
  have l132 : (1 : Int32).toInt = 1 := by decide
  unfold F_X7_testRolled
  obtain ⟨w1, e_w1⟩ : ∃ w : Int32, w = c_t_roll_size - (1 : Int32) := ⟨_, rfl⟩
  try have t_w1 : w1.toInt = c_t_roll_size.toInt - 1 := by rw [e_w1]; exact subT1 (show (1 : Int32).toInt = 1 from by decide) (by omega) (by omega)
  try rw [← e_w1]
  refine ok_o (sp_X7_isBetween p0 (0 : Int32) w1 ) (fun r11 h2 => ?_)
  have h2 : (r11.toInt = 0 ∧ (p0.toInt < (0 : Int32).toInt ∨ w1.toInt < p0.toInt)) ∨ (r11.toInt = 1 ∧ (0 : Int32).toInt ≤ p0.toInt ∧ p0.toInt ≤ w1.toInt) := h2
  refine ok_eq (fun c3 => ?_) (fun c3 => ?_)
  · exact ok_s (show (1 = 0 ∧ 0 ≤ p0.toInt ∧ p0.toInt ≤ c_t_roll_size.toInt - 1) ∨ 1 = 1 from by first | omega | assumption | trivial | (refine ⟨?_, ?_⟩ <;> first | omega | assumption | trivial | rfl) | (refine ⟨?_, ?_, ?_⟩ <;> first | omega | assumption | trivial | rfl) | (refine ⟨?_, ?_, ?_, ?_⟩ <;> first | omega | assumption | trivial | rfl) | (refine ⟨?_, ?_, ?_, ?_, ?_⟩ <;> first | omega | assumption | trivial | rfl) | (refine ⟨?_, ?_, ?_, ?_, ?_, ?_⟩ <;> first | omega | assumption | trivial | rfl) | (refine ⟨?_, ?_, ?_, ?_, ?_, ?_, ?_⟩ <;> first | omega | assumption | trivial | rfl) | (refine ⟨?_, ?_, ?_, ?_, ?_, ?_, ?_, ?_⟩ <;> first | omega | assumption | trivial | rfl))
  · exact ok_s (show (0 = 0 ∧ 0 ≤ p0.toInt ∧ p0.toInt ≤ c_t_roll_size.toInt - 1) ∨ 0 = 1 from by first | omega | assumption | trivial | (refine ⟨?_, ?_⟩ <;> first | omega | assumption | trivial | rfl) | (refine ⟨?_, ?_, ?_⟩ <;> first | omega | assumption | trivial | rfl) | (refine ⟨?_, ?_, ?_, ?_⟩ <;> first | omega | assumption | trivial | rfl) | (refine ⟨?_, ?_, ?_, ?_, ?_⟩ <;> first | omega | assumption | trivial | rfl) | (refine ⟨?_, ?_, ?_, ?_, ?_, ?_⟩ <;> first | omega | assumption | trivial | rfl) | (refine ⟨?_, ?_, ?_, ?_, ?_, ?_, ?_⟩ <;> first | omega | assumption | trivial | rfl) | (refine ⟨?_, ?_, ?_, ?_, ?_, ?_, ?_, ?_⟩ <;> first | omega | assumption | trivial | rfl))
set_option maxHeartbeats 1000000 in
theorem sp_X3_removeAt (c_t_size : Int32) (f_t_held : Nat → Int64) (p0 : Int32) (hp0 : 0 ≤ c_t_size.toInt) (hp1 : c_t_size.toInt ≤ 12) : ok (F_X3_removeAt c_t_size f_t_held p0) (fun r => 0 ≤ r.1.toInt ∧ r.1.toInt ≤ 12) := by
  have l032 : (0 : Int32).toInt = 0 := by decide
  have l132 : (1 : Int32).toInt = 1 := by decide
  unfold F_X3_removeAt
  refine ok_lt (fun c1 => ?_) (fun c1 => ?_)
  · exact ok_s (show 0 ≤ c_t_size.toInt ∧ c_t_size.toInt ≤ 12 from by first | omega | assumption | trivial | (refine ⟨?_, ?_⟩ <;> first | omega | assumption | trivial | rfl) | (refine ⟨?_, ?_, ?_⟩ <;> first | omega | assumption | trivial | rfl) | (refine ⟨?_, ?_, ?_, ?_⟩ <;> first | omega | assumption | trivial | rfl) | (refine ⟨?_, ?_, ?_, ?_, ?_⟩ <;> first | omega | assumption | trivial | rfl) | (refine ⟨?_, ?_, ?_, ?_, ?_, ?_⟩ <;> first | omega | assumption | trivial | rfl) | (refine ⟨?_, ?_, ?_, ?_, ?_, ?_, ?_⟩ <;> first | omega | assumption | trivial | rfl) | (refine ⟨?_, ?_, ?_, ?_, ?_, ?_, ?_, ?_⟩ <;> first | omega | assumption | trivial | rfl))
  · refine ok_lt (fun c2 => ?_) (fun c2 => ?_)
    · refine ok_bx (fun x2_16 e_x2_16 => ?_)
      try have t_x2_16 : x2_16.toInt = p0.toInt + 1 := by rw [e_x2_16]; exact addT1 (show (1 : Int32).toInt = 1 from by decide) (by omega) (by omega)
      refine ok_L2 (fun y2_17 f_t_held_17 => 1 ≤ y2_17.toInt) (fun y2_17 f_t_held_17 => (c_t_size.toInt - y2_17.toInt + 1).toNat) (fun ih17 y2_17 f_t_held_17 hI3 hih3 => ?_) 20000 x2_16 f_t_held (show 1 ≤ x2_16.toInt from by first | omega | assumption | trivial | (refine ⟨?_, ?_⟩ <;> first | omega | assumption | trivial | rfl) | (refine ⟨?_, ?_, ?_⟩ <;> first | omega | assumption | trivial | rfl) | (refine ⟨?_, ?_, ?_, ?_⟩ <;> first | omega | assumption | trivial | rfl) | (refine ⟨?_, ?_, ?_, ?_, ?_⟩ <;> first | omega | assumption | trivial | rfl) | (refine ⟨?_, ?_, ?_, ?_, ?_, ?_⟩ <;> first | omega | assumption | trivial | rfl) | (refine ⟨?_, ?_, ?_, ?_, ?_, ?_, ?_⟩ <;> first | omega | assumption | trivial | rfl) | (refine ⟨?_, ?_, ?_, ?_, ?_, ?_, ?_, ?_⟩ <;> first | omega | assumption | trivial | rfl)) (show (c_t_size.toInt - x2_16.toInt + 1).toNat < 20000 from by omega)
      have hI3 : 1 ≤ y2_17.toInt := hI3
      unfold S_X3_removeAt_17
      refine ok_le (fun c4 => ?_) (fun c4 => ?_)
      · refine ok_bx (fun c_t_size_52 e_c_t_size_52 => ?_)
        try have t_c_t_size_52 : c_t_size_52.toInt = c_t_size.toInt - 1 := by rw [e_c_t_size_52]; exact subT1 (show (1 : Int32).toInt = 1 from by decide) (by omega) (by omega)
        exact ok_s (show 0 ≤ c_t_size_52.toInt ∧ c_t_size_52.toInt ≤ 12 from by first | omega | assumption | trivial | (refine ⟨?_, ?_⟩ <;> first | omega | assumption | trivial | rfl) | (refine ⟨?_, ?_, ?_⟩ <;> first | omega | assumption | trivial | rfl) | (refine ⟨?_, ?_, ?_, ?_⟩ <;> first | omega | assumption | trivial | rfl) | (refine ⟨?_, ?_, ?_, ?_, ?_⟩ <;> first | omega | assumption | trivial | rfl) | (refine ⟨?_, ?_, ?_, ?_, ?_, ?_⟩ <;> first | omega | assumption | trivial | rfl) | (refine ⟨?_, ?_, ?_, ?_, ?_, ?_, ?_⟩ <;> first | omega | assumption | trivial | rfl) | (refine ⟨?_, ?_, ?_, ?_, ?_, ?_, ?_, ?_⟩ <;> first | omega | assumption | trivial | rfl))
      · refine ok_c (ixo (by omega) (by omega)) ?_
        obtain ⟨w5, e_w5⟩ : ∃ w : Int32, w = y2_17 - (1 : Int32) := ⟨_, rfl⟩
        try have t_w5 : w5.toInt = y2_17.toInt - 1 := by rw [e_w5]; exact subT1 (show (1 : Int32).toInt = 1 from by decide) (by omega) (by omega)
        try rw [← e_w5]
        refine ok_c (ixo (by omega) (by omega)) ?_
        refine ok_bx (fun f_t_held_38 e_f_t_held_38 => ?_)
        refine ok_bx (fun x2_39 e_x2_39 => ?_)
        try have t_x2_39 : x2_39.toInt = y2_17.toInt + 1 := by rw [e_x2_39]; exact addT1 (show (1 : Int32).toInt = 1 from by decide) (by omega) (by omega)
        exact hih3 x2_39 f_t_held_38 (show 1 ≤ x2_39.toInt from by first | omega | assumption | trivial | (refine ⟨?_, ?_⟩ <;> first | omega | assumption | trivial | rfl) | (refine ⟨?_, ?_, ?_⟩ <;> first | omega | assumption | trivial | rfl) | (refine ⟨?_, ?_, ?_, ?_⟩ <;> first | omega | assumption | trivial | rfl) | (refine ⟨?_, ?_, ?_, ?_, ?_⟩ <;> first | omega | assumption | trivial | rfl) | (refine ⟨?_, ?_, ?_, ?_, ?_, ?_⟩ <;> first | omega | assumption | trivial | rfl) | (refine ⟨?_, ?_, ?_, ?_, ?_, ?_, ?_⟩ <;> first | omega | assumption | trivial | rfl) | (refine ⟨?_, ?_, ?_, ?_, ?_, ?_, ?_, ?_⟩ <;> first | omega | assumption | trivial | rfl)) (show (c_t_size.toInt - x2_39.toInt + 1).toNat < (c_t_size.toInt - y2_17.toInt + 1).toNat from by omega)
    · exact ok_s (show 0 ≤ c_t_size.toInt ∧ c_t_size.toInt ≤ 12 from by first | omega | assumption | trivial | (refine ⟨?_, ?_⟩ <;> first | omega | assumption | trivial | rfl) | (refine ⟨?_, ?_, ?_⟩ <;> first | omega | assumption | trivial | rfl) | (refine ⟨?_, ?_, ?_, ?_⟩ <;> first | omega | assumption | trivial | rfl) | (refine ⟨?_, ?_, ?_, ?_, ?_⟩ <;> first | omega | assumption | trivial | rfl) | (refine ⟨?_, ?_, ?_, ?_, ?_, ?_⟩ <;> first | omega | assumption | trivial | rfl) | (refine ⟨?_, ?_, ?_, ?_, ?_, ?_, ?_⟩ <;> first | omega | assumption | trivial | rfl) | (refine ⟨?_, ?_, ?_, ?_, ?_, ?_, ?_, ?_⟩ <;> first | omega | assumption | trivial | rfl))
set_option maxHeartbeats 1000000 in
theorem sp_X7_strike (c_t_acts : Int32) (c_t_roll_size : Int32) (f_t_roll_held : Nat → Int64) (p0 : Int32) (hp0 : 0 ≤ c_t_roll_size.toInt) (hp1 : c_t_roll_size.toInt ≤ 12) : ok (F_X7_strike c_t_acts c_t_roll_size f_t_roll_held p0) (fun r => (r.1 = 0 ∨ r.1 = 1) ∧ 0 ≤ r.2.2.2.1.toInt ∧ r.2.2.2.1.toInt ≤ 12) := by
  have l032 : (0 : Int32).toInt = 0 := by decide
  unfold F_X7_strike
  refine ok_o (sp_X7_testRolled c_t_roll_size p0 (by first | omega | assumption | trivial) (by first | omega | assumption | trivial)) (fun xc2 h1 => ?_)
  have h1 : (xc2 = 0 ∧ 0 ≤ p0.toInt ∧ p0.toInt ≤ c_t_roll_size.toInt - 1) ∨ xc2 = 1 := h1
  refine ok_i (fun c2 => ?_) (fun c2 => ?_)
  · refine ok_o (sp_X3_at c_t_roll_size f_t_roll_held p0 (by first | omega | assumption | trivial) (by first | omega | assumption | trivial)) (fun r10 h3 => ?_)
    refine ok_o2 (sp_X3_removeAt c_t_roll_size f_t_roll_held p0 (by first | omega | assumption | trivial) (by first | omega | assumption | trivial)) (fun c_t_roll_size_19 f_t_roll_held_19 h4 => ?_)
    have h4 : 0 ≤ c_t_roll_size_19.toInt ∧ c_t_roll_size_19.toInt ≤ 12 := h4
    refine ok_o (sp_X0_degreeOf r10 ) (fun r24 h5 => ?_)
    have h5 : r24.toInt = DG r10 ∧ -1 ≤ r24.toInt ∧ r24.toInt ≤ 63 := h5
    refine ok_o2 (sp_X7_done c_t_acts r24 ) (fun r27 c_t_acts_27 h6 => ?_)
    exact ok_s (show (0 = 0 ∨ 0 = 1) ∧ 0 ≤ c_t_roll_size_19.toInt ∧ c_t_roll_size_19.toInt ≤ 12 from by first | omega | assumption | trivial | (refine ⟨?_, ?_⟩ <;> first | omega | assumption | trivial | rfl) | (refine ⟨?_, ?_, ?_⟩ <;> first | omega | assumption | trivial | rfl) | (refine ⟨?_, ?_, ?_, ?_⟩ <;> first | omega | assumption | trivial | rfl) | (refine ⟨?_, ?_, ?_, ?_, ?_⟩ <;> first | omega | assumption | trivial | rfl) | (refine ⟨?_, ?_, ?_, ?_, ?_, ?_⟩ <;> first | omega | assumption | trivial | rfl) | (refine ⟨?_, ?_, ?_, ?_, ?_, ?_, ?_⟩ <;> first | omega | assumption | trivial | rfl) | (refine ⟨?_, ?_, ?_, ?_, ?_, ?_, ?_, ?_⟩ <;> first | omega | assumption | trivial | rfl))
  · exact ok_s (show (xc2 = 0 ∨ xc2 = 1) ∧ 0 ≤ c_t_roll_size.toInt ∧ c_t_roll_size.toInt ≤ 12 from by first | omega | assumption | trivial | (refine ⟨?_, ?_⟩ <;> first | omega | assumption | trivial | rfl) | (refine ⟨?_, ?_, ?_⟩ <;> first | omega | assumption | trivial | rfl) | (refine ⟨?_, ?_, ?_, ?_⟩ <;> first | omega | assumption | trivial | rfl) | (refine ⟨?_, ?_, ?_, ?_, ?_⟩ <;> first | omega | assumption | trivial | rfl) | (refine ⟨?_, ?_, ?_, ?_, ?_, ?_⟩ <;> first | omega | assumption | trivial | rfl) | (refine ⟨?_, ?_, ?_, ?_, ?_, ?_, ?_⟩ <;> first | omega | assumption | trivial | rfl) | (refine ⟨?_, ?_, ?_, ?_, ?_, ?_, ?_, ?_⟩ <;> first | omega | assumption | trivial | rfl))
set_option maxHeartbeats 1000000 in
theorem sp_X7_clear (c_t_acts : Int32) (c_t_roll_size : Int32)  : ok (F_X7_clear c_t_acts c_t_roll_size) (fun r => 0 ≤ r.2.2.toInt ∧ r.2.2.toInt ≤ 12) := by
  unfold F_X7_clear
  refine ok_o (sp_X3_removeAll  ) (fun c_t_roll_size_12 h1 => ?_)
  have h1 : c_t_roll_size_12.toInt = 0 := h1
  refine ok_o2 (sp_X7_done c_t_acts c_t_roll_size ) (fun r17 c_t_acts_17 h2 => ?_)
  exact ok_s (show 0 ≤ c_t_roll_size_12.toInt ∧ c_t_roll_size_12.toInt ≤ 12 from by first | omega | assumption | trivial | (refine ⟨?_, ?_⟩ <;> first | omega | assumption | trivial | rfl) | (refine ⟨?_, ?_, ?_⟩ <;> first | omega | assumption | trivial | rfl) | (refine ⟨?_, ?_, ?_, ?_⟩ <;> first | omega | assumption | trivial | rfl) | (refine ⟨?_, ?_, ?_, ?_, ?_⟩ <;> first | omega | assumption | trivial | rfl) | (refine ⟨?_, ?_, ?_, ?_, ?_, ?_⟩ <;> first | omega | assumption | trivial | rfl) | (refine ⟨?_, ?_, ?_, ?_, ?_, ?_, ?_⟩ <;> first | omega | assumption | trivial | rfl) | (refine ⟨?_, ?_, ?_, ?_, ?_, ?_, ?_, ?_⟩ <;> first | omega | assumption | trivial | rfl))
set_option maxHeartbeats 1000000 in
theorem sp_X7_sort (c_t_acts : Int32) (c_t_roll_size : Int32) (f_t_roll_held : Nat → Int64) (f_t_roll_before : Nat → Int64) (p0 : Int32) (hp0 : 0 ≤ c_t_roll_size.toInt) (hp1 : c_t_roll_size.toInt ≤ 12) : ok (F_X7_sort c_t_acts c_t_roll_size f_t_roll_held f_t_roll_before p0) (fun r => True) := by
  unfold F_X7_sort
  refine ok_o3 (sp_X3_arrange c_t_roll_size f_t_roll_held f_t_roll_before p0 (by first | omega | assumption | trivial) (by first | omega | assumption | trivial)) (fun r6 f_t_roll_held_6 f_t_roll_before_6 h1 => ?_)
  refine ok_o2 (sp_X7_done c_t_acts r6 ) (fun r9 c_t_acts_9 h2 => ?_)
  exact ok_s trivial
set_option maxHeartbeats 1000000 in
theorem sp_X3_turnEach (c_t_size : Int32) (f_t_held : Nat → Int64) (f_t_before : Nat → Int64) (hp0 : 0 ≤ c_t_size.toInt) (hp1 : c_t_size.toInt ≤ 12) : ok (F_X3_turnEach c_t_size f_t_held f_t_before) (fun r => True) := by
  have l032 : (0 : Int32).toInt = 0 := by decide
  have l132 : (1 : Int32).toInt = 1 := by decide
  have l1232 : (12 : Int32).toInt = 12 := by decide
  unfold F_X3_turnEach
  refine ok_bx (fun f_t_before_12 e_f_t_before_12 => ?_)
  refine ok_L2 (fun y1_17 f_t_held_17 => 0 ≤ y1_17.toInt) (fun y1_17 f_t_held_17 => (c_t_size.toInt - y1_17.toInt + 1).toNat) (fun ih17 y1_17 f_t_held_17 hI1 hih1 => ?_) 20000 (0 : Int32) f_t_held (show 0 ≤ (0 : Int32).toInt from by first | omega | assumption | trivial | (refine ⟨?_, ?_⟩ <;> first | omega | assumption | trivial | rfl) | (refine ⟨?_, ?_, ?_⟩ <;> first | omega | assumption | trivial | rfl) | (refine ⟨?_, ?_, ?_, ?_⟩ <;> first | omega | assumption | trivial | rfl) | (refine ⟨?_, ?_, ?_, ?_, ?_⟩ <;> first | omega | assumption | trivial | rfl) | (refine ⟨?_, ?_, ?_, ?_, ?_, ?_⟩ <;> first | omega | assumption | trivial | rfl) | (refine ⟨?_, ?_, ?_, ?_, ?_, ?_, ?_⟩ <;> first | omega | assumption | trivial | rfl) | (refine ⟨?_, ?_, ?_, ?_, ?_, ?_, ?_, ?_⟩ <;> first | omega | assumption | trivial | rfl)) (show (c_t_size.toInt - (0 : Int32).toInt + 1).toNat < 20000 from by omega)
  have hI1 : 0 ≤ y1_17.toInt := hI1
  unfold S_X3_turnEach_17
  refine ok_le (fun c2 => ?_) (fun c2 => ?_)
  · refine ok_o (sp_X3_howManyOthers c_t_size f_t_held_17 f_t_before_12 (by first | omega | assumption | trivial) (by first | omega | assumption | trivial)) (fun r47 h3 => ?_)
    exact ok_s trivial
  · refine ok_c (ixo (by omega) (by omega)) ?_
    refine ok_o (sp_X0_turned (f_t_held_17 y1_17.toNatClampNeg) ) (fun r36 h4 => ?_)
    refine ok_c (ixo (by omega) (by omega)) ?_
    refine ok_bx (fun f_t_held_39 e_f_t_held_39 => ?_)
    refine ok_bx (fun x1_40 e_x1_40 => ?_)
    try have t_x1_40 : x1_40.toInt = y1_17.toInt + 1 := by rw [e_x1_40]; exact addT1 (show (1 : Int32).toInt = 1 from by decide) (by omega) (by omega)
    exact hih1 x1_40 f_t_held_39 (show 0 ≤ x1_40.toInt from by first | omega | assumption | trivial | (refine ⟨?_, ?_⟩ <;> first | omega | assumption | trivial | rfl) | (refine ⟨?_, ?_, ?_⟩ <;> first | omega | assumption | trivial | rfl) | (refine ⟨?_, ?_, ?_, ?_⟩ <;> first | omega | assumption | trivial | rfl) | (refine ⟨?_, ?_, ?_, ?_, ?_⟩ <;> first | omega | assumption | trivial | rfl) | (refine ⟨?_, ?_, ?_, ?_, ?_, ?_⟩ <;> first | omega | assumption | trivial | rfl) | (refine ⟨?_, ?_, ?_, ?_, ?_, ?_, ?_⟩ <;> first | omega | assumption | trivial | rfl) | (refine ⟨?_, ?_, ?_, ?_, ?_, ?_, ?_, ?_⟩ <;> first | omega | assumption | trivial | rfl)) (show (c_t_size.toInt - x1_40.toInt + 1).toNat < (c_t_size.toInt - y1_17.toInt + 1).toNat from by omega)
set_option maxHeartbeats 1000000 in
theorem sp_X7_turnAll (c_t_acts : Int32) (c_t_roll_size : Int32) (f_t_roll_held : Nat → Int64) (f_t_roll_before : Nat → Int64) (hp0 : 0 ≤ c_t_roll_size.toInt) (hp1 : c_t_roll_size.toInt ≤ 12) : ok (F_X7_turnAll c_t_acts c_t_roll_size f_t_roll_held f_t_roll_before) (fun r => True) := by
  unfold F_X7_turnAll
  refine ok_o3 (sp_X3_turnEach c_t_roll_size f_t_roll_held f_t_roll_before (by first | omega | assumption | trivial) (by first | omega | assumption | trivial)) (fun r5 f_t_roll_held_5 f_t_roll_before_5 h1 => ?_)
  refine ok_o2 (sp_X7_done c_t_acts r5 ) (fun r8 c_t_acts_8 h2 => ?_)
  exact ok_s trivial
set_option maxHeartbeats 1000000 in
theorem sp_X7_take (c_t_acts : Int32) (f_t_forms : Nat → Int64) (c_t_roll_size : Int32) (f_t_roll_held : Nat → Int64) (p0 : Int32) (p1 : Int32) (hp0 : 0 ≤ c_t_roll_size.toInt) (hp1 : c_t_roll_size.toInt ≤ 12) : ok (F_X7_take c_t_acts f_t_forms c_t_roll_size f_t_roll_held p0 p1) (fun r => r.1 = 0 ∨ r.1 = 1) := by
  have l032 : (0 : Int32).toInt = 0 := by decide
  unfold F_X7_take
  refine ok_o (sp_X7_testRolled c_t_roll_size p0 (by first | omega | assumption | trivial) (by first | omega | assumption | trivial)) (fun xc2 h1 => ?_)
  have h1 : (xc2 = 0 ∧ 0 ≤ p0.toInt ∧ p0.toInt ≤ c_t_roll_size.toInt - 1) ∨ xc2 = 1 := h1
  refine ok_i (fun c2 => ?_) (fun c2 => ?_)
  · refine ok_o (sp_X7_testForm p1 ) (fun xc6 h3 => ?_)
    have h3 : (xc6 = 0 ∧ 0 ≤ p1.toInt ∧ p1.toInt ≤ 5) ∨ xc6 = 1 := h3
    refine ok_i (fun c4 => ?_) (fun c4 => ?_)
    · refine ok_o (sp_X3_at c_t_roll_size f_t_roll_held p0 (by first | omega | assumption | trivial) (by first | omega | assumption | trivial)) (fun r16 h5 => ?_)
      refine ok_o3 (sp_X7_become c_t_acts f_t_forms p1 r16 (by first | omega | assumption | trivial) (by first | omega | assumption | trivial)) (fun r19 c_t_acts_19 f_t_forms_19 h6 => ?_)
      exact ok_s (show 0 = 0 ∨ 0 = 1 from by first | omega | assumption | trivial | (refine ⟨?_, ?_⟩ <;> first | omega | assumption | trivial | rfl) | (refine ⟨?_, ?_, ?_⟩ <;> first | omega | assumption | trivial | rfl) | (refine ⟨?_, ?_, ?_, ?_⟩ <;> first | omega | assumption | trivial | rfl) | (refine ⟨?_, ?_, ?_, ?_, ?_⟩ <;> first | omega | assumption | trivial | rfl) | (refine ⟨?_, ?_, ?_, ?_, ?_, ?_⟩ <;> first | omega | assumption | trivial | rfl) | (refine ⟨?_, ?_, ?_, ?_, ?_, ?_, ?_⟩ <;> first | omega | assumption | trivial | rfl) | (refine ⟨?_, ?_, ?_, ?_, ?_, ?_, ?_, ?_⟩ <;> first | omega | assumption | trivial | rfl))
    · exact ok_s (show xc6 = 0 ∨ xc6 = 1 from by first | omega | assumption | trivial | (refine ⟨?_, ?_⟩ <;> first | omega | assumption | trivial | rfl) | (refine ⟨?_, ?_, ?_⟩ <;> first | omega | assumption | trivial | rfl) | (refine ⟨?_, ?_, ?_, ?_⟩ <;> first | omega | assumption | trivial | rfl) | (refine ⟨?_, ?_, ?_, ?_, ?_⟩ <;> first | omega | assumption | trivial | rfl) | (refine ⟨?_, ?_, ?_, ?_, ?_, ?_⟩ <;> first | omega | assumption | trivial | rfl) | (refine ⟨?_, ?_, ?_, ?_, ?_, ?_, ?_⟩ <;> first | omega | assumption | trivial | rfl) | (refine ⟨?_, ?_, ?_, ?_, ?_, ?_, ?_, ?_⟩ <;> first | omega | assumption | trivial | rfl))
  · exact ok_s (show xc2 = 0 ∨ xc2 = 1 from by first | omega | assumption | trivial | (refine ⟨?_, ?_⟩ <;> first | omega | assumption | trivial | rfl) | (refine ⟨?_, ?_, ?_⟩ <;> first | omega | assumption | trivial | rfl) | (refine ⟨?_, ?_, ?_, ?_⟩ <;> first | omega | assumption | trivial | rfl) | (refine ⟨?_, ?_, ?_, ?_, ?_⟩ <;> first | omega | assumption | trivial | rfl) | (refine ⟨?_, ?_, ?_, ?_, ?_, ?_⟩ <;> first | omega | assumption | trivial | rfl) | (refine ⟨?_, ?_, ?_, ?_, ?_, ?_, ?_⟩ <;> first | omega | assumption | trivial | rfl) | (refine ⟨?_, ?_, ?_, ?_, ?_, ?_, ?_, ?_⟩ <;> first | omega | assumption | trivial | rfl))
set_option maxHeartbeats 1000000 in
theorem sp_X3_hasEmpty (c_t_size : Int32) (f_t_held : Nat → Int64) (hp0 : 0 ≤ c_t_size.toInt) (hp1 : c_t_size.toInt ≤ 12) : ok (F_X3_hasEmpty c_t_size f_t_held) (fun r => r.toInt = 0 ∨ r.toInt = 1) := by
  have l032 : (0 : Int32).toInt = 0 := by decide
  have l064 : (0 : Int64).toInt = 0 := by decide
  have l132 : (1 : Int32).toInt = 1 := by decide
  unfold F_X3_hasEmpty
  refine ok_L1 (fun y1_2 => 0 ≤ y1_2.toInt) (fun y1_2 => (c_t_size.toInt - y1_2.toInt + 1).toNat) (fun ih2 y1_2 hI1 hih1 => ?_) 20000 (0 : Int32) (show 0 ≤ (0 : Int32).toInt from by first | omega | assumption | trivial | (refine ⟨?_, ?_⟩ <;> first | omega | assumption | trivial | rfl) | (refine ⟨?_, ?_, ?_⟩ <;> first | omega | assumption | trivial | rfl) | (refine ⟨?_, ?_, ?_, ?_⟩ <;> first | omega | assumption | trivial | rfl) | (refine ⟨?_, ?_, ?_, ?_, ?_⟩ <;> first | omega | assumption | trivial | rfl) | (refine ⟨?_, ?_, ?_, ?_, ?_, ?_⟩ <;> first | omega | assumption | trivial | rfl) | (refine ⟨?_, ?_, ?_, ?_, ?_, ?_, ?_⟩ <;> first | omega | assumption | trivial | rfl) | (refine ⟨?_, ?_, ?_, ?_, ?_, ?_, ?_, ?_⟩ <;> first | omega | assumption | trivial | rfl)) (show (c_t_size.toInt - (0 : Int32).toInt + 1).toNat < 20000 from by omega)
  have hI1 : 0 ≤ y1_2.toInt := hI1
  unfold S_X3_hasEmpty_2
  refine ok_le (fun c2 => ?_) (fun c2 => ?_)
  · exact ok_s (show (0 : Int32).toInt = 0 ∨ (0 : Int32).toInt = 1 from by first | omega | assumption | trivial | (refine ⟨?_, ?_⟩ <;> first | omega | assumption | trivial | rfl) | (refine ⟨?_, ?_, ?_⟩ <;> first | omega | assumption | trivial | rfl) | (refine ⟨?_, ?_, ?_, ?_⟩ <;> first | omega | assumption | trivial | rfl) | (refine ⟨?_, ?_, ?_, ?_, ?_⟩ <;> first | omega | assumption | trivial | rfl) | (refine ⟨?_, ?_, ?_, ?_, ?_, ?_⟩ <;> first | omega | assumption | trivial | rfl) | (refine ⟨?_, ?_, ?_, ?_, ?_, ?_, ?_⟩ <;> first | omega | assumption | trivial | rfl) | (refine ⟨?_, ?_, ?_, ?_, ?_, ?_, ?_, ?_⟩ <;> first | omega | assumption | trivial | rfl))
  · refine ok_c (ixo (by omega) (by omega)) ?_
    refine ok_eqL (fun c3 => ?_) (fun c3 => ?_)
    · exact ok_s (show (1 : Int32).toInt = 0 ∨ (1 : Int32).toInt = 1 from by first | omega | assumption | trivial | (refine ⟨?_, ?_⟩ <;> first | omega | assumption | trivial | rfl) | (refine ⟨?_, ?_, ?_⟩ <;> first | omega | assumption | trivial | rfl) | (refine ⟨?_, ?_, ?_, ?_⟩ <;> first | omega | assumption | trivial | rfl) | (refine ⟨?_, ?_, ?_, ?_, ?_⟩ <;> first | omega | assumption | trivial | rfl) | (refine ⟨?_, ?_, ?_, ?_, ?_, ?_⟩ <;> first | omega | assumption | trivial | rfl) | (refine ⟨?_, ?_, ?_, ?_, ?_, ?_, ?_⟩ <;> first | omega | assumption | trivial | rfl) | (refine ⟨?_, ?_, ?_, ?_, ?_, ?_, ?_, ?_⟩ <;> first | omega | assumption | trivial | rfl))
    · refine ok_bx (fun x1_23 e_x1_23 => ?_)
      try have t_x1_23 : x1_23.toInt = y1_2.toInt + 1 := by rw [e_x1_23]; exact addT1 (show (1 : Int32).toInt = 1 from by decide) (by omega) (by omega)
      exact hih1 x1_23 (show 0 ≤ x1_23.toInt from by first | omega | assumption | trivial | (refine ⟨?_, ?_⟩ <;> first | omega | assumption | trivial | rfl) | (refine ⟨?_, ?_, ?_⟩ <;> first | omega | assumption | trivial | rfl) | (refine ⟨?_, ?_, ?_, ?_⟩ <;> first | omega | assumption | trivial | rfl) | (refine ⟨?_, ?_, ?_, ?_, ?_⟩ <;> first | omega | assumption | trivial | rfl) | (refine ⟨?_, ?_, ?_, ?_, ?_, ?_⟩ <;> first | omega | assumption | trivial | rfl) | (refine ⟨?_, ?_, ?_, ?_, ?_, ?_, ?_⟩ <;> first | omega | assumption | trivial | rfl) | (refine ⟨?_, ?_, ?_, ?_, ?_, ?_, ?_, ?_⟩ <;> first | omega | assumption | trivial | rfl)) (show (c_t_size.toInt - x1_23.toInt + 1).toNat < (c_t_size.toInt - y1_2.toInt + 1).toNat from by omega)
set_option maxHeartbeats 1000000 in
theorem sp_X3_multipliedAll (c_t_size : Int32) (f_t_held : Nat → Int64) (hp0 : 0 ≤ c_t_size.toInt) (hp1 : c_t_size.toInt ≤ 12) : ok (F_X3_multipliedAll c_t_size f_t_held) (fun r => True) := by
  have l032 : (0 : Int32).toInt = 0 := by decide
  have l064 : (0 : Int64).toInt = 0 := by decide
  have l132 : (1 : Int32).toInt = 1 := by decide
  have l164 : (1 : Int64).toInt = 1 := by decide
  unfold F_X3_multipliedAll
  refine ok_o (sp_X3_hasEmpty c_t_size f_t_held (by first | omega | assumption | trivial) (by first | omega | assumption | trivial)) (fun r1 h1 => ?_)
  have h1 : r1.toInt = 0 ∨ r1.toInt = 1 := h1
  refine ok_eq (fun c2 => ?_) (fun c2 => ?_)
  · refine ok_L2 (fun y1_13 y3_13 => 0 ≤ y3_13.toInt) (fun y1_13 y3_13 => (c_t_size.toInt - y3_13.toInt + 1).toNat) (fun ih13 y1_13 y3_13 hI3 hih3 => ?_) 20000 (1 : Int64) (0 : Int32) (show 0 ≤ (0 : Int32).toInt from by first | omega | assumption | trivial | (refine ⟨?_, ?_⟩ <;> first | omega | assumption | trivial | rfl) | (refine ⟨?_, ?_, ?_⟩ <;> first | omega | assumption | trivial | rfl) | (refine ⟨?_, ?_, ?_, ?_⟩ <;> first | omega | assumption | trivial | rfl) | (refine ⟨?_, ?_, ?_, ?_, ?_⟩ <;> first | omega | assumption | trivial | rfl) | (refine ⟨?_, ?_, ?_, ?_, ?_, ?_⟩ <;> first | omega | assumption | trivial | rfl) | (refine ⟨?_, ?_, ?_, ?_, ?_, ?_, ?_⟩ <;> first | omega | assumption | trivial | rfl) | (refine ⟨?_, ?_, ?_, ?_, ?_, ?_, ?_, ?_⟩ <;> first | omega | assumption | trivial | rfl)) (show (c_t_size.toInt - (0 : Int32).toInt + 1).toNat < 20000 from by omega)
    have hI3 : 0 ≤ y3_13.toInt := hI3
    unfold S_X3_multipliedAll_13
    refine ok_le (fun c4 => ?_) (fun c4 => ?_)
    · exact ok_s trivial
    · refine ok_c (ixo (by omega) (by omega)) ?_
      refine ok_o (sp_X0_multiplied y1_13 (f_t_held y3_13.toNatClampNeg) ) (fun r28 h5 => ?_)
      refine ok_bx (fun x3_32 e_x3_32 => ?_)
      try have t_x3_32 : x3_32.toInt = y3_13.toInt + 1 := by rw [e_x3_32]; exact addT1 (show (1 : Int32).toInt = 1 from by decide) (by omega) (by omega)
      exact hih3 r28 x3_32 (show 0 ≤ x3_32.toInt from by first | omega | assumption | trivial | (refine ⟨?_, ?_⟩ <;> first | omega | assumption | trivial | rfl) | (refine ⟨?_, ?_, ?_⟩ <;> first | omega | assumption | trivial | rfl) | (refine ⟨?_, ?_, ?_, ?_⟩ <;> first | omega | assumption | trivial | rfl) | (refine ⟨?_, ?_, ?_, ?_, ?_⟩ <;> first | omega | assumption | trivial | rfl) | (refine ⟨?_, ?_, ?_, ?_, ?_, ?_⟩ <;> first | omega | assumption | trivial | rfl) | (refine ⟨?_, ?_, ?_, ?_, ?_, ?_, ?_⟩ <;> first | omega | assumption | trivial | rfl) | (refine ⟨?_, ?_, ?_, ?_, ?_, ?_, ?_, ?_⟩ <;> first | omega | assumption | trivial | rfl)) (show (c_t_size.toInt - x3_32.toInt + 1).toNat < (c_t_size.toInt - y3_13.toInt + 1).toNat from by omega)
  · exact ok_s trivial
set_option maxHeartbeats 1000000 in
theorem sp_X3_degreesTogether (c_t_size : Int32) (f_t_held : Nat → Int64) (hp0 : 0 ≤ c_t_size.toInt) (hp1 : c_t_size.toInt ≤ 12) : ok (F_X3_degreesTogether c_t_size f_t_held) (fun r => True) := by
  have l032 : (0 : Int32).toInt = 0 := by decide
  have l132 : (1 : Int32).toInt = 1 := by decide
  unfold F_X3_degreesTogether
  refine ok_L2 (fun y1_4 y2_4 => 0 ≤ y2_4.toInt) (fun y1_4 y2_4 => (c_t_size.toInt - y2_4.toInt + 1).toNat) (fun ih4 y1_4 y2_4 hI1 hih1 => ?_) 20000 (0 : Int32) (0 : Int32) (show 0 ≤ (0 : Int32).toInt from by first | omega | assumption | trivial | (refine ⟨?_, ?_⟩ <;> first | omega | assumption | trivial | rfl) | (refine ⟨?_, ?_, ?_⟩ <;> first | omega | assumption | trivial | rfl) | (refine ⟨?_, ?_, ?_, ?_⟩ <;> first | omega | assumption | trivial | rfl) | (refine ⟨?_, ?_, ?_, ?_, ?_⟩ <;> first | omega | assumption | trivial | rfl) | (refine ⟨?_, ?_, ?_, ?_, ?_, ?_⟩ <;> first | omega | assumption | trivial | rfl) | (refine ⟨?_, ?_, ?_, ?_, ?_, ?_, ?_⟩ <;> first | omega | assumption | trivial | rfl) | (refine ⟨?_, ?_, ?_, ?_, ?_, ?_, ?_, ?_⟩ <;> first | omega | assumption | trivial | rfl)) (show (c_t_size.toInt - (0 : Int32).toInt + 1).toNat < 20000 from by omega)
  have hI1 : 0 ≤ y2_4.toInt := hI1
  unfold S_X3_degreesTogether_4
  refine ok_le (fun c2 => ?_) (fun c2 => ?_)
  · exact ok_s trivial
  · refine ok_c (ixo (by omega) (by omega)) ?_
    refine ok_o (sp_X0_degreeOf (f_t_held y2_4.toNatClampNeg) ) (fun r19 h3 => ?_)
    have h3 : r19.toInt = DG (f_t_held y2_4.toNatClampNeg) ∧ -1 ≤ r19.toInt ∧ r19.toInt ≤ 63 := h3
    refine ok_bx (fun x1_23 e_x1_23 => ?_)
    try have t_x1_23 : x1_23.toInt = y1_4.toInt + r19.toInt := by rw [e_x1_23]; exact addT1 (Eq.refl _) (by omega) (by omega)
    refine ok_bx (fun x2_24 e_x2_24 => ?_)
    try have t_x2_24 : x2_24.toInt = y2_4.toInt + 1 := by rw [e_x2_24]; exact addT1 (show (1 : Int32).toInt = 1 from by decide) (by omega) (by omega)
    exact hih1 x1_23 x2_24 (show 0 ≤ x2_24.toInt from by first | omega | assumption | trivial | (refine ⟨?_, ?_⟩ <;> first | omega | assumption | trivial | rfl) | (refine ⟨?_, ?_, ?_⟩ <;> first | omega | assumption | trivial | rfl) | (refine ⟨?_, ?_, ?_, ?_⟩ <;> first | omega | assumption | trivial | rfl) | (refine ⟨?_, ?_, ?_, ?_, ?_⟩ <;> first | omega | assumption | trivial | rfl) | (refine ⟨?_, ?_, ?_, ?_, ?_, ?_⟩ <;> first | omega | assumption | trivial | rfl) | (refine ⟨?_, ?_, ?_, ?_, ?_, ?_, ?_⟩ <;> first | omega | assumption | trivial | rfl) | (refine ⟨?_, ?_, ?_, ?_, ?_, ?_, ?_, ?_⟩ <;> first | omega | assumption | trivial | rfl)) (show (c_t_size.toInt - x2_24.toInt + 1).toNat < (c_t_size.toInt - y2_4.toInt + 1).toNat from by omega)
set_option maxHeartbeats 1000000 in
theorem sp_X7_product (c_t_acts : Int32) (c_t_refusals : Int32) (f_t_forms : Nat → Int64) (c_t_roll_size : Int32) (f_t_roll_held : Nat → Int64) (p0 : Int32) (hp0 : 0 ≤ c_t_roll_size.toInt) (hp1 : c_t_roll_size.toInt ≤ 12) : ok (F_X7_product c_t_acts c_t_refusals f_t_forms c_t_roll_size f_t_roll_held p0) (fun r => r.1 = 0 ∨ r.1 = 1) := by
  have l032 : (0 : Int32).toInt = 0 := by decide
  have l3932 : (39 : Int32).toInt = 39 := by decide
  unfold F_X7_product
  refine ok_o (sp_X7_testForm p0 ) (fun xc1 h1 => ?_)
  have h1 : (xc1 = 0 ∧ 0 ≤ p0.toInt ∧ p0.toInt ≤ 5) ∨ xc1 = 1 := h1
  refine ok_i (fun c2 => ?_) (fun c2 => ?_)
  · refine ok_o (sp_X3_hasEmpty c_t_roll_size f_t_roll_held (by first | omega | assumption | trivial) (by first | omega | assumption | trivial)) (fun r8 h3 => ?_)
    have h3 : r8.toInt = 0 ∨ r8.toInt = 1 := h3
    refine ok_eq (fun c4 => ?_) (fun c4 => ?_)
    · refine ok_o (sp_X3_degreesTogether c_t_roll_size f_t_roll_held (by first | omega | assumption | trivial) (by first | omega | assumption | trivial)) (fun r18 h5 => ?_)
      refine ok_le (fun c6 => ?_) (fun c6 => ?_)
      · refine ok_o (sp_X3_multipliedAll c_t_roll_size f_t_roll_held (by first | omega | assumption | trivial) (by first | omega | assumption | trivial)) (fun r37 h7 => ?_)
        refine ok_o3 (sp_X7_become c_t_acts f_t_forms p0 r37 (by first | omega | assumption | trivial) (by first | omega | assumption | trivial)) (fun r40 c_t_acts_40 f_t_forms_40 h8 => ?_)
        exact ok_s (show 0 = 0 ∨ 0 = 1 from by first | omega | assumption | trivial | (refine ⟨?_, ?_⟩ <;> first | omega | assumption | trivial | rfl) | (refine ⟨?_, ?_, ?_⟩ <;> first | omega | assumption | trivial | rfl) | (refine ⟨?_, ?_, ?_, ?_⟩ <;> first | omega | assumption | trivial | rfl) | (refine ⟨?_, ?_, ?_, ?_, ?_⟩ <;> first | omega | assumption | trivial | rfl) | (refine ⟨?_, ?_, ?_, ?_, ?_, ?_⟩ <;> first | omega | assumption | trivial | rfl) | (refine ⟨?_, ?_, ?_, ?_, ?_, ?_, ?_⟩ <;> first | omega | assumption | trivial | rfl) | (refine ⟨?_, ?_, ?_, ?_, ?_, ?_, ?_, ?_⟩ <;> first | omega | assumption | trivial | rfl))
      · refine ok_o2 (sp_X7_refuse c_t_refusals ) (fun r27 c_t_refusals_27 h9 => ?_)
        exact ok_s (show 0 = 0 ∨ 0 = 1 from by first | omega | assumption | trivial | (refine ⟨?_, ?_⟩ <;> first | omega | assumption | trivial | rfl) | (refine ⟨?_, ?_, ?_⟩ <;> first | omega | assumption | trivial | rfl) | (refine ⟨?_, ?_, ?_, ?_⟩ <;> first | omega | assumption | trivial | rfl) | (refine ⟨?_, ?_, ?_, ?_, ?_⟩ <;> first | omega | assumption | trivial | rfl) | (refine ⟨?_, ?_, ?_, ?_, ?_, ?_⟩ <;> first | omega | assumption | trivial | rfl) | (refine ⟨?_, ?_, ?_, ?_, ?_, ?_, ?_⟩ <;> first | omega | assumption | trivial | rfl) | (refine ⟨?_, ?_, ?_, ?_, ?_, ?_, ?_, ?_⟩ <;> first | omega | assumption | trivial | rfl))
    · refine ok_o (sp_X3_multipliedAll c_t_roll_size f_t_roll_held (by first | omega | assumption | trivial) (by first | omega | assumption | trivial)) (fun r37_2 h10 => ?_)
      refine ok_o3 (sp_X7_become c_t_acts f_t_forms p0 r37_2 (by first | omega | assumption | trivial) (by first | omega | assumption | trivial)) (fun r40_2 c_t_acts_40_2 f_t_forms_40_2 h11 => ?_)
      exact ok_s (show 0 = 0 ∨ 0 = 1 from by first | omega | assumption | trivial | (refine ⟨?_, ?_⟩ <;> first | omega | assumption | trivial | rfl) | (refine ⟨?_, ?_, ?_⟩ <;> first | omega | assumption | trivial | rfl) | (refine ⟨?_, ?_, ?_, ?_⟩ <;> first | omega | assumption | trivial | rfl) | (refine ⟨?_, ?_, ?_, ?_, ?_⟩ <;> first | omega | assumption | trivial | rfl) | (refine ⟨?_, ?_, ?_, ?_, ?_, ?_⟩ <;> first | omega | assumption | trivial | rfl) | (refine ⟨?_, ?_, ?_, ?_, ?_, ?_, ?_⟩ <;> first | omega | assumption | trivial | rfl) | (refine ⟨?_, ?_, ?_, ?_, ?_, ?_, ?_, ?_⟩ <;> first | omega | assumption | trivial | rfl))
  · exact ok_s (show xc1 = 0 ∨ xc1 = 1 from by first | omega | assumption | trivial | (refine ⟨?_, ?_⟩ <;> first | omega | assumption | trivial | rfl) | (refine ⟨?_, ?_, ?_⟩ <;> first | omega | assumption | trivial | rfl) | (refine ⟨?_, ?_, ?_, ?_⟩ <;> first | omega | assumption | trivial | rfl) | (refine ⟨?_, ?_, ?_, ?_, ?_⟩ <;> first | omega | assumption | trivial | rfl) | (refine ⟨?_, ?_, ?_, ?_, ?_, ?_⟩ <;> first | omega | assumption | trivial | rfl) | (refine ⟨?_, ?_, ?_, ?_, ?_, ?_, ?_⟩ <;> first | omega | assumption | trivial | rfl) | (refine ⟨?_, ?_, ?_, ?_, ?_, ?_, ?_, ?_⟩ <;> first | omega | assumption | trivial | rfl))
set_option maxHeartbeats 1000000 in
theorem sp_X6_isWheel (p0 : Int64)  : ok (F_X6_isWheel p0) (fun r => r.toInt = 0 ∨ r.toInt = 1) := by
  have l032 : (0 : Int32).toInt = 0 := by decide
  have l132 : (1 : Int32).toInt = 1 := by decide
  have l832 : (8 : Int32).toInt = 8 := by decide
  unfold F_X6_isWheel
  refine ok_o (sp_X0_degreeOf p0 ) (fun r1 h1 => ?_)
  have h1 : r1.toInt = DG p0 ∧ -1 ≤ r1.toInt ∧ r1.toInt ≤ 63 := h1
  refine ok_o (sp_X7_isBetween r1 (1 : Int32) (8 : Int32) ) (fun r7 h2 => ?_)
  have h2 : (r7.toInt = 0 ∧ (r1.toInt < (1 : Int32).toInt ∨ (8 : Int32).toInt < r1.toInt)) ∨ (r7.toInt = 1 ∧ (1 : Int32).toInt ≤ r1.toInt ∧ r1.toInt ≤ (8 : Int32).toInt) := h2
  refine ok_eq (fun c3 => ?_) (fun c3 => ?_)
  · exact ok_s (show (0 : Int32).toInt = 0 ∨ (0 : Int32).toInt = 1 from by first | omega | assumption | trivial | (refine ⟨?_, ?_⟩ <;> first | omega | assumption | trivial | rfl) | (refine ⟨?_, ?_, ?_⟩ <;> first | omega | assumption | trivial | rfl) | (refine ⟨?_, ?_, ?_, ?_⟩ <;> first | omega | assumption | trivial | rfl) | (refine ⟨?_, ?_, ?_, ?_, ?_⟩ <;> first | omega | assumption | trivial | rfl) | (refine ⟨?_, ?_, ?_, ?_, ?_, ?_⟩ <;> first | omega | assumption | trivial | rfl) | (refine ⟨?_, ?_, ?_, ?_, ?_, ?_, ?_⟩ <;> first | omega | assumption | trivial | rfl) | (refine ⟨?_, ?_, ?_, ?_, ?_, ?_, ?_, ?_⟩ <;> first | omega | assumption | trivial | rfl))
  · refine ok_o (sp_X0_hasOne p0 (0 : Int32) ) (fun r15 h4 => ?_)
    have h4 : r15.toInt = 0 ∨ r15.toInt = 1 := h4
    refine ok_eq (fun c5 => ?_) (fun c5 => ?_)
    · exact ok_s (show (0 : Int32).toInt = 0 ∨ (0 : Int32).toInt = 1 from by first | omega | assumption | trivial | (refine ⟨?_, ?_⟩ <;> first | omega | assumption | trivial | rfl) | (refine ⟨?_, ?_, ?_⟩ <;> first | omega | assumption | trivial | rfl) | (refine ⟨?_, ?_, ?_, ?_⟩ <;> first | omega | assumption | trivial | rfl) | (refine ⟨?_, ?_, ?_, ?_, ?_⟩ <;> first | omega | assumption | trivial | rfl) | (refine ⟨?_, ?_, ?_, ?_, ?_, ?_⟩ <;> first | omega | assumption | trivial | rfl) | (refine ⟨?_, ?_, ?_, ?_, ?_, ?_, ?_⟩ <;> first | omega | assumption | trivial | rfl) | (refine ⟨?_, ?_, ?_, ?_, ?_, ?_, ?_, ?_⟩ <;> first | omega | assumption | trivial | rfl))
    · exact ok_s (show (1 : Int32).toInt = 0 ∨ (1 : Int32).toInt = 1 from by first | omega | assumption | trivial | (refine ⟨?_, ?_⟩ <;> first | omega | assumption | trivial | rfl) | (refine ⟨?_, ?_, ?_⟩ <;> first | omega | assumption | trivial | rfl) | (refine ⟨?_, ?_, ?_, ?_⟩ <;> first | omega | assumption | trivial | rfl) | (refine ⟨?_, ?_, ?_, ?_, ?_⟩ <;> first | omega | assumption | trivial | rfl) | (refine ⟨?_, ?_, ?_, ?_, ?_, ?_⟩ <;> first | omega | assumption | trivial | rfl) | (refine ⟨?_, ?_, ?_, ?_, ?_, ?_, ?_⟩ <;> first | omega | assumption | trivial | rfl) | (refine ⟨?_, ?_, ?_, ?_, ?_, ?_, ?_, ?_⟩ <;> first | omega | assumption | trivial | rfl))
set_option maxHeartbeats 1000000 in
theorem sp_X5_cellsBegun (p0 : Int64)  : ok (F_X5_cellsBegun p0) (fun r => True) := by
  have l132 : (1 : Int32).toInt = 1 := by decide
  have l164 : (1 : Int64).toInt = 1 := by decide
  unfold F_X5_cellsBegun
  refine ok_o (sp_X0_degreeOf p0 ) (fun r2 h1 => ?_)
  have h1 : r2.toInt = DG p0 ∧ -1 ≤ r2.toInt ∧ r2.toInt ≤ 63 := h1
  exact ok_s trivial
set_option maxHeartbeats 1000000 in
theorem sp_X5_beginAnew (p0 : Int64)  : ok (F_X5_beginAnew p0) (fun r => True) := by
  unfold F_X5_beginAnew
  refine ok_o (sp_X5_cellsBegun p0 ) (fun r7 h1 => ?_)
  exact ok_s trivial
set_option maxHeartbeats 1000000 in
theorem sp_X7_start (c_t_acts : Int32) (c_t_refusals : Int32) (f_t_forms : Nat → Int64) (c_t_row_taps : Int64) (c_t_row_cells : Int64) (p0 : Int32)  : ok (F_X7_start c_t_acts c_t_refusals f_t_forms c_t_row_taps c_t_row_cells p0) (fun r => r.1 = 0 ∨ r.1 = 1) := by
  have l032 : (0 : Int32).toInt = 0 := by decide
  unfold F_X7_start
  refine ok_o (sp_X7_testForm p0 ) (fun xc1 h1 => ?_)
  have h1 : (xc1 = 0 ∧ 0 ≤ p0.toInt ∧ p0.toInt ≤ 5) ∨ xc1 = 1 := h1
  refine ok_i (fun c2 => ?_) (fun c2 => ?_)
  · refine ok_c (ixo (by omega) (by omega)) ?_
    refine ok_o (sp_X6_isWheel (f_t_forms p0.toNatClampNeg) ) (fun r10 h3 => ?_)
    have h3 : r10.toInt = 0 ∨ r10.toInt = 1 := h3
    refine ok_eq (fun c4 => ?_) (fun c4 => ?_)
    · refine ok_o2 (sp_X7_refuse c_t_refusals ) (fun r17 c_t_refusals_17 h5 => ?_)
      exact ok_s (show 0 = 0 ∨ 0 = 1 from by first | omega | assumption | trivial | (refine ⟨?_, ?_⟩ <;> first | omega | assumption | trivial | rfl) | (refine ⟨?_, ?_, ?_⟩ <;> first | omega | assumption | trivial | rfl) | (refine ⟨?_, ?_, ?_, ?_⟩ <;> first | omega | assumption | trivial | rfl) | (refine ⟨?_, ?_, ?_, ?_, ?_⟩ <;> first | omega | assumption | trivial | rfl) | (refine ⟨?_, ?_, ?_, ?_, ?_, ?_⟩ <;> first | omega | assumption | trivial | rfl) | (refine ⟨?_, ?_, ?_, ?_, ?_, ?_, ?_⟩ <;> first | omega | assumption | trivial | rfl) | (refine ⟨?_, ?_, ?_, ?_, ?_, ?_, ?_, ?_⟩ <;> first | omega | assumption | trivial | rfl))
    · refine ok_c (ixo (by omega) (by omega)) ?_
      refine ok_o2 (sp_X5_beginAnew (f_t_forms p0.toNatClampNeg) ) (fun c_t_row_taps_31 c_t_row_cells_31 h6 => ?_)
      refine ok_o (sp_X0_degreeOf c_t_row_taps_31 ) (fun r42 h7 => ?_)
      have h7 : r42.toInt = DG c_t_row_taps_31 ∧ -1 ≤ r42.toInt ∧ r42.toInt ≤ 63 := h7
      refine ok_o2 (sp_X7_done c_t_acts r42 ) (fun r45 c_t_acts_45 h8 => ?_)
      exact ok_s (show 0 = 0 ∨ 0 = 1 from by first | omega | assumption | trivial | (refine ⟨?_, ?_⟩ <;> first | omega | assumption | trivial | rfl) | (refine ⟨?_, ?_, ?_⟩ <;> first | omega | assumption | trivial | rfl) | (refine ⟨?_, ?_, ?_, ?_⟩ <;> first | omega | assumption | trivial | rfl) | (refine ⟨?_, ?_, ?_, ?_, ?_⟩ <;> first | omega | assumption | trivial | rfl) | (refine ⟨?_, ?_, ?_, ?_, ?_, ?_⟩ <;> first | omega | assumption | trivial | rfl) | (refine ⟨?_, ?_, ?_, ?_, ?_, ?_, ?_⟩ <;> first | omega | assumption | trivial | rfl) | (refine ⟨?_, ?_, ?_, ?_, ?_, ?_, ?_, ?_⟩ <;> first | omega | assumption | trivial | rfl))
  · exact ok_s (show xc1 = 0 ∨ xc1 = 1 from by first | omega | assumption | trivial | (refine ⟨?_, ?_⟩ <;> first | omega | assumption | trivial | rfl) | (refine ⟨?_, ?_, ?_⟩ <;> first | omega | assumption | trivial | rfl) | (refine ⟨?_, ?_, ?_, ?_⟩ <;> first | omega | assumption | trivial | rfl) | (refine ⟨?_, ?_, ?_, ?_, ?_⟩ <;> first | omega | assumption | trivial | rfl) | (refine ⟨?_, ?_, ?_, ?_, ?_, ?_⟩ <;> first | omega | assumption | trivial | rfl) | (refine ⟨?_, ?_, ?_, ?_, ?_, ?_, ?_⟩ <;> first | omega | assumption | trivial | rfl) | (refine ⟨?_, ?_, ?_, ?_, ?_, ?_, ?_, ?_⟩ <;> first | omega | assumption | trivial | rfl))
set_option maxHeartbeats 1000000 in
theorem sp_X5_stepped (p0 : Int64) (p1 : Int64)  : ok (F_X5_stepped p0 p1) (fun r => True) := by
  have l132 : (1 : Int32).toInt = 1 := by decide
  unfold F_X5_stepped
  refine ok_o (sp_X0_onesOf (p0 &&& p1) ) (fun r3 h1 => ?_)
  refine ok_bx (fun x4_9 e_x4_9 => ?_)
  refine ok_o (sp_X0_degreeOf p1 ) (fun r17 h2 => ?_)
  have h2 : r17.toInt = DG p1 ∧ -1 ≤ r17.toInt ∧ r17.toInt ≤ 63 := h2
  exact ok_s trivial
set_option maxHeartbeats 1000000 in
theorem sp_X5_goOn (c_t_taps : Int64) (c_t_cells : Int64) (p0 : Int32) (hp0 : 0 ≤ p0.toInt) (hp1 : p0.toInt ≤ 255) : ok (F_X5_goOn c_t_taps c_t_cells p0) (fun r => True) := by
  have l032 : (0 : Int32).toInt = 0 := by decide
  have l132 : (1 : Int32).toInt = 1 := by decide
  have l164 : (1 : Int64).toInt = 1 := by decide
  unfold F_X5_goOn
  refine ok_L3 (fun y2_4 y3_4 c_t_cells_4 => 0 ≤ y3_4.toInt) (fun y2_4 y3_4 c_t_cells_4 => (p0.toInt - y3_4.toInt + 1).toNat) (fun ih4 y2_4 y3_4 c_t_cells_4 hI1 hih1 => ?_) 20000 (0 : Int32) (0 : Int32) c_t_cells (show 0 ≤ (0 : Int32).toInt from by first | omega | assumption | trivial | (refine ⟨?_, ?_⟩ <;> first | omega | assumption | trivial | rfl) | (refine ⟨?_, ?_, ?_⟩ <;> first | omega | assumption | trivial | rfl) | (refine ⟨?_, ?_, ?_, ?_⟩ <;> first | omega | assumption | trivial | rfl) | (refine ⟨?_, ?_, ?_, ?_, ?_⟩ <;> first | omega | assumption | trivial | rfl) | (refine ⟨?_, ?_, ?_, ?_, ?_, ?_⟩ <;> first | omega | assumption | trivial | rfl) | (refine ⟨?_, ?_, ?_, ?_, ?_, ?_, ?_⟩ <;> first | omega | assumption | trivial | rfl) | (refine ⟨?_, ?_, ?_, ?_, ?_, ?_, ?_, ?_⟩ <;> first | omega | assumption | trivial | rfl)) (show (p0.toInt - (0 : Int32).toInt + 1).toNat < 20000 from by omega)
  have hI1 : 0 ≤ y3_4.toInt := hI1
  unfold S_X5_goOn_4
  refine ok_le (fun c2 => ?_) (fun c2 => ?_)
  · exact ok_s trivial
  · refine ok_bx (fun x2_18 e_x2_18 => ?_)
    refine ok_o (sp_X5_stepped c_t_cells_4 c_t_taps ) (fun r28 h3 => ?_)
    refine ok_bx (fun x3_34 e_x3_34 => ?_)
    try have t_x3_34 : x3_34.toInt = y3_4.toInt + 1 := by rw [e_x3_34]; exact addT1 (show (1 : Int32).toInt = 1 from by decide) (by omega) (by omega)
    exact hih1 x2_18 x3_34 r28 (show 0 ≤ x3_34.toInt from by first | omega | assumption | trivial | (refine ⟨?_, ?_⟩ <;> first | omega | assumption | trivial | rfl) | (refine ⟨?_, ?_, ?_⟩ <;> first | omega | assumption | trivial | rfl) | (refine ⟨?_, ?_, ?_, ?_⟩ <;> first | omega | assumption | trivial | rfl) | (refine ⟨?_, ?_, ?_, ?_, ?_⟩ <;> first | omega | assumption | trivial | rfl) | (refine ⟨?_, ?_, ?_, ?_, ?_, ?_⟩ <;> first | omega | assumption | trivial | rfl) | (refine ⟨?_, ?_, ?_, ?_, ?_, ?_, ?_⟩ <;> first | omega | assumption | trivial | rfl) | (refine ⟨?_, ?_, ?_, ?_, ?_, ?_, ?_, ?_⟩ <;> first | omega | assumption | trivial | rfl)) (show (p0.toInt - x3_34.toInt + 1).toNat < (p0.toInt - y3_4.toInt + 1).toNat from by omega)
set_option maxHeartbeats 1000000 in
theorem sp_X7_step (c_t_acts : Int32) (c_t_row_taps : Int64) (c_t_row_cells : Int64) (p0 : Int32)  : ok (F_X7_step c_t_acts c_t_row_taps c_t_row_cells p0) (fun r => r.1 = 0 ∨ r.1 = 2) := by
  have l032 : (0 : Int32).toInt = 0 := by decide
  have l25532 : (255 : Int32).toInt = 255 := by decide
  unfold F_X7_step
  refine ok_o (sp_X7_testRange p0 (0 : Int32) (255 : Int32) ) (fun xc5 h1 => ?_)
  have h1 : (xc5 = 0 ∧ (0 : Int32).toInt ≤ p0.toInt ∧ p0.toInt ≤ (255 : Int32).toInt) ∨ (xc5 = 2 ∧ (p0.toInt < (0 : Int32).toInt ∨ (255 : Int32).toInt < p0.toInt)) := h1
  refine ok_i (fun c2 => ?_) (fun c2 => ?_)
  · refine ok_o2 (sp_X5_goOn c_t_row_taps c_t_row_cells p0 (by first | omega | assumption | trivial) (by first | omega | assumption | trivial)) (fun r14 c_t_row_cells_14 h3 => ?_)
    refine ok_o2 (sp_X7_done c_t_acts r14 ) (fun r17 c_t_acts_17 h4 => ?_)
    exact ok_s (show 0 = 0 ∨ 0 = 2 from by first | omega | assumption | trivial | (refine ⟨?_, ?_⟩ <;> first | omega | assumption | trivial | rfl) | (refine ⟨?_, ?_, ?_⟩ <;> first | omega | assumption | trivial | rfl) | (refine ⟨?_, ?_, ?_, ?_⟩ <;> first | omega | assumption | trivial | rfl) | (refine ⟨?_, ?_, ?_, ?_, ?_⟩ <;> first | omega | assumption | trivial | rfl) | (refine ⟨?_, ?_, ?_, ?_, ?_, ?_⟩ <;> first | omega | assumption | trivial | rfl) | (refine ⟨?_, ?_, ?_, ?_, ?_, ?_, ?_⟩ <;> first | omega | assumption | trivial | rfl) | (refine ⟨?_, ?_, ?_, ?_, ?_, ?_, ?_, ?_⟩ <;> first | omega | assumption | trivial | rfl))
  · exact ok_s (show xc5 = 0 ∨ xc5 = 2 from by first | omega | assumption | trivial | (refine ⟨?_, ?_⟩ <;> first | omega | assumption | trivial | rfl) | (refine ⟨?_, ?_, ?_⟩ <;> first | omega | assumption | trivial | rfl) | (refine ⟨?_, ?_, ?_, ?_⟩ <;> first | omega | assumption | trivial | rfl) | (refine ⟨?_, ?_, ?_, ?_, ?_⟩ <;> first | omega | assumption | trivial | rfl) | (refine ⟨?_, ?_, ?_, ?_, ?_, ?_⟩ <;> first | omega | assumption | trivial | rfl) | (refine ⟨?_, ?_, ?_, ?_, ?_, ?_, ?_⟩ <;> first | omega | assumption | trivial | rfl) | (refine ⟨?_, ?_, ?_, ?_, ?_, ?_, ?_, ?_⟩ <;> first | omega | assumption | trivial | rfl))
set_option maxHeartbeats 1000000 in
theorem sp_X7_load (c_t_acts : Int32) (c_t_refusals : Int32) (c_t_row_taps : Int64) (c_t_row_cells : Int64) (p0 : Int32)  : ok (F_X7_load c_t_acts c_t_refusals c_t_row_taps c_t_row_cells p0) (fun r => r.1 = 0 ∨ r.1 = 2) := by
  have l032 : (0 : Int32).toInt = 0 := by decide
  have l25532 : (255 : Int32).toInt = 255 := by decide
  unfold F_X7_load
  refine ok_o (sp_X7_testRange p0 (0 : Int32) (255 : Int32) ) (fun xc5 h1 => ?_)
  have h1 : (xc5 = 0 ∧ (0 : Int32).toInt ≤ p0.toInt ∧ p0.toInt ≤ (255 : Int32).toInt) ∨ (xc5 = 2 ∧ (p0.toInt < (0 : Int32).toInt ∨ (255 : Int32).toInt < p0.toInt)) := h1
  refine ok_i (fun c2 => ?_) (fun c2 => ?_)
  · refine ok_o (sp_X0_degreeOf p0.toInt64 ) (fun r10 h3 => ?_)
    have h3 : r10.toInt = DG p0.toInt64 ∧ -1 ≤ r10.toInt ∧ r10.toInt ≤ 63 := h3
    refine ok_o (sp_X0_degreeOf c_t_row_taps ) (fun r20 h4 => ?_)
    have h4 : r20.toInt = DG c_t_row_taps ∧ -1 ≤ r20.toInt ∧ r20.toInt ≤ 63 := h4
    refine ok_lt (fun c5 => ?_) (fun c5 => ?_)
    · refine ok_o (sp_X0_onesOf (c_t_row_cells ^^^ p0.toInt64) ) (fun r41 h6 => ?_)
      refine ok_bx (fun c_t_row_cells_51 e_c_t_row_cells_51 => ?_)
      have t_c_t_row_cells_51 : c_t_row_cells_51.toInt = p0.toInt64.toInt := by rw [e_c_t_row_cells_51]
      refine ok_o2 (sp_X7_done c_t_acts r41 ) (fun r56 c_t_acts_56 h7 => ?_)
      exact ok_s (show 0 = 0 ∨ 0 = 2 from by first | omega | assumption | trivial | (refine ⟨?_, ?_⟩ <;> first | omega | assumption | trivial | rfl) | (refine ⟨?_, ?_, ?_⟩ <;> first | omega | assumption | trivial | rfl) | (refine ⟨?_, ?_, ?_, ?_⟩ <;> first | omega | assumption | trivial | rfl) | (refine ⟨?_, ?_, ?_, ?_, ?_⟩ <;> first | omega | assumption | trivial | rfl) | (refine ⟨?_, ?_, ?_, ?_, ?_, ?_⟩ <;> first | omega | assumption | trivial | rfl) | (refine ⟨?_, ?_, ?_, ?_, ?_, ?_, ?_⟩ <;> first | omega | assumption | trivial | rfl) | (refine ⟨?_, ?_, ?_, ?_, ?_, ?_, ?_, ?_⟩ <;> first | omega | assumption | trivial | rfl))
    · refine ok_o2 (sp_X7_refuse c_t_refusals ) (fun r27 c_t_refusals_27 h8 => ?_)
      exact ok_s (show 0 = 0 ∨ 0 = 2 from by first | omega | assumption | trivial | (refine ⟨?_, ?_⟩ <;> first | omega | assumption | trivial | rfl) | (refine ⟨?_, ?_, ?_⟩ <;> first | omega | assumption | trivial | rfl) | (refine ⟨?_, ?_, ?_, ?_⟩ <;> first | omega | assumption | trivial | rfl) | (refine ⟨?_, ?_, ?_, ?_, ?_⟩ <;> first | omega | assumption | trivial | rfl) | (refine ⟨?_, ?_, ?_, ?_, ?_, ?_⟩ <;> first | omega | assumption | trivial | rfl) | (refine ⟨?_, ?_, ?_, ?_, ?_, ?_, ?_⟩ <;> first | omega | assumption | trivial | rfl) | (refine ⟨?_, ?_, ?_, ?_, ?_, ?_, ?_, ?_⟩ <;> first | omega | assumption | trivial | rfl))
  · exact ok_s (show xc5 = 0 ∨ xc5 = 2 from by first | omega | assumption | trivial | (refine ⟨?_, ?_⟩ <;> first | omega | assumption | trivial | rfl) | (refine ⟨?_, ?_, ?_⟩ <;> first | omega | assumption | trivial | rfl) | (refine ⟨?_, ?_, ?_, ?_⟩ <;> first | omega | assumption | trivial | rfl) | (refine ⟨?_, ?_, ?_, ?_, ?_⟩ <;> first | omega | assumption | trivial | rfl) | (refine ⟨?_, ?_, ?_, ?_, ?_, ?_⟩ <;> first | omega | assumption | trivial | rfl) | (refine ⟨?_, ?_, ?_, ?_, ?_, ?_, ?_⟩ <;> first | omega | assumption | trivial | rfl) | (refine ⟨?_, ?_, ?_, ?_, ?_, ?_, ?_, ?_⟩ <;> first | omega | assumption | trivial | rfl))
set_option maxHeartbeats 1000000 in
theorem sp_X7_degree (f_t_forms : Nat → Int64) (p0 : Int32)  : ok (F_X7_degree f_t_forms p0) (fun r => r.1 = 0 ∨ r.1 = 1) := by
  have l032 : (0 : Int32).toInt = 0 := by decide
  unfold F_X7_degree
  refine ok_o (sp_X7_testForm p0 ) (fun xc1 h1 => ?_)
  have h1 : (xc1 = 0 ∧ 0 ≤ p0.toInt ∧ p0.toInt ≤ 5) ∨ xc1 = 1 := h1
  refine ok_i (fun c2 => ?_) (fun c2 => ?_)
  · refine ok_c (ixo (by omega) (by omega)) ?_
    refine ok_o (sp_X0_degreeOf (f_t_forms p0.toNatClampNeg) ) (fun r10 h3 => ?_)
    have h3 : r10.toInt = DG (f_t_forms p0.toNatClampNeg) ∧ -1 ≤ r10.toInt ∧ r10.toInt ≤ 63 := h3
    exact ok_s (show 0 = 0 ∨ 0 = 1 from by first | omega | assumption | trivial | (refine ⟨?_, ?_⟩ <;> first | omega | assumption | trivial | rfl) | (refine ⟨?_, ?_, ?_⟩ <;> first | omega | assumption | trivial | rfl) | (refine ⟨?_, ?_, ?_, ?_⟩ <;> first | omega | assumption | trivial | rfl) | (refine ⟨?_, ?_, ?_, ?_, ?_⟩ <;> first | omega | assumption | trivial | rfl) | (refine ⟨?_, ?_, ?_, ?_, ?_, ?_⟩ <;> first | omega | assumption | trivial | rfl) | (refine ⟨?_, ?_, ?_, ?_, ?_, ?_, ?_⟩ <;> first | omega | assumption | trivial | rfl) | (refine ⟨?_, ?_, ?_, ?_, ?_, ?_, ?_, ?_⟩ <;> first | omega | assumption | trivial | rfl))
  · exact ok_s (show xc1 = 0 ∨ xc1 = 1 from by first | omega | assumption | trivial | (refine ⟨?_, ?_⟩ <;> first | omega | assumption | trivial | rfl) | (refine ⟨?_, ?_, ?_⟩ <;> first | omega | assumption | trivial | rfl) | (refine ⟨?_, ?_, ?_, ?_⟩ <;> first | omega | assumption | trivial | rfl) | (refine ⟨?_, ?_, ?_, ?_, ?_⟩ <;> first | omega | assumption | trivial | rfl) | (refine ⟨?_, ?_, ?_, ?_, ?_, ?_⟩ <;> first | omega | assumption | trivial | rfl) | (refine ⟨?_, ?_, ?_, ?_, ?_, ?_, ?_⟩ <;> first | omega | assumption | trivial | rfl) | (refine ⟨?_, ?_, ?_, ?_, ?_, ?_, ?_, ?_⟩ <;> first | omega | assumption | trivial | rfl))
set_option maxHeartbeats 1000000 in
theorem sp_X7_code (f_t_forms : Nat → Int64) (p0 : Int32)  : ok (F_X7_code f_t_forms p0) (fun r => r.1 = 0 ∨ r.1 = 1) := by
  have lm932 : (-9 : Int32).toInt = -9 := by decide
  have l032 : (0 : Int32).toInt = 0 := by decide
  have l3032 : (30 : Int32).toInt = 30 := by decide
  unfold F_X7_code
  refine ok_o (sp_X7_testForm p0 ) (fun xc1 h1 => ?_)
  have h1 : (xc1 = 0 ∧ 0 ≤ p0.toInt ∧ p0.toInt ≤ 5) ∨ xc1 = 1 := h1
  refine ok_i (fun c2 => ?_) (fun c2 => ?_)
  · refine ok_c (ixo (by omega) (by omega)) ?_
    refine ok_o (sp_X0_degreeOf (f_t_forms p0.toNatClampNeg) ) (fun r10 h3 => ?_)
    have h3 : r10.toInt = DG (f_t_forms p0.toNatClampNeg) ∧ -1 ≤ r10.toInt ∧ r10.toInt ≤ 63 := h3
    refine ok_le (fun c4 => ?_) (fun c4 => ?_)
    · refine ok_c (ixo (by omega) (by omega)) ?_
      exact ok_s (show 0 = 0 ∨ 0 = 1 from by first | omega | assumption | trivial | (refine ⟨?_, ?_⟩ <;> first | omega | assumption | trivial | rfl) | (refine ⟨?_, ?_, ?_⟩ <;> first | omega | assumption | trivial | rfl) | (refine ⟨?_, ?_, ?_, ?_⟩ <;> first | omega | assumption | trivial | rfl) | (refine ⟨?_, ?_, ?_, ?_, ?_⟩ <;> first | omega | assumption | trivial | rfl) | (refine ⟨?_, ?_, ?_, ?_, ?_, ?_⟩ <;> first | omega | assumption | trivial | rfl) | (refine ⟨?_, ?_, ?_, ?_, ?_, ?_, ?_⟩ <;> first | omega | assumption | trivial | rfl) | (refine ⟨?_, ?_, ?_, ?_, ?_, ?_, ?_, ?_⟩ <;> first | omega | assumption | trivial | rfl))
    · exact ok_s (show 0 = 0 ∨ 0 = 1 from by first | omega | assumption | trivial | (refine ⟨?_, ?_⟩ <;> first | omega | assumption | trivial | rfl) | (refine ⟨?_, ?_, ?_⟩ <;> first | omega | assumption | trivial | rfl) | (refine ⟨?_, ?_, ?_, ?_⟩ <;> first | omega | assumption | trivial | rfl) | (refine ⟨?_, ?_, ?_, ?_, ?_⟩ <;> first | omega | assumption | trivial | rfl) | (refine ⟨?_, ?_, ?_, ?_, ?_, ?_⟩ <;> first | omega | assumption | trivial | rfl) | (refine ⟨?_, ?_, ?_, ?_, ?_, ?_, ?_⟩ <;> first | omega | assumption | trivial | rfl) | (refine ⟨?_, ?_, ?_, ?_, ?_, ?_, ?_, ?_⟩ <;> first | omega | assumption | trivial | rfl))
  · exact ok_s (show xc1 = 0 ∨ xc1 = 1 from by first | omega | assumption | trivial | (refine ⟨?_, ?_⟩ <;> first | omega | assumption | trivial | rfl) | (refine ⟨?_, ?_, ?_⟩ <;> first | omega | assumption | trivial | rfl) | (refine ⟨?_, ?_, ?_, ?_⟩ <;> first | omega | assumption | trivial | rfl) | (refine ⟨?_, ?_, ?_, ?_, ?_⟩ <;> first | omega | assumption | trivial | rfl) | (refine ⟨?_, ?_, ?_, ?_, ?_, ?_⟩ <;> first | omega | assumption | trivial | rfl) | (refine ⟨?_, ?_, ?_, ?_, ?_, ?_, ?_⟩ <;> first | omega | assumption | trivial | rfl) | (refine ⟨?_, ?_, ?_, ?_, ?_, ?_, ?_, ?_⟩ <;> first | omega | assumption | trivial | rfl))
set_option maxHeartbeats 1000000 in
theorem sp_X7_has (f_t_forms : Nat → Int64) (p0 : Int32) (p1 : Int32)  : ok (F_X7_has f_t_forms p0 p1) (fun r => r.1 = 0 ∨ r.1 = 1) := by
  have l032 : (0 : Int32).toInt = 0 := by decide
  unfold F_X7_has
  refine ok_o (sp_X7_testForm p0 ) (fun xc1 h1 => ?_)
  have h1 : (xc1 = 0 ∧ 0 ≤ p0.toInt ∧ p0.toInt ≤ 5) ∨ xc1 = 1 := h1
  refine ok_i (fun c2 => ?_) (fun c2 => ?_)
  · refine ok_o (sp_X7_testPlace p1 ) (fun xc5 h3 => ?_)
    have h3 : (xc5 = 0 ∧ 0 ≤ p1.toInt ∧ p1.toInt ≤ 39) ∨ xc5 = 1 := h3
    refine ok_i (fun c4 => ?_) (fun c4 => ?_)
    · refine ok_c (ixo (by omega) (by omega)) ?_
      refine ok_o (sp_X0_hasOne (f_t_forms p0.toNatClampNeg) p1 ) (fun r15 h5 => ?_)
      have h5 : r15.toInt = 0 ∨ r15.toInt = 1 := h5
      refine ok_z (by first | omega | exact zr_of (by omega) | assumption) ?_
      exact ok_s (show 0 = 0 ∨ 0 = 1 from by first | omega | assumption | trivial | (refine ⟨?_, ?_⟩ <;> first | omega | assumption | trivial | rfl) | (refine ⟨?_, ?_, ?_⟩ <;> first | omega | assumption | trivial | rfl) | (refine ⟨?_, ?_, ?_, ?_⟩ <;> first | omega | assumption | trivial | rfl) | (refine ⟨?_, ?_, ?_, ?_, ?_⟩ <;> first | omega | assumption | trivial | rfl) | (refine ⟨?_, ?_, ?_, ?_, ?_, ?_⟩ <;> first | omega | assumption | trivial | rfl) | (refine ⟨?_, ?_, ?_, ?_, ?_, ?_, ?_⟩ <;> first | omega | assumption | trivial | rfl) | (refine ⟨?_, ?_, ?_, ?_, ?_, ?_, ?_, ?_⟩ <;> first | omega | assumption | trivial | rfl))
    · exact ok_s (show xc5 = 0 ∨ xc5 = 1 from by first | omega | assumption | trivial | (refine ⟨?_, ?_⟩ <;> first | omega | assumption | trivial | rfl) | (refine ⟨?_, ?_, ?_⟩ <;> first | omega | assumption | trivial | rfl) | (refine ⟨?_, ?_, ?_, ?_⟩ <;> first | omega | assumption | trivial | rfl) | (refine ⟨?_, ?_, ?_, ?_, ?_⟩ <;> first | omega | assumption | trivial | rfl) | (refine ⟨?_, ?_, ?_, ?_, ?_, ?_⟩ <;> first | omega | assumption | trivial | rfl) | (refine ⟨?_, ?_, ?_, ?_, ?_, ?_, ?_⟩ <;> first | omega | assumption | trivial | rfl) | (refine ⟨?_, ?_, ?_, ?_, ?_, ?_, ?_, ?_⟩ <;> first | omega | assumption | trivial | rfl))
  · exact ok_s (show xc1 = 0 ∨ xc1 = 1 from by first | omega | assumption | trivial | (refine ⟨?_, ?_⟩ <;> first | omega | assumption | trivial | rfl) | (refine ⟨?_, ?_, ?_⟩ <;> first | omega | assumption | trivial | rfl) | (refine ⟨?_, ?_, ?_, ?_⟩ <;> first | omega | assumption | trivial | rfl) | (refine ⟨?_, ?_, ?_, ?_, ?_⟩ <;> first | omega | assumption | trivial | rfl) | (refine ⟨?_, ?_, ?_, ?_, ?_, ?_⟩ <;> first | omega | assumption | trivial | rfl) | (refine ⟨?_, ?_, ?_, ?_, ?_, ?_, ?_⟩ <;> first | omega | assumption | trivial | rfl) | (refine ⟨?_, ?_, ?_, ?_, ?_, ?_, ?_, ?_⟩ <;> first | omega | assumption | trivial | rfl))
set_option maxHeartbeats 1000000 in
theorem sp_X7_ones (f_t_forms : Nat → Int64) (p0 : Int32)  : ok (F_X7_ones f_t_forms p0) (fun r => r.1 = 0 ∨ r.1 = 1) := by
  have l032 : (0 : Int32).toInt = 0 := by decide
  unfold F_X7_ones
  refine ok_o (sp_X7_testForm p0 ) (fun xc1 h1 => ?_)
  have h1 : (xc1 = 0 ∧ 0 ≤ p0.toInt ∧ p0.toInt ≤ 5) ∨ xc1 = 1 := h1
  refine ok_i (fun c2 => ?_) (fun c2 => ?_)
  · refine ok_c (ixo (by omega) (by omega)) ?_
    refine ok_o (sp_X0_onesOf (f_t_forms p0.toNatClampNeg) ) (fun r10 h3 => ?_)
    exact ok_s (show 0 = 0 ∨ 0 = 1 from by first | omega | assumption | trivial | (refine ⟨?_, ?_⟩ <;> first | omega | assumption | trivial | rfl) | (refine ⟨?_, ?_, ?_⟩ <;> first | omega | assumption | trivial | rfl) | (refine ⟨?_, ?_, ?_, ?_⟩ <;> first | omega | assumption | trivial | rfl) | (refine ⟨?_, ?_, ?_, ?_, ?_⟩ <;> first | omega | assumption | trivial | rfl) | (refine ⟨?_, ?_, ?_, ?_, ?_, ?_⟩ <;> first | omega | assumption | trivial | rfl) | (refine ⟨?_, ?_, ?_, ?_, ?_, ?_, ?_⟩ <;> first | omega | assumption | trivial | rfl) | (refine ⟨?_, ?_, ?_, ?_, ?_, ?_, ?_, ?_⟩ <;> first | omega | assumption | trivial | rfl))
  · exact ok_s (show xc1 = 0 ∨ xc1 = 1 from by first | omega | assumption | trivial | (refine ⟨?_, ?_⟩ <;> first | omega | assumption | trivial | rfl) | (refine ⟨?_, ?_, ?_⟩ <;> first | omega | assumption | trivial | rfl) | (refine ⟨?_, ?_, ?_, ?_⟩ <;> first | omega | assumption | trivial | rfl) | (refine ⟨?_, ?_, ?_, ?_, ?_⟩ <;> first | omega | assumption | trivial | rfl) | (refine ⟨?_, ?_, ?_, ?_, ?_, ?_⟩ <;> first | omega | assumption | trivial | rfl) | (refine ⟨?_, ?_, ?_, ?_, ?_, ?_, ?_⟩ <;> first | omega | assumption | trivial | rfl) | (refine ⟨?_, ?_, ?_, ?_, ?_, ?_, ?_, ?_⟩ <;> first | omega | assumption | trivial | rfl))
set_option maxHeartbeats 1000000 in
theorem sp_X0_lowestOf (p0 : Int64)  : ok (F_X0_lowestOf p0) (fun r => True) := by
  have lm132 : (-1 : Int32).toInt = -1 := by decide
  have l064 : (0 : Int64).toInt = 0 := by decide
  unfold F_X0_lowestOf
  refine ok_eqL (fun c1 => ?_) (fun c1 => ?_)
  · exact ok_s trivial
  · refine ok_o (sp_X0_degreeOf (p0 &&& (-p0)) ) (fun r14 h2 => ?_)
    have h2 : r14.toInt = DG (p0 &&& (-p0)) ∧ -1 ≤ r14.toInt ∧ r14.toInt ≤ 63 := h2
    exact ok_s trivial
set_option maxHeartbeats 1000000 in
theorem sp_X7_lowest (f_t_forms : Nat → Int64) (p0 : Int32)  : ok (F_X7_lowest f_t_forms p0) (fun r => r.1 = 0 ∨ r.1 = 1) := by
  have l032 : (0 : Int32).toInt = 0 := by decide
  unfold F_X7_lowest
  refine ok_o (sp_X7_testForm p0 ) (fun xc1 h1 => ?_)
  have h1 : (xc1 = 0 ∧ 0 ≤ p0.toInt ∧ p0.toInt ≤ 5) ∨ xc1 = 1 := h1
  refine ok_i (fun c2 => ?_) (fun c2 => ?_)
  · refine ok_c (ixo (by omega) (by omega)) ?_
    refine ok_o (sp_X0_lowestOf (f_t_forms p0.toNatClampNeg) ) (fun r10 h3 => ?_)
    exact ok_s (show 0 = 0 ∨ 0 = 1 from by first | omega | assumption | trivial | (refine ⟨?_, ?_⟩ <;> first | omega | assumption | trivial | rfl) | (refine ⟨?_, ?_, ?_⟩ <;> first | omega | assumption | trivial | rfl) | (refine ⟨?_, ?_, ?_, ?_⟩ <;> first | omega | assumption | trivial | rfl) | (refine ⟨?_, ?_, ?_, ?_, ?_⟩ <;> first | omega | assumption | trivial | rfl) | (refine ⟨?_, ?_, ?_, ?_, ?_, ?_⟩ <;> first | omega | assumption | trivial | rfl) | (refine ⟨?_, ?_, ?_, ?_, ?_, ?_, ?_⟩ <;> first | omega | assumption | trivial | rfl) | (refine ⟨?_, ?_, ?_, ?_, ?_, ?_, ?_, ?_⟩ <;> first | omega | assumption | trivial | rfl))
  · exact ok_s (show xc1 = 0 ∨ xc1 = 1 from by first | omega | assumption | trivial | (refine ⟨?_, ?_⟩ <;> first | omega | assumption | trivial | rfl) | (refine ⟨?_, ?_, ?_⟩ <;> first | omega | assumption | trivial | rfl) | (refine ⟨?_, ?_, ?_, ?_⟩ <;> first | omega | assumption | trivial | rfl) | (refine ⟨?_, ?_, ?_, ?_, ?_⟩ <;> first | omega | assumption | trivial | rfl) | (refine ⟨?_, ?_, ?_, ?_, ?_, ?_⟩ <;> first | omega | assumption | trivial | rfl) | (refine ⟨?_, ?_, ?_, ?_, ?_, ?_, ?_⟩ <;> first | omega | assumption | trivial | rfl) | (refine ⟨?_, ?_, ?_, ?_, ?_, ?_, ?_, ?_⟩ <;> first | omega | assumption | trivial | rfl))
set_option maxHeartbeats 1000000 in
theorem sp_X7_order (f_t_forms : Nat → Int64) (p0 : Int32) (p1 : Int32)  : ok (F_X7_order f_t_forms p0 p1) (fun r => r.1 = 0 ∨ r.1 = 1) := by
  have lm132 : (-1 : Int32).toInt = -1 := by decide
  have l032 : (0 : Int32).toInt = 0 := by decide
  have l132 : (1 : Int32).toInt = 1 := by decide
  unfold F_X7_order
  refine ok_o (sp_X7_testForm p0 ) (fun xc1 h1 => ?_)
  have h1 : (xc1 = 0 ∧ 0 ≤ p0.toInt ∧ p0.toInt ≤ 5) ∨ xc1 = 1 := h1
  refine ok_i (fun c2 => ?_) (fun c2 => ?_)
  · refine ok_o (sp_X7_testForm p1 ) (fun xc5 h3 => ?_)
    have h3 : (xc5 = 0 ∧ 0 ≤ p1.toInt ∧ p1.toInt ≤ 5) ∨ xc5 = 1 := h3
    refine ok_i (fun c4 => ?_) (fun c4 => ?_)
    · refine ok_c (ixo (by omega) (by omega)) ?_
      refine ok_c (ixo (by omega) (by omega)) ?_
      refine ok_eqL (fun c5 => ?_) (fun c5 => ?_)
      · exact ok_s (show 0 = 0 ∨ 0 = 1 from by first | omega | assumption | trivial | (refine ⟨?_, ?_⟩ <;> first | omega | assumption | trivial | rfl) | (refine ⟨?_, ?_, ?_⟩ <;> first | omega | assumption | trivial | rfl) | (refine ⟨?_, ?_, ?_, ?_⟩ <;> first | omega | assumption | trivial | rfl) | (refine ⟨?_, ?_, ?_, ?_, ?_⟩ <;> first | omega | assumption | trivial | rfl) | (refine ⟨?_, ?_, ?_, ?_, ?_, ?_⟩ <;> first | omega | assumption | trivial | rfl) | (refine ⟨?_, ?_, ?_, ?_, ?_, ?_, ?_⟩ <;> first | omega | assumption | trivial | rfl) | (refine ⟨?_, ?_, ?_, ?_, ?_, ?_, ?_, ?_⟩ <;> first | omega | assumption | trivial | rfl))
      · refine ok_c (ixo (by omega) (by omega)) ?_
        refine ok_c (ixo (by omega) (by omega)) ?_
        refine ok_leL (fun c6 => ?_) (fun c6 => ?_)
        · exact ok_s (show 0 = 0 ∨ 0 = 1 from by first | omega | assumption | trivial | (refine ⟨?_, ?_⟩ <;> first | omega | assumption | trivial | rfl) | (refine ⟨?_, ?_, ?_⟩ <;> first | omega | assumption | trivial | rfl) | (refine ⟨?_, ?_, ?_, ?_⟩ <;> first | omega | assumption | trivial | rfl) | (refine ⟨?_, ?_, ?_, ?_, ?_⟩ <;> first | omega | assumption | trivial | rfl) | (refine ⟨?_, ?_, ?_, ?_, ?_, ?_⟩ <;> first | omega | assumption | trivial | rfl) | (refine ⟨?_, ?_, ?_, ?_, ?_, ?_, ?_⟩ <;> first | omega | assumption | trivial | rfl) | (refine ⟨?_, ?_, ?_, ?_, ?_, ?_, ?_, ?_⟩ <;> first | omega | assumption | trivial | rfl))
        · exact ok_s (show 0 = 0 ∨ 0 = 1 from by first | omega | assumption | trivial | (refine ⟨?_, ?_⟩ <;> first | omega | assumption | trivial | rfl) | (refine ⟨?_, ?_, ?_⟩ <;> first | omega | assumption | trivial | rfl) | (refine ⟨?_, ?_, ?_, ?_⟩ <;> first | omega | assumption | trivial | rfl) | (refine ⟨?_, ?_, ?_, ?_, ?_⟩ <;> first | omega | assumption | trivial | rfl) | (refine ⟨?_, ?_, ?_, ?_, ?_, ?_⟩ <;> first | omega | assumption | trivial | rfl) | (refine ⟨?_, ?_, ?_, ?_, ?_, ?_, ?_⟩ <;> first | omega | assumption | trivial | rfl) | (refine ⟨?_, ?_, ?_, ?_, ?_, ?_, ?_, ?_⟩ <;> first | omega | assumption | trivial | rfl))
    · exact ok_s (show xc5 = 0 ∨ xc5 = 1 from by first | omega | assumption | trivial | (refine ⟨?_, ?_⟩ <;> first | omega | assumption | trivial | rfl) | (refine ⟨?_, ?_, ?_⟩ <;> first | omega | assumption | trivial | rfl) | (refine ⟨?_, ?_, ?_, ?_⟩ <;> first | omega | assumption | trivial | rfl) | (refine ⟨?_, ?_, ?_, ?_, ?_⟩ <;> first | omega | assumption | trivial | rfl) | (refine ⟨?_, ?_, ?_, ?_, ?_, ?_⟩ <;> first | omega | assumption | trivial | rfl) | (refine ⟨?_, ?_, ?_, ?_, ?_, ?_, ?_⟩ <;> first | omega | assumption | trivial | rfl) | (refine ⟨?_, ?_, ?_, ?_, ?_, ?_, ?_, ?_⟩ <;> first | omega | assumption | trivial | rfl))
  · exact ok_s (show xc1 = 0 ∨ xc1 = 1 from by first | omega | assumption | trivial | (refine ⟨?_, ?_⟩ <;> first | omega | assumption | trivial | rfl) | (refine ⟨?_, ?_, ?_⟩ <;> first | omega | assumption | trivial | rfl) | (refine ⟨?_, ?_, ?_, ?_⟩ <;> first | omega | assumption | trivial | rfl) | (refine ⟨?_, ?_, ?_, ?_, ?_⟩ <;> first | omega | assumption | trivial | rfl) | (refine ⟨?_, ?_, ?_, ?_, ?_, ?_⟩ <;> first | omega | assumption | trivial | rfl) | (refine ⟨?_, ?_, ?_, ?_, ?_, ?_, ?_⟩ <;> first | omega | assumption | trivial | rfl) | (refine ⟨?_, ?_, ?_, ?_, ?_, ?_, ?_, ?_⟩ <;> first | omega | assumption | trivial | rfl))
set_option maxHeartbeats 1000000 in
theorem sp_X7_divides (f_t_forms : Nat → Int64) (p0 : Int32) (p1 : Int32)  : ok (F_X7_divides f_t_forms p0 p1) (fun r => r.1 = 0 ∨ r.1 = 1) := by
  have l032 : (0 : Int32).toInt = 0 := by decide
  unfold F_X7_divides
  refine ok_o (sp_X7_testForm p0 ) (fun xc1 h1 => ?_)
  have h1 : (xc1 = 0 ∧ 0 ≤ p0.toInt ∧ p0.toInt ≤ 5) ∨ xc1 = 1 := h1
  refine ok_i (fun c2 => ?_) (fun c2 => ?_)
  · refine ok_o (sp_X7_testForm p1 ) (fun xc5 h3 => ?_)
    have h3 : (xc5 = 0 ∧ 0 ≤ p1.toInt ∧ p1.toInt ≤ 5) ∨ xc5 = 1 := h3
    refine ok_i (fun c4 => ?_) (fun c4 => ?_)
    · refine ok_c (ixo (by omega) (by omega)) ?_
      refine ok_c (ixo (by omega) (by omega)) ?_
      refine ok_o (sp_X0_goesInto (f_t_forms p0.toNatClampNeg) (f_t_forms p1.toNatClampNeg) ) (fun r20 h5 => ?_)
      have h5 : r20.toInt = 0 ∨ r20.toInt = 1 := h5
      refine ok_z (by first | omega | exact zr_of (by omega) | assumption) ?_
      exact ok_s (show 0 = 0 ∨ 0 = 1 from by first | omega | assumption | trivial | (refine ⟨?_, ?_⟩ <;> first | omega | assumption | trivial | rfl) | (refine ⟨?_, ?_, ?_⟩ <;> first | omega | assumption | trivial | rfl) | (refine ⟨?_, ?_, ?_, ?_⟩ <;> first | omega | assumption | trivial | rfl) | (refine ⟨?_, ?_, ?_, ?_, ?_⟩ <;> first | omega | assumption | trivial | rfl) | (refine ⟨?_, ?_, ?_, ?_, ?_, ?_⟩ <;> first | omega | assumption | trivial | rfl) | (refine ⟨?_, ?_, ?_, ?_, ?_, ?_, ?_⟩ <;> first | omega | assumption | trivial | rfl) | (refine ⟨?_, ?_, ?_, ?_, ?_, ?_, ?_, ?_⟩ <;> first | omega | assumption | trivial | rfl))
    · exact ok_s (show xc5 = 0 ∨ xc5 = 1 from by first | omega | assumption | trivial | (refine ⟨?_, ?_⟩ <;> first | omega | assumption | trivial | rfl) | (refine ⟨?_, ?_, ?_⟩ <;> first | omega | assumption | trivial | rfl) | (refine ⟨?_, ?_, ?_, ?_⟩ <;> first | omega | assumption | trivial | rfl) | (refine ⟨?_, ?_, ?_, ?_, ?_⟩ <;> first | omega | assumption | trivial | rfl) | (refine ⟨?_, ?_, ?_, ?_, ?_, ?_⟩ <;> first | omega | assumption | trivial | rfl) | (refine ⟨?_, ?_, ?_, ?_, ?_, ?_, ?_⟩ <;> first | omega | assumption | trivial | rfl) | (refine ⟨?_, ?_, ?_, ?_, ?_, ?_, ?_, ?_⟩ <;> first | omega | assumption | trivial | rfl))
  · exact ok_s (show xc1 = 0 ∨ xc1 = 1 from by first | omega | assumption | trivial | (refine ⟨?_, ?_⟩ <;> first | omega | assumption | trivial | rfl) | (refine ⟨?_, ?_, ?_⟩ <;> first | omega | assumption | trivial | rfl) | (refine ⟨?_, ?_, ?_, ?_⟩ <;> first | omega | assumption | trivial | rfl) | (refine ⟨?_, ?_, ?_, ?_, ?_⟩ <;> first | omega | assumption | trivial | rfl) | (refine ⟨?_, ?_, ?_, ?_, ?_, ?_⟩ <;> first | omega | assumption | trivial | rfl) | (refine ⟨?_, ?_, ?_, ?_, ?_, ?_, ?_⟩ <;> first | omega | assumption | trivial | rfl) | (refine ⟨?_, ?_, ?_, ?_, ?_, ?_, ?_, ?_⟩ <;> first | omega | assumption | trivial | rfl))
set_option maxHeartbeats 1000000 in
theorem sp_X7_check (f_t_forms : Nat → Int64) (p0 : Int32) (p1 : Int32)  : ok (F_X7_check f_t_forms p0 p1) (fun r => r.1 = 0 ∨ r.1 = 1) := by
  have lm932 : (-9 : Int32).toInt = -9 := by decide
  have l032 : (0 : Int32).toInt = 0 := by decide
  have l132 : (1 : Int32).toInt = 1 := by decide
  have l3132 : (31 : Int32).toInt = 31 := by decide
  unfold F_X7_check
  refine ok_o (sp_X7_testForm p0 ) (fun xc1 h1 => ?_)
  have h1 : (xc1 = 0 ∧ 0 ≤ p0.toInt ∧ p0.toInt ≤ 5) ∨ xc1 = 1 := h1
  refine ok_i (fun c2 => ?_) (fun c2 => ?_)
  · refine ok_o (sp_X7_testForm p1 ) (fun xc5 h3 => ?_)
    have h3 : (xc5 = 0 ∧ 0 ≤ p1.toInt ∧ p1.toInt ≤ 5) ∨ xc5 = 1 := h3
    refine ok_i (fun c4 => ?_) (fun c4 => ?_)
    · refine ok_c (ixo (by omega) (by omega)) ?_
      refine ok_o (sp_X0_degreeOf (f_t_forms p1.toNatClampNeg) ) (fun r14 h5 => ?_)
      have h5 : r14.toInt = DG (f_t_forms p1.toNatClampNeg) ∧ -1 ≤ r14.toInt ∧ r14.toInt ≤ 63 := h5
      refine ok_o (sp_X7_isBetween r14 (1 : Int32) (31 : Int32) ) (fun r20 h6 => ?_)
      have h6 : (r20.toInt = 0 ∧ (r14.toInt < (1 : Int32).toInt ∨ (31 : Int32).toInt < r14.toInt)) ∨ (r20.toInt = 1 ∧ (1 : Int32).toInt ≤ r14.toInt ∧ r14.toInt ≤ (31 : Int32).toInt) := h6
      refine ok_eq (fun c7 => ?_) (fun c7 => ?_)
      · exact ok_s (show 0 = 0 ∨ 0 = 1 from by first | omega | assumption | trivial | (refine ⟨?_, ?_⟩ <;> first | omega | assumption | trivial | rfl) | (refine ⟨?_, ?_, ?_⟩ <;> first | omega | assumption | trivial | rfl) | (refine ⟨?_, ?_, ?_, ?_⟩ <;> first | omega | assumption | trivial | rfl) | (refine ⟨?_, ?_, ?_, ?_, ?_⟩ <;> first | omega | assumption | trivial | rfl) | (refine ⟨?_, ?_, ?_, ?_, ?_, ?_⟩ <;> first | omega | assumption | trivial | rfl) | (refine ⟨?_, ?_, ?_, ?_, ?_, ?_, ?_⟩ <;> first | omega | assumption | trivial | rfl) | (refine ⟨?_, ?_, ?_, ?_, ?_, ?_, ?_, ?_⟩ <;> first | omega | assumption | trivial | rfl))
      · refine ok_o (sp_X7_canBeSealed f_t_forms p0 p1 (by first | omega | assumption | trivial) (by first | omega | assumption | trivial) (by first | omega | assumption | trivial) (by first | omega | assumption | trivial)) (fun r29 h8 => ?_)
        have h8 : r29.toInt = 0 ∨ r29.toInt = 1 := h8
        refine ok_eq (fun c9 => ?_) (fun c9 => ?_)
        · exact ok_s (show 0 = 0 ∨ 0 = 1 from by first | omega | assumption | trivial | (refine ⟨?_, ?_⟩ <;> first | omega | assumption | trivial | rfl) | (refine ⟨?_, ?_, ?_⟩ <;> first | omega | assumption | trivial | rfl) | (refine ⟨?_, ?_, ?_, ?_⟩ <;> first | omega | assumption | trivial | rfl) | (refine ⟨?_, ?_, ?_, ?_, ?_⟩ <;> first | omega | assumption | trivial | rfl) | (refine ⟨?_, ?_, ?_, ?_, ?_, ?_⟩ <;> first | omega | assumption | trivial | rfl) | (refine ⟨?_, ?_, ?_, ?_, ?_, ?_, ?_⟩ <;> first | omega | assumption | trivial | rfl) | (refine ⟨?_, ?_, ?_, ?_, ?_, ?_, ?_, ?_⟩ <;> first | omega | assumption | trivial | rfl))
        · refine ok_c (ixo (by omega) (by omega)) ?_
          refine ok_c (ixo (by omega) (by omega)) ?_
          refine ok_o (sp_X0_checkOf (f_t_forms p0.toNatClampNeg) (f_t_forms p1.toNatClampNeg) ) (fun r50 h10 => ?_)
          exact ok_s (show 0 = 0 ∨ 0 = 1 from by first | omega | assumption | trivial | (refine ⟨?_, ?_⟩ <;> first | omega | assumption | trivial | rfl) | (refine ⟨?_, ?_, ?_⟩ <;> first | omega | assumption | trivial | rfl) | (refine ⟨?_, ?_, ?_, ?_⟩ <;> first | omega | assumption | trivial | rfl) | (refine ⟨?_, ?_, ?_, ?_, ?_⟩ <;> first | omega | assumption | trivial | rfl) | (refine ⟨?_, ?_, ?_, ?_, ?_, ?_⟩ <;> first | omega | assumption | trivial | rfl) | (refine ⟨?_, ?_, ?_, ?_, ?_, ?_, ?_⟩ <;> first | omega | assumption | trivial | rfl) | (refine ⟨?_, ?_, ?_, ?_, ?_, ?_, ?_, ?_⟩ <;> first | omega | assumption | trivial | rfl))
    · exact ok_s (show xc5 = 0 ∨ xc5 = 1 from by first | omega | assumption | trivial | (refine ⟨?_, ?_⟩ <;> first | omega | assumption | trivial | rfl) | (refine ⟨?_, ?_, ?_⟩ <;> first | omega | assumption | trivial | rfl) | (refine ⟨?_, ?_, ?_, ?_⟩ <;> first | omega | assumption | trivial | rfl) | (refine ⟨?_, ?_, ?_, ?_, ?_⟩ <;> first | omega | assumption | trivial | rfl) | (refine ⟨?_, ?_, ?_, ?_, ?_, ?_⟩ <;> first | omega | assumption | trivial | rfl) | (refine ⟨?_, ?_, ?_, ?_, ?_, ?_, ?_⟩ <;> first | omega | assumption | trivial | rfl) | (refine ⟨?_, ?_, ?_, ?_, ?_, ?_, ?_, ?_⟩ <;> first | omega | assumption | trivial | rfl))
  · exact ok_s (show xc1 = 0 ∨ xc1 = 1 from by first | omega | assumption | trivial | (refine ⟨?_, ?_⟩ <;> first | omega | assumption | trivial | rfl) | (refine ⟨?_, ?_, ?_⟩ <;> first | omega | assumption | trivial | rfl) | (refine ⟨?_, ?_, ?_, ?_⟩ <;> first | omega | assumption | trivial | rfl) | (refine ⟨?_, ?_, ?_, ?_, ?_⟩ <;> first | omega | assumption | trivial | rfl) | (refine ⟨?_, ?_, ?_, ?_, ?_, ?_⟩ <;> first | omega | assumption | trivial | rfl) | (refine ⟨?_, ?_, ?_, ?_, ?_, ?_, ?_⟩ <;> first | omega | assumption | trivial | rfl) | (refine ⟨?_, ?_, ?_, ?_, ?_, ?_, ?_, ?_⟩ <;> first | omega | assumption | trivial | rfl))
