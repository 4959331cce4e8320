set_option maxHeartbeats 1000000 in
theorem sp_X2_isByTrying (p0 : Int64) (hp0 : DG p0 ≤ 10) : ok (F_X2_isByTrying p0) (fun r => r.toInt = 0 ∨ r.toInt = 1) := by
  have l032 : (0 : Int32).toInt = 0 := by decide
  have l132 : (1 : Int32).toInt = 1 := by decide
  have l164 : (1 : Int64).toInt = 1 := by decide
  have l232 : (2 : Int32).toInt = 2 := by decide
  have l264 : (2 : Int64).toInt = 2 := by decide
  unfold F_X2_isByTrying
  refine ok_o (sp_X0_degreeOf p0 ) (fun r1 h1 => ?_)
  have h1 : r1.toInt = DG p0 ∧ -1 ≤ r1.toInt ∧ r1.toInt ≤ 63 := h1
  refine ok_le (fun c2 => ?_) (fun c2 => ?_)
  · refine ok_bx (fun x3_19 e_x3_19 => ?_)
    have t_x3_19 : x3_19.toInt ≤ 64 := by rw [e_x3_19]; exact half_sh (by omega) (by omega)
    refine ok_L1 (fun y5_25 => 2 ≤ y5_25.toInt) (fun y5_25 => (x3_19.toInt - y5_25.toInt + 1).toNat) (fun ih25 y5_25 hI3 hih3 => ?_) 20000 (2 : Int64) (show 2 ≤ (2 : Int64).toInt from by first | omega | assumption | trivial | (refine ⟨?_, ?_⟩ <;> first | omega | assumption | trivial | rfl) | (refine ⟨?_, ?_, ?_⟩ <;> first | omega | assumption | trivial | rfl) | (refine ⟨?_, ?_, ?_, ?_⟩ <;> first | omega | assumption | trivial | rfl) | (refine ⟨?_, ?_, ?_, ?_, ?_⟩ <;> first | omega | assumption | trivial | rfl)) (show (x3_19.toInt - (2 : Int64).toInt + 1).toNat < 20000 from by omega)
    have hI3 : 2 ≤ y5_25.toInt := hI3
    unfold S_X2_isByTrying_25
    refine ok_leL (fun c4 => ?_) (fun c4 => ?_)
    · exact ok_s (show (1 : Int32).toInt = 0 ∨ (1 : Int32).toInt = 1 from by first | omega | assumption | trivial | (refine ⟨?_, ?_⟩ <;> first | omega | assumption | trivial | rfl) | (refine ⟨?_, ?_, ?_⟩ <;> first | omega | assumption | trivial | rfl) | (refine ⟨?_, ?_, ?_, ?_⟩ <;> first | omega | assumption | trivial | rfl) | (refine ⟨?_, ?_, ?_, ?_, ?_⟩ <;> first | omega | assumption | trivial | rfl))
    · refine ok_o (sp_X0_goesInto y5_25 p0 ) (fun r35 h5 => ?_)
      have h5 : r35.toInt = 0 ∨ r35.toInt = 1 := h5
      refine ok_eq (fun c6 => ?_) (fun c6 => ?_)
      · refine ok_bx (fun x5_47 e_x5_47 => ?_)
        try have t_x5_47 : x5_47.toInt = y5_25.toInt + 1 := by rw [e_x5_47]; exact addL1 (show (1 : Int64).toInt = 1 from by decide) (by omega) (by omega)
        exact hih3 x5_47 (show 2 ≤ x5_47.toInt from by first | omega | assumption | trivial | (refine ⟨?_, ?_⟩ <;> first | omega | assumption | trivial | rfl) | (refine ⟨?_, ?_, ?_⟩ <;> first | omega | assumption | trivial | rfl) | (refine ⟨?_, ?_, ?_, ?_⟩ <;> first | omega | assumption | trivial | rfl) | (refine ⟨?_, ?_, ?_, ?_, ?_⟩ <;> first | omega | assumption | trivial | rfl)) (show (x3_19.toInt - x5_47.toInt + 1).toNat < (x3_19.toInt - y5_25.toInt + 1).toNat from by omega)
      · exact ok_s (show (0 : Int32).toInt = 0 ∨ (0 : Int32).toInt = 1 from by first | omega | assumption | trivial | (refine ⟨?_, ?_⟩ <;> first | omega | assumption | trivial | rfl) | (refine ⟨?_, ?_, ?_⟩ <;> first | omega | assumption | trivial | rfl) | (refine ⟨?_, ?_, ?_, ?_⟩ <;> first | omega | assumption | trivial | rfl) | (refine ⟨?_, ?_, ?_, ?_, ?_⟩ <;> first | omega | assumption | trivial | rfl))
  · exact ok_s (show (0 : Int32).toInt = 0 ∨ (0 : Int32).toInt = 1 from by first | omega | assumption | trivial | (refine ⟨?_, ?_⟩ <;> first | omega | assumption | trivial | rfl) | (refine ⟨?_, ?_, ?_⟩ <;> first | omega | assumption | trivial | rfl) | (refine ⟨?_, ?_, ?_, ?_⟩ <;> first | omega | assumption | trivial | rfl) | (refine ⟨?_, ?_, ?_, ?_, ?_⟩ <;> first | omega | assumption | trivial | rfl))
