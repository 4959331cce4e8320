set_option maxHeartbeats 1000000 in
theorem s7_code (fo : Nat → Int64) (p0 : Int32) (hp0 : FA fo) : ok (F_X7_code fo p0) (fun r => ok (F_X9_code fo p0) (fun q => ((r.1 = 0 ∧ q.2.toInt = 0) ∨ (r.1 = 1 ∧ q.2.toInt = 1)) ∧ (r.1 = 0 → r.2 = q.1))) := by
  have lm932 : (-9 : Int32).toInt = -9 := by decide
  have l032 : (0 : Int32).toInt = 0 := by decide
  have l132 : (1 : Int32).toInt = 1 := by decide
  have l3032 : (30 : Int32).toInt = 30 := by decide
  unfold F_X7_code
  refine ok_o (fx_X7_testForm p0 ) (fun xc1 h1 => ?_)
  have h1 : (xc1 = 0 ∧ 0 ≤ p0.toInt ∧ p0.toInt ≤ 5) ∨ (xc1 = 1 ∧ (p0.toInt < 0 ∨ 5 < p0.toInt)) := h1
  refine ok_i (fun c2 => ?_) (fun c2 => ?_)
  · refine ok_c (ixo (by omega) (by omega)) ?_
    try have a3 := FA_at (f := fo) (by assumption) p0.toNatClampNeg
    refine ok_o (fx_X0_degreeOf (fo p0.toNatClampNeg) ) (fun r10 h4 => ?_)
    have h4 : r10 = DI (fo p0.toNatClampNeg) ∧ r10.toInt = DG (fo p0.toNatClampNeg) ∧ -1 ≤ r10.toInt ∧ r10.toInt ≤ 63 := h4
    obtain ⟨h4_0, h4_1, h4_2, h4_3⟩ := h4
    refine ok_le (fun c5 => ?_) (fun c5 => ?_)
    · refine ok_c (ixo (by omega) (by omega)) ?_
      refine ok_s ?_
      show ok (F_X9_code fo p0) (fun q => ((0 = 0 ∧ q.2.toInt = 0) ∨ (0 = 1 ∧ q.2.toInt = 1)) ∧ (0 = 0 → (fo p0.toNatClampNeg).toInt32 = q.1))
      unfold F_X9_code
      refine ok_o (sp_X9_isForm p0 ) (fun r2 h6 => ?_)
      have h6 : (r2.toInt = 1 ∧ 0 ≤ p0.toInt ∧ p0.toInt ≤ 5) ∨ (r2.toInt = 0 ∧ (p0.toInt < 0 ∨ 6 ≤ p0.toInt)) := h6
      refine ok_eq (fun c7 => ?_) (fun c7 => ?_)
      · exfalso; omega
      · refine ok_o2 (sp_X9_isThrown_ (0 : Int32) ) (fun r13 c_t_thrown_13 h8 => ?_)
        have h8 : (r13.toInt = 0 ∧ c_t_thrown_13.toInt = 0 ∧ (0 : Int32).toInt = 0) ∨ (r13.toInt = 1 ∧ c_t_thrown_13.toInt = 1 ∧ (0 : Int32).toInt ≠ 0) := h8
        refine ok_eq (fun c9 => ?_) (fun c9 => ?_)
        · refine ok_c (ixo (by omega) (by omega)) ?_
          try have a10 := FA_at (f := fo) (by assumption) p0.toNatClampNeg
          refine ok_o (fx_X9_degreeOf (fo p0.toNatClampNeg) ) (fun r29 h11 => ?_)
          have h11 : r29 = DI (fo p0.toNatClampNeg) ∧ r29.toInt = DG (fo p0.toNatClampNeg) ∧ -1 ≤ r29.toInt ∧ r29.toInt ≤ 63 := h11
          obtain ⟨h11_0, h11_1, h11_2, h11_3⟩ := h11
          refine ok_le (fun c12 => ?_) (fun c12 => ?_)
          · refine ok_c (ixo (by omega) (by omega)) ?_
            refine ok_s (show ((0 = 0 ∧ c_t_thrown_13.toInt = 0) ∨ (0 = 1 ∧ c_t_thrown_13.toInt = 1)) ∧ (0 = 0 → (fo p0.toNatClampNeg).toInt32 = (fo p0.toNatClampNeg).toInt32) from ?_)
            first | (exfalso; omega) | (subst_vars; first | (exfalso; omega) | (refine ⟨?_, ?_⟩ <;> (first | assumption | rfl | omega | (intro hx; first | rfl | assumption | (exfalso; omega) | exact Int32.toInt_inj.mp (by omega)) | exact Int32.toInt_inj.mp (by omega) | (rw [uu_a, uu_a]))))
          · exfalso; omega
        · exfalso; omega
    · refine ok_s ?_
      show ok (F_X9_code fo p0) (fun q => ((0 = 0 ∧ q.2.toInt = 0) ∨ (0 = 1 ∧ q.2.toInt = 1)) ∧ (0 = 0 → (-9 : Int32) = q.1))
      unfold F_X9_code
      refine ok_o (sp_X9_isForm p0 ) (fun r2_2 h13 => ?_)
      have h13 : (r2_2.toInt = 1 ∧ 0 ≤ p0.toInt ∧ p0.toInt ≤ 5) ∨ (r2_2.toInt = 0 ∧ (p0.toInt < 0 ∨ 6 ≤ p0.toInt)) := h13
      refine ok_eq (fun c14 => ?_) (fun c14 => ?_)
      · exfalso; omega
      · refine ok_o2 (sp_X9_isThrown_ (0 : Int32) ) (fun r13_2 c_t_thrown_13_2 h15 => ?_)
        have h15 : (r13_2.toInt = 0 ∧ c_t_thrown_13_2.toInt = 0 ∧ (0 : Int32).toInt = 0) ∨ (r13_2.toInt = 1 ∧ c_t_thrown_13_2.toInt = 1 ∧ (0 : Int32).toInt ≠ 0) := h15
        refine ok_eq (fun c16 => ?_) (fun c16 => ?_)
        · refine ok_c (ixo (by omega) (by omega)) ?_
          try have a17 := FA_at (f := fo) (by assumption) p0.toNatClampNeg
          refine ok_o (fx_X9_degreeOf (fo p0.toNatClampNeg) ) (fun r29_2 h18 => ?_)
          have h18 : r29_2 = DI (fo p0.toNatClampNeg) ∧ r29_2.toInt = DG (fo p0.toNatClampNeg) ∧ -1 ≤ r29_2.toInt ∧ r29_2.toInt ≤ 63 := h18
          obtain ⟨h18_0, h18_1, h18_2, h18_3⟩ := h18
          refine ok_le (fun c19 => ?_) (fun c19 => ?_)
          · exfalso; omega
          · refine ok_s (show ((0 = 0 ∧ c_t_thrown_13_2.toInt = 0) ∨ (0 = 1 ∧ c_t_thrown_13_2.toInt = 1)) ∧ (0 = 0 → (-9 : Int32) = (-9 : Int32)) from ?_)
            first | (exfalso; omega) | (subst_vars; first | (exfalso; omega) | (refine ⟨?_, ?_⟩ <;> (first | assumption | rfl | omega | (intro hx; first | rfl | assumption | (exfalso; omega) | exact Int32.toInt_inj.mp (by omega)) | exact Int32.toInt_inj.mp (by omega) | (rw [uu_a, uu_a]))))
        · exfalso; omega
  · refine ok_s ?_
    show ok (F_X9_code fo p0) (fun q => ((xc1 = 0 ∧ q.2.toInt = 0) ∨ (xc1 = 1 ∧ q.2.toInt = 1)) ∧ (xc1 = 0 → (0 : Int32) = q.1))
    unfold F_X9_code
    refine ok_o (sp_X9_isForm p0 ) (fun r2_3 h20 => ?_)
    have h20 : (r2_3.toInt = 1 ∧ 0 ≤ p0.toInt ∧ p0.toInt ≤ 5) ∨ (r2_3.toInt = 0 ∧ (p0.toInt < 0 ∨ 6 ≤ p0.toInt)) := h20
    refine ok_eq (fun c21 => ?_) (fun c21 => ?_)
    · refine ok_o2 (sp_X9_isThrown_ (1 : Int32) ) (fun r13_3 c_t_thrown_13_3 h22 => ?_)
      have h22 : (r13_3.toInt = 0 ∧ c_t_thrown_13_3.toInt = 0 ∧ (1 : Int32).toInt = 0) ∨ (r13_3.toInt = 1 ∧ c_t_thrown_13_3.toInt = 1 ∧ (1 : Int32).toInt ≠ 0) := h22
      refine ok_eq (fun c23 => ?_) (fun c23 => ?_)
      · exfalso; omega
      · refine ok_s (show ((xc1 = 0 ∧ c_t_thrown_13_3.toInt = 0) ∨ (xc1 = 1 ∧ c_t_thrown_13_3.toInt = 1)) ∧ (xc1 = 0 → (0 : Int32) = (0 : Int32)) from ?_)
        first | (exfalso; omega) | (subst_vars; first | (exfalso; omega) | (refine ⟨?_, ?_⟩ <;> (first | assumption | rfl | omega | (intro hx; first | rfl | assumption | (exfalso; omega) | exact Int32.toInt_inj.mp (by omega)) | exact Int32.toInt_inj.mp (by omega) | (rw [uu_a, uu_a]))))
    · exfalso; omega
