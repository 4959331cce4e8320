set_option maxHeartbeats 1000000 in
theorem s7_divides (fo : Nat → Int64) (p0 : Int32) (p1 : Int32) (hp0 : FA fo) : ok (F_X7_divides fo p0 p1) (fun r => ok (F_X9_divides fo p0 p1) (fun q => ((r.1 = 0 ∧ q.2.toInt = 0) ∨ (r.1 = 1 ∧ q.2.toInt = 1)) ∧ (r.1 = 0 → r.2 = q.1))) := by
  have l032 : (0 : Int32).toInt = 0 := by decide
  have l132 : (1 : Int32).toInt = 1 := by decide
  unfold F_X7_divides
  refine ok_o (fx_X7_testForm p0 ) (fun xc1 h1 => ?_)
  have h1 : (xc1 = 0 ∧ 0 ≤ p0.toInt ∧ p0.toInt ≤ 5) ∨ (xc1 = 1 ∧ (p0.toInt < 0 ∨ 5 < p0.toInt)) := h1
  refine ok_i (fun c2 => ?_) (fun c2 => ?_)
  · refine ok_o (fx_X7_testForm p1 ) (fun xc5 h3 => ?_)
    have h3 : (xc5 = 0 ∧ 0 ≤ p1.toInt ∧ p1.toInt ≤ 5) ∨ (xc5 = 1 ∧ (p1.toInt < 0 ∨ 5 < p1.toInt)) := h3
    refine ok_i (fun c4 => ?_) (fun c4 => ?_)
    · refine ok_c (ixo (by omega) (by omega)) ?_
      refine ok_c (ixo (by omega) (by omega)) ?_
      try have a5 := FA_at (f := fo) (by assumption) p0.toNatClampNeg
      try have a6 := FA_at (f := fo) (by assumption) p1.toNatClampNeg
      refine ok_o (fx_X0_goesInto (fo p0.toNatClampNeg) (fo p1.toNatClampNeg) (by first | omega | assumption | trivial | exact wt_of (by assumption) (by omega)) (by first | omega | assumption | trivial | exact wt_of (by assumption) (by omega))) (fun r20 h7 => ?_)
      have h7 : (r20.toInt = 0 ∨ r20.toInt = 1) ∧ r20 = DV (fo p1.toNatClampNeg) (fo p0.toNatClampNeg) := h7
      obtain ⟨h7_0, h7_1⟩ := h7
      refine ok_z (by first | omega | exact zr_of (by omega) | assumption) ?_
      refine ok_s ?_
      show ok (F_X9_divides fo p0 p1) (fun q => ((0 = 0 ∧ q.2.toInt = 0) ∨ (0 = 1 ∧ q.2.toInt = 1)) ∧ (0 = 0 → r20 = q.1))
      unfold F_X9_divides
      refine ok_o (sp_X9_isForm p0 ) (fun r2 h8 => ?_)
      have h8 : (r2.toInt = 1 ∧ 0 ≤ p0.toInt ∧ p0.toInt ≤ 5) ∨ (r2.toInt = 0 ∧ (p0.toInt < 0 ∨ 6 ≤ p0.toInt)) := h8
      refine ok_eq (fun c9 => ?_) (fun c9 => ?_)
      · exfalso; omega
      · refine ok_o (sp_X9_isForm p1 ) (fun r9 h10 => ?_)
        have h10 : (r9.toInt = 1 ∧ 0 ≤ p1.toInt ∧ p1.toInt ≤ 5) ∨ (r9.toInt = 0 ∧ (p1.toInt < 0 ∨ 6 ≤ p1.toInt)) := h10
        refine ok_eq (fun c11 => ?_) (fun c11 => ?_)
        · exfalso; omega
        · refine ok_o2 (sp_X9_isThrown_ (0 : Int32) ) (fun r20_2 c_t_thrown_20 h12 => ?_)
          have h12 : (r20_2.toInt = 0 ∧ c_t_thrown_20.toInt = 0 ∧ (0 : Int32).toInt = 0) ∨ (r20_2.toInt = 1 ∧ c_t_thrown_20.toInt = 1 ∧ (0 : Int32).toInt ≠ 0) := h12
          refine ok_eq (fun c13 => ?_) (fun c13 => ?_)
          · refine ok_c (ixo (by omega) (by omega)) ?_
            refine ok_c (ixo (by omega) (by omega)) ?_
            try have a14 := FA_at (f := fo) (by assumption) p1.toNatClampNeg
            try have a15 := FA_at (f := fo) (by assumption) p0.toNatClampNeg
            refine ok_o (fx_X9_isDivided (fo p1.toNatClampNeg) (fo p0.toNatClampNeg) (by first | omega | assumption | trivial | exact wt_of (by assumption) (by omega)) (by first | omega | assumption | trivial | exact wt_of (by assumption) (by omega))) (fun r38 h16 => ?_)
            have h16 : (r38.toInt = 0 ∨ r38.toInt = 1) ∧ r38 = DV (fo p1.toNatClampNeg) (fo p0.toNatClampNeg) := h16
            obtain ⟨h16_0, h16_1⟩ := h16
            refine ok_eq (fun c17 => ?_) (fun c17 => ?_)
            · refine ok_s (show ((0 = 0 ∧ c_t_thrown_20.toInt = 0) ∨ (0 = 1 ∧ c_t_thrown_20.toInt = 1)) ∧ (0 = 0 → r20 = (0 : Int32)) from ?_)
              first | (exfalso; omega) | (subst_vars; first | (exfalso; omega) | (refine ⟨?_, ?_⟩ <;> (first | assumption | rfl | omega | (intro hx; first | rfl | assumption | (exfalso; omega) | exact Int32.toInt_inj.mp (by omega)) | exact Int32.toInt_inj.mp (by omega) | (rw [uu_a, uu_a]))))
            · refine ok_s (show ((0 = 0 ∧ c_t_thrown_20.toInt = 0) ∨ (0 = 1 ∧ c_t_thrown_20.toInt = 1)) ∧ (0 = 0 → r20 = (1 : Int32)) from ?_)
              first | (exfalso; omega) | (subst_vars; first | (exfalso; omega) | (refine ⟨?_, ?_⟩ <;> (first | assumption | rfl | omega | (intro hx; first | rfl | assumption | (exfalso; omega) | exact Int32.toInt_inj.mp (by omega)) | exact Int32.toInt_inj.mp (by omega) | (rw [uu_a, uu_a]))))
          · exfalso; omega
    · refine ok_s ?_
      show ok (F_X9_divides fo p0 p1) (fun q => ((xc5 = 0 ∧ q.2.toInt = 0) ∨ (xc5 = 1 ∧ q.2.toInt = 1)) ∧ (xc5 = 0 → (0 : Int32) = q.1))
      unfold F_X9_divides
      refine ok_o (sp_X9_isForm p0 ) (fun r2_2 h18 => ?_)
      have h18 : (r2_2.toInt = 1 ∧ 0 ≤ p0.toInt ∧ p0.toInt ≤ 5) ∨ (r2_2.toInt = 0 ∧ (p0.toInt < 0 ∨ 6 ≤ p0.toInt)) := h18
      refine ok_eq (fun c19 => ?_) (fun c19 => ?_)
      · exfalso; omega
      · refine ok_o (sp_X9_isForm p1 ) (fun r9_2 h20 => ?_)
        have h20 : (r9_2.toInt = 1 ∧ 0 ≤ p1.toInt ∧ p1.toInt ≤ 5) ∨ (r9_2.toInt = 0 ∧ (p1.toInt < 0 ∨ 6 ≤ p1.toInt)) := h20
        refine ok_eq (fun c21 => ?_) (fun c21 => ?_)
        · refine ok_o2 (sp_X9_isThrown_ (1 : Int32) ) (fun r20_3 c_t_thrown_20_2 h22 => ?_)
          have h22 : (r20_3.toInt = 0 ∧ c_t_thrown_20_2.toInt = 0 ∧ (1 : Int32).toInt = 0) ∨ (r20_3.toInt = 1 ∧ c_t_thrown_20_2.toInt = 1 ∧ (1 : Int32).toInt ≠ 0) := h22
          refine ok_eq (fun c23 => ?_) (fun c23 => ?_)
          · exfalso; omega
          · refine ok_s (show ((xc5 = 0 ∧ c_t_thrown_20_2.toInt = 0) ∨ (xc5 = 1 ∧ c_t_thrown_20_2.toInt = 1)) ∧ (xc5 = 0 → (0 : Int32) = (0 : Int32)) from ?_)
            first | (exfalso; omega) | (subst_vars; first | (exfalso; omega) | (refine ⟨?_, ?_⟩ <;> (first | assumption | rfl | omega | (intro hx; first | rfl | assumption | (exfalso; omega) | exact Int32.toInt_inj.mp (by omega)) | exact Int32.toInt_inj.mp (by omega) | (rw [uu_a, uu_a]))))
        · exfalso; omega
  · refine ok_s ?_
    show ok (F_X9_divides fo p0 p1) (fun q => ((xc1 = 0 ∧ q.2.toInt = 0) ∨ (xc1 = 1 ∧ q.2.toInt = 1)) ∧ (xc1 = 0 → (0 : Int32) = q.1))
    unfold F_X9_divides
    refine ok_o (sp_X9_isForm p0 ) (fun r2_3 h24 => ?_)
    have h24 : (r2_3.toInt = 1 ∧ 0 ≤ p0.toInt ∧ p0.toInt ≤ 5) ∨ (r2_3.toInt = 0 ∧ (p0.toInt < 0 ∨ 6 ≤ p0.toInt)) := h24
    refine ok_eq (fun c25 => ?_) (fun c25 => ?_)
    · refine ok_o2 (sp_X9_isThrown_ (1 : Int32) ) (fun r20_4 c_t_thrown_20_3 h26 => ?_)
      have h26 : (r20_4.toInt = 0 ∧ c_t_thrown_20_3.toInt = 0 ∧ (1 : Int32).toInt = 0) ∨ (r20_4.toInt = 1 ∧ c_t_thrown_20_3.toInt = 1 ∧ (1 : Int32).toInt ≠ 0) := h26
      refine ok_eq (fun c27 => ?_) (fun c27 => ?_)
      · exfalso; omega
      · refine ok_s (show ((xc1 = 0 ∧ c_t_thrown_20_3.toInt = 0) ∨ (xc1 = 1 ∧ c_t_thrown_20_3.toInt = 1)) ∧ (xc1 = 0 → (0 : Int32) = (0 : Int32)) from ?_)
        first | (exfalso; omega) | (subst_vars; first | (exfalso; omega) | (refine ⟨?_, ?_⟩ <;> (first | assumption | rfl | omega | (intro hx; first | rfl | assumption | (exfalso; omega) | exact Int32.toInt_inj.mp (by omega)) | exact Int32.toInt_inj.mp (by omega) | (rw [uu_a, uu_a]))))
    · exfalso; omega
