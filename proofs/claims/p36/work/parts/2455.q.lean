set_option maxHeartbeats 1000000 in
theorem s7_lowest (fo : Nat → Int64) (p0 : Int32) (hp0 : FA fo) : ok (F_X7_lowest fo p0) (fun r => ok (F_X9_lowest fo p0) (fun q => ((r.1 = 0 ∧ q.2.toInt = 0) ∨ (r.1 = 1 ∧ q.2.toInt = 1)) ∧ (r.1 = 0 → r.2 = q.1))) := by
  have l032 : (0 : Int32).toInt = 0 := by decide
  have l132 : (1 : Int32).toInt = 1 := by decide
  unfold F_X7_lowest
  refine ok_o (fx_X7_testForm p0 ) (fun xc1 h1 => ?_)
  have h1 : (xc1 = 0 ∧ 0 ≤ p0.toInt ∧ p0.toInt ≤ 5) ∨ (xc1 = 1 ∧ (p0.toInt < 0 ∨ 5 < p0.toInt)) := h1
  refine ok_i (fun c2 => ?_) (fun c2 => ?_)
  · refine ok_c (ixo (by omega) (by omega)) ?_
    try have a3 := FA_at (f := fo) (by assumption) p0.toNatClampNeg
    refine ok_o (fx_X0_lowestOf (fo p0.toNatClampNeg) (by first | omega | assumption | trivial | exact wt_of (by assumption) (by omega))) (fun r10 h4 => ?_)
    have h4 : r10 = LW (fo p0.toNatClampNeg) := h4
    refine ok_s ?_
    show ok (F_X9_lowest fo p0) (fun q => ((0 = 0 ∧ q.2.toInt = 0) ∨ (0 = 1 ∧ q.2.toInt = 1)) ∧ (0 = 0 → r10 = q.1))
    unfold F_X9_lowest
    refine ok_o (sp_X9_isForm p0 ) (fun r2 h5 => ?_)
    have h5 : (r2.toInt = 1 ∧ 0 ≤ p0.toInt ∧ p0.toInt ≤ 5) ∨ (r2.toInt = 0 ∧ (p0.toInt < 0 ∨ 6 ≤ p0.toInt)) := h5
    refine ok_eq (fun c6 => ?_) (fun c6 => ?_)
    · exfalso; omega
    · refine ok_o2 (sp_X9_isThrown_ (0 : Int32) ) (fun r13 c_t_thrown_13 h7 => ?_)
      have h7 : (r13.toInt = 0 ∧ c_t_thrown_13.toInt = 0 ∧ (0 : Int32).toInt = 0) ∨ (r13.toInt = 1 ∧ c_t_thrown_13.toInt = 1 ∧ (0 : Int32).toInt ≠ 0) := h7
      refine ok_eq (fun c8 => ?_) (fun c8 => ?_)
      · refine ok_c (ixo (by omega) (by omega)) ?_
        try have a9 := FA_at (f := fo) (by assumption) p0.toNatClampNeg
        refine ok_o (fx_X9_lowestOf (fo p0.toNatClampNeg) (by first | omega | assumption | trivial | exact wt_of (by assumption) (by omega))) (fun r29 h10 => ?_)
        have h10 : r29 = LW (fo p0.toNatClampNeg) := h10
        refine ok_s (show ((0 = 0 ∧ c_t_thrown_13.toInt = 0) ∨ (0 = 1 ∧ c_t_thrown_13.toInt = 1)) ∧ (0 = 0 → r10 = r29) from ?_)
        first | (exfalso; omega) | (subst_vars; first | (exfalso; omega) | (refine ⟨?_, ?_⟩ <;> (first | assumption | rfl | omega | (intro hx; first | rfl | assumption | (exfalso; omega) | exact Int32.toInt_inj.mp (by omega)) | exact Int32.toInt_inj.mp (by omega) | (rw [uu_a, uu_a]))))
      · exfalso; omega
  · refine ok_s ?_
    show ok (F_X9_lowest fo p0) (fun q => ((xc1 = 0 ∧ q.2.toInt = 0) ∨ (xc1 = 1 ∧ q.2.toInt = 1)) ∧ (xc1 = 0 → (0 : Int32) = q.1))
    unfold F_X9_lowest
    refine ok_o (sp_X9_isForm p0 ) (fun r2_2 h11 => ?_)
    have h11 : (r2_2.toInt = 1 ∧ 0 ≤ p0.toInt ∧ p0.toInt ≤ 5) ∨ (r2_2.toInt = 0 ∧ (p0.toInt < 0 ∨ 6 ≤ p0.toInt)) := h11
    refine ok_eq (fun c12 => ?_) (fun c12 => ?_)
    · refine ok_o2 (sp_X9_isThrown_ (1 : Int32) ) (fun r13_2 c_t_thrown_13_2 h13 => ?_)
      have h13 : (r13_2.toInt = 0 ∧ c_t_thrown_13_2.toInt = 0 ∧ (1 : Int32).toInt = 0) ∨ (r13_2.toInt = 1 ∧ c_t_thrown_13_2.toInt = 1 ∧ (1 : Int32).toInt ≠ 0) := h13
      refine ok_eq (fun c14 => ?_) (fun c14 => ?_)
      · exfalso; omega
      · refine ok_s (show ((xc1 = 0 ∧ c_t_thrown_13_2.toInt = 0) ∨ (xc1 = 1 ∧ c_t_thrown_13_2.toInt = 1)) ∧ (xc1 = 0 → (0 : Int32) = (0 : Int32)) from ?_)
        first | (exfalso; omega) | (subst_vars; first | (exfalso; omega) | (refine ⟨?_, ?_⟩ <;> (first | assumption | rfl | omega | (intro hx; first | rfl | assumption | (exfalso; omega) | exact Int32.toInt_inj.mp (by omega)) | exact Int32.toInt_inj.mp (by omega) | (rw [uu_a, uu_a]))))
    · exfalso; omega
