set_option maxHeartbeats 1000000 in
theorem s7_has (fo : Nat → Int64) (p0 : Int32) (p1 : Int32) (hp0 : FA fo) : ok (F_X7_has fo p0 p1) (fun r => ok (F_X9_has fo p0 p1) (fun q => ((r.1 = 0 ∧ q.2.toInt = 0) ∨ (r.1 = 1 ∧ q.2.toInt = 1)) ∧ (r.1 = 0 → r.2 = q.1))) := by
  have l032 : (0 : Int32).toInt = 0 := by decide
  have l132 : (1 : Int32).toInt = 1 := by decide
  have l164 : (1 : Int64).toInt = 1 := by decide
  unfold F_X7_has
  refine ok_o (fx_X7_testForm p0 ) (fun xc1 h1 => ?_)
  have h1 : (xc1 = 0 ∧ 0 ≤ p0.toInt ∧ p0.toInt ≤ 5) ∨ (xc1 = 1 ∧ (p0.toInt < 0 ∨ 5 < p0.toInt)) := h1
  refine ok_i (fun c2 => ?_) (fun c2 => ?_)
  · refine ok_o (fx_X7_testPlace p1 ) (fun xc5 h3 => ?_)
    have h3 : (xc5 = 0 ∧ 0 ≤ p1.toInt ∧ p1.toInt ≤ 39) ∨ (xc5 = 1 ∧ (p1.toInt < 0 ∨ 39 < p1.toInt)) := h3
    refine ok_i (fun c4 => ?_) (fun c4 => ?_)
    · refine ok_c (ixo (by omega) (by omega)) ?_
      try have a5 := FA_at (f := fo) (by assumption) p0.toNatClampNeg
      refine ok_o (fx_X0_hasOne (fo p0.toNatClampNeg) p1 ) (fun r15 h6 => ?_)
      have h6 : (r15.toInt = 1 ∧ (((fo p0.toNatClampNeg) >>> (p1.toInt64 &&& 63)) &&& (1 : Int64)).toInt = 1) ∨ (r15.toInt = 0 ∧ (((fo p0.toNatClampNeg) >>> (p1.toInt64 &&& 63)) &&& (1 : Int64)).toInt ≠ 1) := h6
      refine ok_z (by first | omega | exact zr_of (by omega) | assumption) ?_
      refine ok_s ?_
      show ok (F_X9_has fo p0 p1) (fun q => ((0 = 0 ∧ q.2.toInt = 0) ∨ (0 = 1 ∧ q.2.toInt = 1)) ∧ (0 = 0 → r15 = q.1))
      unfold F_X9_has
      refine ok_o (sp_X9_isForm p0 ) (fun r2 h7 => ?_)
      have h7 : (r2.toInt = 1 ∧ 0 ≤ p0.toInt ∧ p0.toInt ≤ 5) ∨ (r2.toInt = 0 ∧ (p0.toInt < 0 ∨ 6 ≤ p0.toInt)) := h7
      refine ok_eq (fun c8 => ?_) (fun c8 => ?_)
      · exfalso; omega
      · refine ok_o (sp_X9_isPlace p1 ) (fun r9 h9 => ?_)
        have h9 : (r9.toInt = 1 ∧ 0 ≤ p1.toInt ∧ p1.toInt ≤ 39) ∨ (r9.toInt = 0 ∧ (p1.toInt < 0 ∨ 40 ≤ p1.toInt)) := h9
        refine ok_eq (fun c10 => ?_) (fun c10 => ?_)
        · exfalso; omega
        · refine ok_o2 (sp_X9_isThrown_ (0 : Int32) ) (fun r20 c_t_thrown_20 h11 => ?_)
          have h11 : (r20.toInt = 0 ∧ c_t_thrown_20.toInt = 0 ∧ (0 : Int32).toInt = 0) ∨ (r20.toInt = 1 ∧ c_t_thrown_20.toInt = 1 ∧ (0 : Int32).toInt ≠ 0) := h11
          refine ok_eq (fun c12 => ?_) (fun c12 => ?_)
          · refine ok_c (ixo (by omega) (by omega)) ?_
            try have a14 := FA_at (f := fo) (by assumption) p0.toNatClampNeg
            refine ok_eqL (fun c13 => ?_) (fun c13 => ?_)
            · refine ok_s (show ((0 = 0 ∧ c_t_thrown_20.toInt = 0) ∨ (0 = 1 ∧ c_t_thrown_20.toInt = 1)) ∧ (0 = 0 → r15 = (1 : Int32)) from ?_)
              first | (exfalso; omega) | (subst_vars; first | (exfalso; omega) | (refine ⟨?_, ?_⟩ <;> (first | assumption | rfl | omega | (intro hx; first | rfl | assumption | (exfalso; omega) | exact Int32.toInt_inj.mp (by omega)) | exact Int32.toInt_inj.mp (by omega) | (rw [uu_a, uu_a]))))
            · refine ok_s (show ((0 = 0 ∧ c_t_thrown_20.toInt = 0) ∨ (0 = 1 ∧ c_t_thrown_20.toInt = 1)) ∧ (0 = 0 → r15 = (0 : Int32)) from ?_)
              first | (exfalso; omega) | (subst_vars; first | (exfalso; omega) | (refine ⟨?_, ?_⟩ <;> (first | assumption | rfl | omega | (intro hx; first | rfl | assumption | (exfalso; omega) | exact Int32.toInt_inj.mp (by omega)) | exact Int32.toInt_inj.mp (by omega) | (rw [uu_a, uu_a]))))
          · exfalso; omega
    · refine ok_s ?_
      show ok (F_X9_has fo p0 p1) (fun q => ((xc5 = 0 ∧ q.2.toInt = 0) ∨ (xc5 = 1 ∧ q.2.toInt = 1)) ∧ (xc5 = 0 → (0 : Int32) = q.1))
      unfold F_X9_has
      refine ok_o (sp_X9_isForm p0 ) (fun r2_2 h15 => ?_)
      have h15 : (r2_2.toInt = 1 ∧ 0 ≤ p0.toInt ∧ p0.toInt ≤ 5) ∨ (r2_2.toInt = 0 ∧ (p0.toInt < 0 ∨ 6 ≤ p0.toInt)) := h15
      refine ok_eq (fun c16 => ?_) (fun c16 => ?_)
      · exfalso; omega
      · refine ok_o (sp_X9_isPlace p1 ) (fun r9_2 h17 => ?_)
        have h17 : (r9_2.toInt = 1 ∧ 0 ≤ p1.toInt ∧ p1.toInt ≤ 39) ∨ (r9_2.toInt = 0 ∧ (p1.toInt < 0 ∨ 40 ≤ p1.toInt)) := h17
        refine ok_eq (fun c18 => ?_) (fun c18 => ?_)
        · refine ok_o2 (sp_X9_isThrown_ (1 : Int32) ) (fun r20_2 c_t_thrown_20_2 h19 => ?_)
          have h19 : (r20_2.toInt = 0 ∧ c_t_thrown_20_2.toInt = 0 ∧ (1 : Int32).toInt = 0) ∨ (r20_2.toInt = 1 ∧ c_t_thrown_20_2.toInt = 1 ∧ (1 : Int32).toInt ≠ 0) := h19
          refine ok_eq (fun c20 => ?_) (fun c20 => ?_)
          · exfalso; omega
          · refine ok_s (show ((xc5 = 0 ∧ c_t_thrown_20_2.toInt = 0) ∨ (xc5 = 1 ∧ c_t_thrown_20_2.toInt = 1)) ∧ (xc5 = 0 → (0 : Int32) = (0 : Int32)) from ?_)
            first | (exfalso; omega) | (subst_vars; first | (exfalso; omega) | (refine ⟨?_, ?_⟩ <;> (first | assumption | rfl | omega | (intro hx; first | rfl | assumption | (exfalso; omega) | exact Int32.toInt_inj.mp (by omega)) | exact Int32.toInt_inj.mp (by omega) | (rw [uu_a, uu_a]))))
        · exfalso; omega
  · refine ok_s ?_
    show ok (F_X9_has fo p0 p1) (fun q => ((xc1 = 0 ∧ q.2.toInt = 0) ∨ (xc1 = 1 ∧ q.2.toInt = 1)) ∧ (xc1 = 0 → (0 : Int32) = q.1))
    unfold F_X9_has
    refine ok_o (sp_X9_isForm p0 ) (fun r2_3 h21 => ?_)
    have h21 : (r2_3.toInt = 1 ∧ 0 ≤ p0.toInt ∧ p0.toInt ≤ 5) ∨ (r2_3.toInt = 0 ∧ (p0.toInt < 0 ∨ 6 ≤ p0.toInt)) := h21
    refine ok_eq (fun c22 => ?_) (fun c22 => ?_)
    · refine ok_o2 (sp_X9_isThrown_ (1 : Int32) ) (fun r20_3 c_t_thrown_20_3 h23 => ?_)
      have h23 : (r20_3.toInt = 0 ∧ c_t_thrown_20_3.toInt = 0 ∧ (1 : Int32).toInt = 0) ∨ (r20_3.toInt = 1 ∧ c_t_thrown_20_3.toInt = 1 ∧ (1 : Int32).toInt ≠ 0) := h23
      refine ok_eq (fun c24 => ?_) (fun c24 => ?_)
      · exfalso; omega
      · refine ok_s (show ((xc1 = 0 ∧ c_t_thrown_20_3.toInt = 0) ∨ (xc1 = 1 ∧ c_t_thrown_20_3.toInt = 1)) ∧ (xc1 = 0 → (0 : Int32) = (0 : Int32)) from ?_)
        first | (exfalso; omega) | (subst_vars; first | (exfalso; omega) | (refine ⟨?_, ?_⟩ <;> (first | assumption | rfl | omega | (intro hx; first | rfl | assumption | (exfalso; omega) | exact Int32.toInt_inj.mp (by omega)) | exact Int32.toInt_inj.mp (by omega) | (rw [uu_a, uu_a]))))
    · exfalso; omega
