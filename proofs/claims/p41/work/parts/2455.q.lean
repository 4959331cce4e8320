set_option maxHeartbeats 1000000 in
theorem s7_isPrime (fo : Nat → Int64) (th : Int32) (p0 : Int32) (p1 : Int32) (hp0 : FA fo) : ok (F_X7_isPrime fo p0 p1) (fun r => ok (F_X9_isPrime th fo p0 p1) (fun q => ((r.1 = 0 ∧ q.2.toInt = 0) ∨ (r.1 = 1 ∧ q.2.toInt = 1) ∨ (r.1 = 2 ∧ q.2.toInt = 2)) ∧ (r.1 = 0 → r.2 = q.1))) := by
  have lm932 : (-9 : Int32).toInt = -9 := by decide
  have l032 : (0 : Int32).toInt = 0 := by decide
  have l132 : (1 : Int32).toInt = 1 := by decide
  have l1032 : (10 : Int32).toInt = 10 := by decide
  unfold F_X7_isPrime
  refine ok_o (fx_X7_testForm p0 ) (fun xc1 h1 => ?_)
  have h1 : (xc1 = 0 ∧ 0 ≤ p0.toInt ∧ p0.toInt ≤ 5) ∨ (xc1 = 1 ∧ (p0.toInt < 0 ∨ 5 < p0.toInt)) := h1
  refine ok_i (fun c2 => ?_) (fun c2 => ?_)
  · refine ok_o (sp_X7_testRange p1 (0 : Int32) (1 : Int32) ) (fun xc7 h3 => ?_)
    have h3 : (xc7 = 0 ∧ (0 : Int32).toInt ≤ p1.toInt ∧ p1.toInt ≤ (1 : Int32).toInt) ∨ (xc7 = 2 ∧ (p1.toInt < (0 : Int32).toInt ∨ (1 : Int32).toInt < p1.toInt)) := h3
    refine ok_i (fun c4 => ?_) (fun c4 => ?_)
    · refine ok_c (ixo (by omega) (by omega)) ?_
      try have a5 := FA_at (f := fo) (by assumption) p0.toNatClampNeg
      refine ok_o (fx_X0_degreeOf (fo p0.toNatClampNeg) ) (fun r16 h6 => ?_)
      have h6 : r16 = DI (fo p0.toNatClampNeg) ∧ r16.toInt = DG (fo p0.toNatClampNeg) ∧ -1 ≤ r16.toInt ∧ r16.toInt ≤ 63 := h6
      obtain ⟨h6_0, h6_1, h6_2, h6_3⟩ := h6
      refine ok_le (fun c7 => ?_) (fun c7 => ?_)
      · refine ok_eq (fun c8 => ?_) (fun c8 => ?_)
        · refine ok_c (ixo (by omega) (by omega)) ?_
          try have a9 := FA_at (f := fo) (by assumption) p0.toNatClampNeg
          refine ok_o (fx_X2_isByTrying (fo p0.toNatClampNeg) (by first | omega | assumption | trivial | exact wt_of (by assumption) (by omega))) (fun r37 h10 => ?_)
          have h10 : (r37.toInt = 0 ∨ r37.toInt = 1) ∧ r37 = P9 (fo p0.toNatClampNeg) := h10
          obtain ⟨h10_0, h10_1⟩ := h10
          refine ok_eq (fun c11 => ?_) (fun c11 => ?_)
          · refine ok_s ?_
            show ok (F_X9_isPrime th fo p0 p1) (fun q => ((0 = 0 ∧ q.2.toInt = 0) ∨ (0 = 1 ∧ q.2.toInt = 1) ∨ (0 = 2 ∧ q.2.toInt = 2)) ∧ (0 = 0 → (0 : Int32) = q.1))
            unfold F_X9_isPrime
            refine ok_o (sp_X9_isForm p0 ) (fun r2 h12 => ?_)
            have h12 : (r2.toInt = 1 ∧ 0 ≤ p0.toInt ∧ p0.toInt ≤ 5) ∨ (r2.toInt = 0 ∧ (p0.toInt < 0 ∨ 6 ≤ p0.toInt)) := h12
            refine ok_eq (fun c13 => ?_) (fun c13 => ?_)
            · exfalso; omega
            · first | unfold J_X9_isPrime_13 | skip
              refine ok_lt (fun c14 => ?_) (fun c14 => ?_)
              · exfalso; omega
              · refine ok_le (fun c15 => ?_) (fun c15 => ?_)
                · first | unfold J_X9_isPrime_27 | skip
                  refine ok_o2 (sp_X9_isThrown (0 : Int32) (0 : Int32) ) (fun r27 c_t_thrown_27 h16 => ?_)
                  have h16 : (r27.toInt = 0 ∧ c_t_thrown_27.toInt = 0 ∧ (0 : Int32).toInt = 0 ∧ (0 : Int32).toInt = 0) ∨ (r27.toInt = 1 ∧ c_t_thrown_27.toInt = 1 ∧ (0 : Int32).toInt ≠ 0) ∨ (r27.toInt = 1 ∧ c_t_thrown_27.toInt = 2 ∧ (0 : Int32).toInt = 0 ∧ (0 : Int32).toInt ≠ 0) := h16
                  refine ok_eq (fun c17 => ?_) (fun c17 => ?_)
                  · refine ok_c (ixo (by omega) (by omega)) ?_
                    try have a18 := FA_at (f := fo) (by assumption) p0.toNatClampNeg
                    refine ok_o (fx_X9_degreeOf (fo p0.toNatClampNeg) ) (fun r41 h19 => ?_)
                    have h19 : r41 = DI (fo p0.toNatClampNeg) ∧ r41.toInt = DG (fo p0.toNatClampNeg) ∧ -1 ≤ r41.toInt ∧ r41.toInt ≤ 63 := h19
                    obtain ⟨h19_0, h19_1, h19_2, h19_3⟩ := h19
                    refine ok_le (fun c20 => ?_) (fun c20 => ?_)
                    · refine ok_c (ixo (by omega) (by omega)) ?_
                      try have a21 := FA_at (f := fo) (by assumption) p0.toNatClampNeg
                      refine ok_o (fx_X9_isPrimeNow (fo p0.toNatClampNeg) (by first | omega | assumption | trivial | exact wt_of (by assumption) (by omega))) (fun r60 h22 => ?_)
                      have h22 : (r60.toInt = 0 ∨ r60.toInt = 1) ∧ r60 = P9 (fo p0.toNatClampNeg) := h22
                      obtain ⟨h22_0, h22_1⟩ := h22
                      refine ok_eq (fun c23 => ?_) (fun c23 => ?_)
                      · refine ok_s (show ((0 = 0 ∧ c_t_thrown_27.toInt = 0) ∨ (0 = 1 ∧ c_t_thrown_27.toInt = 1) ∨ (0 = 2 ∧ c_t_thrown_27.toInt = 2)) ∧ (0 = 0 → (0 : Int32) = (0 : Int32)) from ?_)
                        first | (exfalso; omega) | (subst_vars; first | (exfalso; omega) | (refine ⟨?_, ?_⟩ <;> (first | assumption | rfl | omega | (intro hx; first | rfl | assumption | (exfalso; omega) | exact Int32.toInt_inj.mp (by omega)) | exact Int32.toInt_inj.mp (by omega) | (rw [uu_a, uu_a]))))
                      · refine ok_s (show ((0 = 0 ∧ c_t_thrown_27.toInt = 0) ∨ (0 = 1 ∧ c_t_thrown_27.toInt = 1) ∨ (0 = 2 ∧ c_t_thrown_27.toInt = 2)) ∧ (0 = 0 → (0 : Int32) = (1 : Int32)) from ?_)
                        first | (exfalso; omega) | (subst_vars; first | (exfalso; omega) | (refine ⟨?_, ?_⟩ <;> (first | assumption | rfl | omega | (intro hx; first | rfl | assumption | (exfalso; omega) | exact Int32.toInt_inj.mp (by omega)) | exact Int32.toInt_inj.mp (by omega) | (rw [uu_a, uu_a]))))
                    · exfalso; omega
                  · exfalso; omega
                · exfalso; omega
          · refine ok_s ?_
            show ok (F_X9_isPrime th fo p0 p1) (fun q => ((0 = 0 ∧ q.2.toInt = 0) ∨ (0 = 1 ∧ q.2.toInt = 1) ∨ (0 = 2 ∧ q.2.toInt = 2)) ∧ (0 = 0 → (1 : Int32) = q.1))
            unfold F_X9_isPrime
            refine ok_o (sp_X9_isForm p0 ) (fun r2_2 h24 => ?_)
            have h24 : (r2_2.toInt = 1 ∧ 0 ≤ p0.toInt ∧ p0.toInt ≤ 5) ∨ (r2_2.toInt = 0 ∧ (p0.toInt < 0 ∨ 6 ≤ p0.toInt)) := h24
            refine ok_eq (fun c25 => ?_) (fun c25 => ?_)
            · exfalso; omega
            · first | unfold J_X9_isPrime_13 | skip
              refine ok_lt (fun c26 => ?_) (fun c26 => ?_)
              · exfalso; omega
              · refine ok_le (fun c27 => ?_) (fun c27 => ?_)
                · first | unfold J_X9_isPrime_27 | skip
                  refine ok_o2 (sp_X9_isThrown (0 : Int32) (0 : Int32) ) (fun r27_2 c_t_thrown_27_2 h28 => ?_)
                  have h28 : (r27_2.toInt = 0 ∧ c_t_thrown_27_2.toInt = 0 ∧ (0 : Int32).toInt = 0 ∧ (0 : Int32).toInt = 0) ∨ (r27_2.toInt = 1 ∧ c_t_thrown_27_2.toInt = 1 ∧ (0 : Int32).toInt ≠ 0) ∨ (r27_2.toInt = 1 ∧ c_t_thrown_27_2.toInt = 2 ∧ (0 : Int32).toInt = 0 ∧ (0 : Int32).toInt ≠ 0) := h28
                  refine ok_eq (fun c29 => ?_) (fun c29 => ?_)
                  · refine ok_c (ixo (by omega) (by omega)) ?_
                    try have a30 := FA_at (f := fo) (by assumption) p0.toNatClampNeg
                    refine ok_o (fx_X9_degreeOf (fo p0.toNatClampNeg) ) (fun r41_2 h31 => ?_)
                    have h31 : r41_2 = DI (fo p0.toNatClampNeg) ∧ r41_2.toInt = DG (fo p0.toNatClampNeg) ∧ -1 ≤ r41_2.toInt ∧ r41_2.toInt ≤ 63 := h31
                    obtain ⟨h31_0, h31_1, h31_2, h31_3⟩ := h31
                    refine ok_le (fun c32 => ?_) (fun c32 => ?_)
                    · refine ok_c (ixo (by omega) (by omega)) ?_
                      try have a33 := FA_at (f := fo) (by assumption) p0.toNatClampNeg
                      refine ok_o (fx_X9_isPrimeNow (fo p0.toNatClampNeg) (by first | omega | assumption | trivial | exact wt_of (by assumption) (by omega))) (fun r60_2 h34 => ?_)
                      have h34 : (r60_2.toInt = 0 ∨ r60_2.toInt = 1) ∧ r60_2 = P9 (fo p0.toNatClampNeg) := h34
                      obtain ⟨h34_0, h34_1⟩ := h34
                      refine ok_eq (fun c35 => ?_) (fun c35 => ?_)
                      · refine ok_s (show ((0 = 0 ∧ c_t_thrown_27_2.toInt = 0) ∨ (0 = 1 ∧ c_t_thrown_27_2.toInt = 1) ∨ (0 = 2 ∧ c_t_thrown_27_2.toInt = 2)) ∧ (0 = 0 → (1 : Int32) = (0 : Int32)) from ?_)
                        first | (exfalso; omega) | (subst_vars; first | (exfalso; omega) | (refine ⟨?_, ?_⟩ <;> (first | assumption | rfl | omega | (intro hx; first | rfl | assumption | (exfalso; omega) | exact Int32.toInt_inj.mp (by omega)) | exact Int32.toInt_inj.mp (by omega) | (rw [uu_a, uu_a]))))
                      · refine ok_s (show ((0 = 0 ∧ c_t_thrown_27_2.toInt = 0) ∨ (0 = 1 ∧ c_t_thrown_27_2.toInt = 1) ∨ (0 = 2 ∧ c_t_thrown_27_2.toInt = 2)) ∧ (0 = 0 → (1 : Int32) = (1 : Int32)) from ?_)
                        first | (exfalso; omega) | (subst_vars; first | (exfalso; omega) | (refine ⟨?_, ?_⟩ <;> (first | assumption | rfl | omega | (intro hx; first | rfl | assumption | (exfalso; omega) | exact Int32.toInt_inj.mp (by omega)) | exact Int32.toInt_inj.mp (by omega) | (rw [uu_a, uu_a]))))
                    · exfalso; omega
                  · exfalso; omega
                · exfalso; omega
        · refine ok_c (ixo (by omega) (by omega)) ?_
          try have a36 := FA_at (f := fo) (by assumption) p0.toNatClampNeg
          refine ok_o (fx_X2_isByRising (fo p0.toNatClampNeg) (by first | omega | assumption | trivial | exact wt_of (by assumption) (by omega))) (fun r49 h37 => ?_)
          have h37 : (r49.toInt = 0 ∨ r49.toInt = 1) ∧ r49 = P9 (fo p0.toNatClampNeg) := h37
          obtain ⟨h37_0, h37_1⟩ := h37
          refine ok_eq (fun c38 => ?_) (fun c38 => ?_)
          · refine ok_s ?_
            show ok (F_X9_isPrime th fo p0 p1) (fun q => ((0 = 0 ∧ q.2.toInt = 0) ∨ (0 = 1 ∧ q.2.toInt = 1) ∨ (0 = 2 ∧ q.2.toInt = 2)) ∧ (0 = 0 → (0 : Int32) = q.1))
            unfold F_X9_isPrime
            refine ok_o (sp_X9_isForm p0 ) (fun r2_3 h39 => ?_)
            have h39 : (r2_3.toInt = 1 ∧ 0 ≤ p0.toInt ∧ p0.toInt ≤ 5) ∨ (r2_3.toInt = 0 ∧ (p0.toInt < 0 ∨ 6 ≤ p0.toInt)) := h39
            refine ok_eq (fun c40 => ?_) (fun c40 => ?_)
            · exfalso; omega
            · first | unfold J_X9_isPrime_13 | skip
              refine ok_lt (fun c41 => ?_) (fun c41 => ?_)
              · exfalso; omega
              · refine ok_le (fun c42 => ?_) (fun c42 => ?_)
                · first | unfold J_X9_isPrime_27 | skip
                  refine ok_o2 (sp_X9_isThrown (0 : Int32) (0 : Int32) ) (fun r27_3 c_t_thrown_27_3 h43 => ?_)
                  have h43 : (r27_3.toInt = 0 ∧ c_t_thrown_27_3.toInt = 0 ∧ (0 : Int32).toInt = 0 ∧ (0 : Int32).toInt = 0) ∨ (r27_3.toInt = 1 ∧ c_t_thrown_27_3.toInt = 1 ∧ (0 : Int32).toInt ≠ 0) ∨ (r27_3.toInt = 1 ∧ c_t_thrown_27_3.toInt = 2 ∧ (0 : Int32).toInt = 0 ∧ (0 : Int32).toInt ≠ 0) := h43
                  refine ok_eq (fun c44 => ?_) (fun c44 => ?_)
                  · refine ok_c (ixo (by omega) (by omega)) ?_
                    try have a45 := FA_at (f := fo) (by assumption) p0.toNatClampNeg
                    refine ok_o (fx_X9_degreeOf (fo p0.toNatClampNeg) ) (fun r41_3 h46 => ?_)
                    have h46 : r41_3 = DI (fo p0.toNatClampNeg) ∧ r41_3.toInt = DG (fo p0.toNatClampNeg) ∧ -1 ≤ r41_3.toInt ∧ r41_3.toInt ≤ 63 := h46
                    obtain ⟨h46_0, h46_1, h46_2, h46_3⟩ := h46
                    refine ok_le (fun c47 => ?_) (fun c47 => ?_)
                    · refine ok_c (ixo (by omega) (by omega)) ?_
                      try have a48 := FA_at (f := fo) (by assumption) p0.toNatClampNeg
                      refine ok_o (fx_X9_isPrimeNow (fo p0.toNatClampNeg) (by first | omega | assumption | trivial | exact wt_of (by assumption) (by omega))) (fun r60_3 h49 => ?_)
                      have h49 : (r60_3.toInt = 0 ∨ r60_3.toInt = 1) ∧ r60_3 = P9 (fo p0.toNatClampNeg) := h49
                      obtain ⟨h49_0, h49_1⟩ := h49
                      refine ok_eq (fun c50 => ?_) (fun c50 => ?_)
                      · refine ok_s (show ((0 = 0 ∧ c_t_thrown_27_3.toInt = 0) ∨ (0 = 1 ∧ c_t_thrown_27_3.toInt = 1) ∨ (0 = 2 ∧ c_t_thrown_27_3.toInt = 2)) ∧ (0 = 0 → (0 : Int32) = (0 : Int32)) from ?_)
                        first | (exfalso; omega) | (subst_vars; first | (exfalso; omega) | (refine ⟨?_, ?_⟩ <;> (first | assumption | rfl | omega | (intro hx; first | rfl | assumption | (exfalso; omega) | exact Int32.toInt_inj.mp (by omega)) | exact Int32.toInt_inj.mp (by omega) | (rw [uu_a, uu_a]))))
                      · refine ok_s (show ((0 = 0 ∧ c_t_thrown_27_3.toInt = 0) ∨ (0 = 1 ∧ c_t_thrown_27_3.toInt = 1) ∨ (0 = 2 ∧ c_t_thrown_27_3.toInt = 2)) ∧ (0 = 0 → (0 : Int32) = (1 : Int32)) from ?_)
                        first | (exfalso; omega) | (subst_vars; first | (exfalso; omega) | (refine ⟨?_, ?_⟩ <;> (first | assumption | rfl | omega | (intro hx; first | rfl | assumption | (exfalso; omega) | exact Int32.toInt_inj.mp (by omega)) | exact Int32.toInt_inj.mp (by omega) | (rw [uu_a, uu_a]))))
                    · exfalso; omega
                  · exfalso; omega
                · exfalso; omega
          · refine ok_s ?_
            show ok (F_X9_isPrime th fo p0 p1) (fun q => ((0 = 0 ∧ q.2.toInt = 0) ∨ (0 = 1 ∧ q.2.toInt = 1) ∨ (0 = 2 ∧ q.2.toInt = 2)) ∧ (0 = 0 → (1 : Int32) = q.1))
            unfold F_X9_isPrime
            refine ok_o (sp_X9_isForm p0 ) (fun r2_4 h51 => ?_)
            have h51 : (r2_4.toInt = 1 ∧ 0 ≤ p0.toInt ∧ p0.toInt ≤ 5) ∨ (r2_4.toInt = 0 ∧ (p0.toInt < 0 ∨ 6 ≤ p0.toInt)) := h51
            refine ok_eq (fun c52 => ?_) (fun c52 => ?_)
            · exfalso; omega
            · first | unfold J_X9_isPrime_13 | skip
              refine ok_lt (fun c53 => ?_) (fun c53 => ?_)
              · exfalso; omega
              · refine ok_le (fun c54 => ?_) (fun c54 => ?_)
                · first | unfold J_X9_isPrime_27 | skip
                  refine ok_o2 (sp_X9_isThrown (0 : Int32) (0 : Int32) ) (fun r27_4 c_t_thrown_27_4 h55 => ?_)
                  have h55 : (r27_4.toInt = 0 ∧ c_t_thrown_27_4.toInt = 0 ∧ (0 : Int32).toInt = 0 ∧ (0 : Int32).toInt = 0) ∨ (r27_4.toInt = 1 ∧ c_t_thrown_27_4.toInt = 1 ∧ (0 : Int32).toInt ≠ 0) ∨ (r27_4.toInt = 1 ∧ c_t_thrown_27_4.toInt = 2 ∧ (0 : Int32).toInt = 0 ∧ (0 : Int32).toInt ≠ 0) := h55
                  refine ok_eq (fun c56 => ?_) (fun c56 => ?_)
                  · refine ok_c (ixo (by omega) (by omega)) ?_
                    try have a57 := FA_at (f := fo) (by assumption) p0.toNatClampNeg
                    refine ok_o (fx_X9_degreeOf (fo p0.toNatClampNeg) ) (fun r41_4 h58 => ?_)
                    have h58 : r41_4 = DI (fo p0.toNatClampNeg) ∧ r41_4.toInt = DG (fo p0.toNatClampNeg) ∧ -1 ≤ r41_4.toInt ∧ r41_4.toInt ≤ 63 := h58
                    obtain ⟨h58_0, h58_1, h58_2, h58_3⟩ := h58
                    refine ok_le (fun c59 => ?_) (fun c59 => ?_)
                    · refine ok_c (ixo (by omega) (by omega)) ?_
                      try have a60 := FA_at (f := fo) (by assumption) p0.toNatClampNeg
                      refine ok_o (fx_X9_isPrimeNow (fo p0.toNatClampNeg) (by first | omega | assumption | trivial | exact wt_of (by assumption) (by omega))) (fun r60_4 h61 => ?_)
                      have h61 : (r60_4.toInt = 0 ∨ r60_4.toInt = 1) ∧ r60_4 = P9 (fo p0.toNatClampNeg) := h61
                      obtain ⟨h61_0, h61_1⟩ := h61
                      refine ok_eq (fun c62 => ?_) (fun c62 => ?_)
                      · refine ok_s (show ((0 = 0 ∧ c_t_thrown_27_4.toInt = 0) ∨ (0 = 1 ∧ c_t_thrown_27_4.toInt = 1) ∨ (0 = 2 ∧ c_t_thrown_27_4.toInt = 2)) ∧ (0 = 0 → (1 : Int32) = (0 : Int32)) from ?_)
                        first | (exfalso; omega) | (subst_vars; first | (exfalso; omega) | (refine ⟨?_, ?_⟩ <;> (first | assumption | rfl | omega | (intro hx; first | rfl | assumption | (exfalso; omega) | exact Int32.toInt_inj.mp (by omega)) | exact Int32.toInt_inj.mp (by omega) | (rw [uu_a, uu_a]))))
                      · refine ok_s (show ((0 = 0 ∧ c_t_thrown_27_4.toInt = 0) ∨ (0 = 1 ∧ c_t_thrown_27_4.toInt = 1) ∨ (0 = 2 ∧ c_t_thrown_27_4.toInt = 2)) ∧ (0 = 0 → (1 : Int32) = (1 : Int32)) from ?_)
                        first | (exfalso; omega) | (subst_vars; first | (exfalso; omega) | (refine ⟨?_, ?_⟩ <;> (first | assumption | rfl | omega | (intro hx; first | rfl | assumption | (exfalso; omega) | exact Int32.toInt_inj.mp (by omega)) | exact Int32.toInt_inj.mp (by omega) | (rw [uu_a, uu_a]))))
                    · exfalso; omega
                  · exfalso; omega
                · exfalso; omega
      · refine ok_s ?_
        show ok (F_X9_isPrime th fo p0 p1) (fun q => ((0 = 0 ∧ q.2.toInt = 0) ∨ (0 = 1 ∧ q.2.toInt = 1) ∨ (0 = 2 ∧ q.2.toInt = 2)) ∧ (0 = 0 → (-9 : Int32) = q.1))
        unfold F_X9_isPrime
        refine ok_o (sp_X9_isForm p0 ) (fun r2_5 h63 => ?_)
        have h63 : (r2_5.toInt = 1 ∧ 0 ≤ p0.toInt ∧ p0.toInt ≤ 5) ∨ (r2_5.toInt = 0 ∧ (p0.toInt < 0 ∨ 6 ≤ p0.toInt)) := h63
        refine ok_eq (fun c64 => ?_) (fun c64 => ?_)
        · exfalso; omega
        · first | unfold J_X9_isPrime_13 | skip
          refine ok_lt (fun c65 => ?_) (fun c65 => ?_)
          · exfalso; omega
          · refine ok_le (fun c66 => ?_) (fun c66 => ?_)
            · first | unfold J_X9_isPrime_27 | skip
              refine ok_o2 (sp_X9_isThrown (0 : Int32) (0 : Int32) ) (fun r27_5 c_t_thrown_27_5 h67 => ?_)
              have h67 : (r27_5.toInt = 0 ∧ c_t_thrown_27_5.toInt = 0 ∧ (0 : Int32).toInt = 0 ∧ (0 : Int32).toInt = 0) ∨ (r27_5.toInt = 1 ∧ c_t_thrown_27_5.toInt = 1 ∧ (0 : Int32).toInt ≠ 0) ∨ (r27_5.toInt = 1 ∧ c_t_thrown_27_5.toInt = 2 ∧ (0 : Int32).toInt = 0 ∧ (0 : Int32).toInt ≠ 0) := h67
              refine ok_eq (fun c68 => ?_) (fun c68 => ?_)
              · refine ok_c (ixo (by omega) (by omega)) ?_
                try have a69 := FA_at (f := fo) (by assumption) p0.toNatClampNeg
                refine ok_o (fx_X9_degreeOf (fo p0.toNatClampNeg) ) (fun r41_5 h70 => ?_)
                have h70 : r41_5 = DI (fo p0.toNatClampNeg) ∧ r41_5.toInt = DG (fo p0.toNatClampNeg) ∧ -1 ≤ r41_5.toInt ∧ r41_5.toInt ≤ 63 := h70
                obtain ⟨h70_0, h70_1, h70_2, h70_3⟩ := h70
                refine ok_le (fun c71 => ?_) (fun c71 => ?_)
                · exfalso; omega
                · refine ok_s (show ((0 = 0 ∧ c_t_thrown_27_5.toInt = 0) ∨ (0 = 1 ∧ c_t_thrown_27_5.toInt = 1) ∨ (0 = 2 ∧ c_t_thrown_27_5.toInt = 2)) ∧ (0 = 0 → (-9 : Int32) = (-9 : Int32)) from ?_)
                  first | (exfalso; omega) | (subst_vars; first | (exfalso; omega) | (refine ⟨?_, ?_⟩ <;> (first | assumption | rfl | omega | (intro hx; first | rfl | assumption | (exfalso; omega) | exact Int32.toInt_inj.mp (by omega)) | exact Int32.toInt_inj.mp (by omega) | (rw [uu_a, uu_a]))))
              · exfalso; omega
            · exfalso; omega
    · refine ok_s ?_
      show ok (F_X9_isPrime th fo p0 p1) (fun q => ((xc7 = 0 ∧ q.2.toInt = 0) ∨ (xc7 = 1 ∧ q.2.toInt = 1) ∨ (xc7 = 2 ∧ q.2.toInt = 2)) ∧ (xc7 = 0 → (0 : Int32) = q.1))
      unfold F_X9_isPrime
      refine ok_o (sp_X9_isForm p0 ) (fun r2_6 h72 => ?_)
      have h72 : (r2_6.toInt = 1 ∧ 0 ≤ p0.toInt ∧ p0.toInt ≤ 5) ∨ (r2_6.toInt = 0 ∧ (p0.toInt < 0 ∨ 6 ≤ p0.toInt)) := h72
      refine ok_eq (fun c73 => ?_) (fun c73 => ?_)
      · exfalso; omega
      · first | unfold J_X9_isPrime_13 | skip
        refine ok_lt (fun c74 => ?_) (fun c74 => ?_)
        · first | unfold J_X9_isPrime_22 | skip
          first | unfold J_X9_isPrime_27 | skip
          refine ok_o2 (sp_X9_isThrown (0 : Int32) (1 : Int32) ) (fun r27_6 c_t_thrown_27_6 h75 => ?_)
          have h75 : (r27_6.toInt = 0 ∧ c_t_thrown_27_6.toInt = 0 ∧ (0 : Int32).toInt = 0 ∧ (1 : Int32).toInt = 0) ∨ (r27_6.toInt = 1 ∧ c_t_thrown_27_6.toInt = 1 ∧ (0 : Int32).toInt ≠ 0) ∨ (r27_6.toInt = 1 ∧ c_t_thrown_27_6.toInt = 2 ∧ (0 : Int32).toInt = 0 ∧ (1 : Int32).toInt ≠ 0) := h75
          refine ok_eq (fun c76 => ?_) (fun c76 => ?_)
          · exfalso; omega
          · refine ok_s (show ((xc7 = 0 ∧ c_t_thrown_27_6.toInt = 0) ∨ (xc7 = 1 ∧ c_t_thrown_27_6.toInt = 1) ∨ (xc7 = 2 ∧ c_t_thrown_27_6.toInt = 2)) ∧ (xc7 = 0 → (0 : Int32) = (0 : Int32)) from ?_)
            first | (exfalso; omega) | (subst_vars; first | (exfalso; omega) | (refine ⟨?_, ?_⟩ <;> (first | assumption | rfl | omega | (intro hx; first | rfl | assumption | (exfalso; omega) | exact Int32.toInt_inj.mp (by omega)) | exact Int32.toInt_inj.mp (by omega) | (rw [uu_a, uu_a]))))
        · refine ok_le (fun c77 => ?_) (fun c77 => ?_)
          · exfalso; omega
          · first | unfold J_X9_isPrime_22 | skip
            first | unfold J_X9_isPrime_27 | skip
            refine ok_o2 (sp_X9_isThrown (0 : Int32) (1 : Int32) ) (fun r27_7 c_t_thrown_27_7 h78 => ?_)
            have h78 : (r27_7.toInt = 0 ∧ c_t_thrown_27_7.toInt = 0 ∧ (0 : Int32).toInt = 0 ∧ (1 : Int32).toInt = 0) ∨ (r27_7.toInt = 1 ∧ c_t_thrown_27_7.toInt = 1 ∧ (0 : Int32).toInt ≠ 0) ∨ (r27_7.toInt = 1 ∧ c_t_thrown_27_7.toInt = 2 ∧ (0 : Int32).toInt = 0 ∧ (1 : Int32).toInt ≠ 0) := h78
            refine ok_eq (fun c79 => ?_) (fun c79 => ?_)
            · exfalso; omega
            · refine ok_s (show ((xc7 = 0 ∧ c_t_thrown_27_7.toInt = 0) ∨ (xc7 = 1 ∧ c_t_thrown_27_7.toInt = 1) ∨ (xc7 = 2 ∧ c_t_thrown_27_7.toInt = 2)) ∧ (xc7 = 0 → (0 : Int32) = (0 : Int32)) from ?_)
              first | (exfalso; omega) | (subst_vars; first | (exfalso; omega) | (refine ⟨?_, ?_⟩ <;> (first | assumption | rfl | omega | (intro hx; first | rfl | assumption | (exfalso; omega) | exact Int32.toInt_inj.mp (by omega)) | exact Int32.toInt_inj.mp (by omega) | (rw [uu_a, uu_a]))))
  · refine ok_s ?_
    show ok (F_X9_isPrime th fo p0 p1) (fun q => ((xc1 = 0 ∧ q.2.toInt = 0) ∨ (xc1 = 1 ∧ q.2.toInt = 1) ∨ (xc1 = 2 ∧ q.2.toInt = 2)) ∧ (xc1 = 0 → (0 : Int32) = q.1))
    unfold F_X9_isPrime
    refine ok_o (sp_X9_isForm p0 ) (fun r2_7 h80 => ?_)
    have h80 : (r2_7.toInt = 1 ∧ 0 ≤ p0.toInt ∧ p0.toInt ≤ 5) ∨ (r2_7.toInt = 0 ∧ (p0.toInt < 0 ∨ 6 ≤ p0.toInt)) := h80
    refine ok_eq (fun c81 => ?_) (fun c81 => ?_)
    · first | unfold J_X9_isPrime_13 | skip
      refine ok_lt (fun c82 => ?_) (fun c82 => ?_)
      · first | unfold J_X9_isPrime_22 | skip
        first | unfold J_X9_isPrime_27 | skip
        refine ok_o2 (sp_X9_isThrown (1 : Int32) (1 : Int32) ) (fun r27_8 c_t_thrown_27_8 h83 => ?_)
        have h83 : (r27_8.toInt = 0 ∧ c_t_thrown_27_8.toInt = 0 ∧ (1 : Int32).toInt = 0 ∧ (1 : Int32).toInt = 0) ∨ (r27_8.toInt = 1 ∧ c_t_thrown_27_8.toInt = 1 ∧ (1 : Int32).toInt ≠ 0) ∨ (r27_8.toInt = 1 ∧ c_t_thrown_27_8.toInt = 2 ∧ (1 : Int32).toInt = 0 ∧ (1 : Int32).toInt ≠ 0) := h83
        refine ok_eq (fun c84 => ?_) (fun c84 => ?_)
        · exfalso; omega
        · refine ok_s (show ((xc1 = 0 ∧ c_t_thrown_27_8.toInt = 0) ∨ (xc1 = 1 ∧ c_t_thrown_27_8.toInt = 1) ∨ (xc1 = 2 ∧ c_t_thrown_27_8.toInt = 2)) ∧ (xc1 = 0 → (0 : Int32) = (0 : Int32)) from ?_)
          first | (exfalso; omega) | (subst_vars; first | (exfalso; omega) | (refine ⟨?_, ?_⟩ <;> (first | assumption | rfl | omega | (intro hx; first | rfl | assumption | (exfalso; omega) | exact Int32.toInt_inj.mp (by omega)) | exact Int32.toInt_inj.mp (by omega) | (rw [uu_a, uu_a]))))
      · refine ok_le (fun c85 => ?_) (fun c85 => ?_)
        · first | unfold J_X9_isPrime_27 | skip
          refine ok_o2 (sp_X9_isThrown (1 : Int32) (0 : Int32) ) (fun r27_9 c_t_thrown_27_9 h86 => ?_)
          have h86 : (r27_9.toInt = 0 ∧ c_t_thrown_27_9.toInt = 0 ∧ (1 : Int32).toInt = 0 ∧ (0 : Int32).toInt = 0) ∨ (r27_9.toInt = 1 ∧ c_t_thrown_27_9.toInt = 1 ∧ (1 : Int32).toInt ≠ 0) ∨ (r27_9.toInt = 1 ∧ c_t_thrown_27_9.toInt = 2 ∧ (1 : Int32).toInt = 0 ∧ (0 : Int32).toInt ≠ 0) := h86
          refine ok_eq (fun c87 => ?_) (fun c87 => ?_)
          · exfalso; omega
          · refine ok_s (show ((xc1 = 0 ∧ c_t_thrown_27_9.toInt = 0) ∨ (xc1 = 1 ∧ c_t_thrown_27_9.toInt = 1) ∨ (xc1 = 2 ∧ c_t_thrown_27_9.toInt = 2)) ∧ (xc1 = 0 → (0 : Int32) = (0 : Int32)) from ?_)
            first | (exfalso; omega) | (subst_vars; first | (exfalso; omega) | (refine ⟨?_, ?_⟩ <;> (first | assumption | rfl | omega | (intro hx; first | rfl | assumption | (exfalso; omega) | exact Int32.toInt_inj.mp (by omega)) | exact Int32.toInt_inj.mp (by omega) | (rw [uu_a, uu_a]))))
        · first | unfold J_X9_isPrime_22 | skip
          first | unfold J_X9_isPrime_27 | skip
          refine ok_o2 (sp_X9_isThrown (1 : Int32) (1 : Int32) ) (fun r27_10 c_t_thrown_27_10 h88 => ?_)
          have h88 : (r27_10.toInt = 0 ∧ c_t_thrown_27_10.toInt = 0 ∧ (1 : Int32).toInt = 0 ∧ (1 : Int32).toInt = 0) ∨ (r27_10.toInt = 1 ∧ c_t_thrown_27_10.toInt = 1 ∧ (1 : Int32).toInt ≠ 0) ∨ (r27_10.toInt = 1 ∧ c_t_thrown_27_10.toInt = 2 ∧ (1 : Int32).toInt = 0 ∧ (1 : Int32).toInt ≠ 0) := h88
          refine ok_eq (fun c89 => ?_) (fun c89 => ?_)
          · exfalso; omega
          · refine ok_s (show ((xc1 = 0 ∧ c_t_thrown_27_10.toInt = 0) ∨ (xc1 = 1 ∧ c_t_thrown_27_10.toInt = 1) ∨ (xc1 = 2 ∧ c_t_thrown_27_10.toInt = 2)) ∧ (xc1 = 0 → (0 : Int32) = (0 : Int32)) from ?_)
            first | (exfalso; omega) | (subst_vars; first | (exfalso; omega) | (refine ⟨?_, ?_⟩ <;> (first | assumption | rfl | omega | (intro hx; first | rfl | assumption | (exfalso; omega) | exact Int32.toInt_inj.mp (by omega)) | exact Int32.toInt_inj.mp (by omega) | (rw [uu_a, uu_a]))))
    · exfalso; omega
