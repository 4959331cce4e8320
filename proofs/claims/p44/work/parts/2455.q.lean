set_option maxHeartbeats 1000000 in
theorem s7_period (fo : Nat → Int64) (th : Int32) (c_t_found_size : Int32) (f_t_found_held : Nat → Int64) (p0 : Int32) (p1 : Int32) (hp0 : FA fo) (hp1 : 0 ≤ c_t_found_size.toInt) (hp2 : c_t_found_size.toInt ≤ 12) : ok (F_X7_period fo c_t_found_size f_t_found_held p0 p1) (fun r => ok (F_X9_period th fo p0 p1) (fun q => ((r.1 = 0 ∧ q.2.toInt = 0) ∨ (r.1 = 1 ∧ q.2.toInt = 1) ∨ (r.1 = 2 ∧ q.2.toInt = 2)) ∧ (r.1 = 0 → r.2.1 = q.1) ∧ 0 ≤ r.2.2.1.toInt ∧ r.2.2.1.toInt ≤ 12)) := by
  have lm932 : (-9 : Int32).toInt = -9 := by decide
  have l032 : (0 : Int32).toInt = 0 := by decide
  have l132 : (1 : Int32).toInt = 1 := by decide
  have l232 : (2 : Int32).toInt = 2 := by decide
  unfold F_X7_period
  refine ok_o (fx_X7_testForm p0 ) (fun xc1 h1 => ?_)
  have h1 : (xc1 = 0 ∧ 0 ≤ p0.toInt ∧ p0.toInt ≤ 5) ∨ (xc1 = 1 ∧ (p0.toInt < 0 ∨ 5 < p0.toInt)) := h1
  refine ok_i (fun c2 => ?_) (fun c2 => ?_)
  · refine ok_o (sp_X7_testRange p1 (0 : Int32) (2 : Int32) ) (fun xc7 h3 => ?_)
    have h3 : (xc7 = 0 ∧ (0 : Int32).toInt ≤ p1.toInt ∧ p1.toInt ≤ (2 : Int32).toInt) ∨ (xc7 = 2 ∧ (p1.toInt < (0 : Int32).toInt ∨ (2 : Int32).toInt < p1.toInt)) := h3
    refine ok_i (fun c4 => ?_) (fun c4 => ?_)
    · refine ok_c (ixo (by omega) (by omega)) ?_
      try have a5 := FA_at (f := fo) (by assumption) p0.toNatClampNeg
      refine ok_o (fx_X6_isWheel (fo p0.toNatClampNeg) (by first | omega | assumption | trivial | exact wt_of (by assumption) (by omega))) (fun r16 h6 => ?_)
      have h6 : (r16.toInt = 0 ∨ r16.toInt = 1) ∧ (r16.toInt ≠ 0 → WT (fo p0.toNatClampNeg)) ∧ r16 = WB (fo p0.toNatClampNeg) := h6
      obtain ⟨h6_0, h6_1, h6_2⟩ := h6
      refine ok_eq (fun c7 => ?_) (fun c7 => ?_)
      · refine ok_s ?_
        show ok (F_X9_period th fo p0 p1) (fun q => ((0 = 0 ∧ q.2.toInt = 0) ∨ (0 = 1 ∧ q.2.toInt = 1) ∨ (0 = 2 ∧ q.2.toInt = 2)) ∧ (0 = 0 → (-9 : Int32) = q.1) ∧ 0 ≤ c_t_found_size.toInt ∧ c_t_found_size.toInt ≤ 12)
        unfold F_X9_period
        refine ok_o (sp_X9_isForm p0 ) (fun r2 h8 => ?_)
        have h8 : (r2.toInt = 1 ∧ 0 ≤ p0.toInt ∧ p0.toInt ≤ 5) ∨ (r2.toInt = 0 ∧ (p0.toInt < 0 ∨ 6 ≤ p0.toInt)) := h8
        refine ok_eq (fun c9 => ?_) (fun c9 => ?_)
        · exfalso; omega
        · first | unfold J_X9_period_13 | skip
          refine ok_lt (fun c10 => ?_) (fun c10 => ?_)
          · exfalso; omega
          · refine ok_le (fun c11 => ?_) (fun c11 => ?_)
            · first | unfold J_X9_period_27 | skip
              refine ok_o2 (sp_X9_isThrown (0 : Int32) (0 : Int32) ) (fun r27 c_t_thrown_27 h12 => ?_)
              have h12 : (r27.toInt = 0 ∧ c_t_thrown_27.toInt = 0 ∧ (0 : Int32).toInt = 0 ∧ (0 : Int32).toInt = 0) ∨ (r27.toInt = 1 ∧ c_t_thrown_27.toInt = 1 ∧ (0 : Int32).toInt ≠ 0) ∨ (r27.toInt = 1 ∧ c_t_thrown_27.toInt = 2 ∧ (0 : Int32).toInt = 0 ∧ (0 : Int32).toInt ≠ 0) := h12
              refine ok_eq (fun c13 => ?_) (fun c13 => ?_)
              · refine ok_c (ixo (by omega) (by omega)) ?_
                try have a14 := FA_at (f := fo) (by assumption) p0.toNatClampNeg
                refine ok_o (fx_X9_isWheel (fo p0.toNatClampNeg) ) (fun r41 h15 => ?_)
                have h15 : (r41.toInt = 0 ∨ r41.toInt = 1) ∧ (r41.toInt ≠ 0 → WT (fo p0.toNatClampNeg)) ∧ r41 = WB (fo p0.toNatClampNeg) := h15
                obtain ⟨h15_0, h15_1, h15_2⟩ := h15
                refine ok_eq (fun c16 => ?_) (fun c16 => ?_)
                · refine ok_s (show ((0 = 0 ∧ c_t_thrown_27.toInt = 0) ∨ (0 = 1 ∧ c_t_thrown_27.toInt = 1) ∨ (0 = 2 ∧ c_t_thrown_27.toInt = 2)) ∧ (0 = 0 → (-9 : Int32) = (-9 : Int32)) ∧ 0 ≤ c_t_found_size.toInt ∧ c_t_found_size.toInt ≤ 12 from ?_)
                  first | (exfalso; omega) | (subst_vars; first | (exfalso; omega) | (refine ⟨?_, ?_, ?_, ?_⟩ <;> (first | assumption | rfl | omega | (intro hx; first | rfl | assumption | (exfalso; omega) | exact Int32.toInt_inj.mp (by omega)) | exact Int32.toInt_inj.mp (by omega) | (rw [uu_a, uu_a]))))
                · refine ok_c (ixo (by omega) (by omega)) ?_
                  try have a17 := FA_at (f := fo) (by assumption) p0.toNatClampNeg
                  refine ok_o (fx_X9_periodOf (fo p0.toNatClampNeg) (by first | omega | assumption | trivial | exact wt_of (by assumption) (by omega))) (fun r53 h18 => ?_)
                  have h18 : r53 = PE (fo p0.toNatClampNeg) := h18
                  refine ok_s (show ((0 = 0 ∧ c_t_thrown_27.toInt = 0) ∨ (0 = 1 ∧ c_t_thrown_27.toInt = 1) ∨ (0 = 2 ∧ c_t_thrown_27.toInt = 2)) ∧ (0 = 0 → (-9 : Int32) = r53) ∧ 0 ≤ c_t_found_size.toInt ∧ c_t_found_size.toInt ≤ 12 from ?_)
                  first | (exfalso; omega) | (subst_vars; first | (exfalso; omega) | (refine ⟨?_, ?_, ?_, ?_⟩ <;> (first | assumption | rfl | omega | (intro hx; first | rfl | assumption | (exfalso; omega) | exact Int32.toInt_inj.mp (by omega)) | exact Int32.toInt_inj.mp (by omega) | (rw [uu_a, uu_a]))))
              · exfalso; omega
            · exfalso; omega
      · refine ok_eq (fun c19 => ?_) (fun c19 => ?_)
        · refine ok_c (ixo (by omega) (by omega)) ?_
          try have a20 := FA_at (f := fo) (by assumption) p0.toNatClampNeg
          refine ok_o (fx_X6_periodByMultiplying (fo p0.toNatClampNeg) (by first | omega | assumption | trivial | exact wt_of (by assumption) (by omega))) (fun r35 h21 => ?_)
          have h21 : r35 = PE (fo p0.toNatClampNeg) := h21
          refine ok_s ?_
          show ok (F_X9_period th fo p0 p1) (fun q => ((0 = 0 ∧ q.2.toInt = 0) ∨ (0 = 1 ∧ q.2.toInt = 1) ∨ (0 = 2 ∧ q.2.toInt = 2)) ∧ (0 = 0 → r35 = q.1) ∧ 0 ≤ c_t_found_size.toInt ∧ c_t_found_size.toInt ≤ 12)
          unfold F_X9_period
          refine ok_o (sp_X9_isForm p0 ) (fun r2_2 h22 => ?_)
          have h22 : (r2_2.toInt = 1 ∧ 0 ≤ p0.toInt ∧ p0.toInt ≤ 5) ∨ (r2_2.toInt = 0 ∧ (p0.toInt < 0 ∨ 6 ≤ p0.toInt)) := h22
          refine ok_eq (fun c23 => ?_) (fun c23 => ?_)
          · exfalso; omega
          · first | unfold J_X9_period_13 | skip
            refine ok_lt (fun c24 => ?_) (fun c24 => ?_)
            · exfalso; omega
            · refine ok_le (fun c25 => ?_) (fun c25 => ?_)
              · first | unfold J_X9_period_27 | skip
                refine ok_o2 (sp_X9_isThrown (0 : Int32) (0 : Int32) ) (fun r27_2 c_t_thrown_27_2 h26 => ?_)
                have h26 : (r27_2.toInt = 0 ∧ c_t_thrown_27_2.toInt = 0 ∧ (0 : Int32).toInt = 0 ∧ (0 : Int32).toInt = 0) ∨ (r27_2.toInt = 1 ∧ c_t_thrown_27_2.toInt = 1 ∧ (0 : Int32).toInt ≠ 0) ∨ (r27_2.toInt = 1 ∧ c_t_thrown_27_2.toInt = 2 ∧ (0 : Int32).toInt = 0 ∧ (0 : Int32).toInt ≠ 0) := h26
                refine ok_eq (fun c27 => ?_) (fun c27 => ?_)
                · refine ok_c (ixo (by omega) (by omega)) ?_
                  try have a28 := FA_at (f := fo) (by assumption) p0.toNatClampNeg
                  refine ok_o (fx_X9_isWheel (fo p0.toNatClampNeg) ) (fun r41_2 h29 => ?_)
                  have h29 : (r41_2.toInt = 0 ∨ r41_2.toInt = 1) ∧ (r41_2.toInt ≠ 0 → WT (fo p0.toNatClampNeg)) ∧ r41_2 = WB (fo p0.toNatClampNeg) := h29
                  obtain ⟨h29_0, h29_1, h29_2⟩ := h29
                  refine ok_eq (fun c30 => ?_) (fun c30 => ?_)
                  · refine ok_s (show ((0 = 0 ∧ c_t_thrown_27_2.toInt = 0) ∨ (0 = 1 ∧ c_t_thrown_27_2.toInt = 1) ∨ (0 = 2 ∧ c_t_thrown_27_2.toInt = 2)) ∧ (0 = 0 → r35 = (-9 : Int32)) ∧ 0 ≤ c_t_found_size.toInt ∧ c_t_found_size.toInt ≤ 12 from ?_)
                    first | (exfalso; omega) | (subst_vars; first | (exfalso; omega) | (refine ⟨?_, ?_, ?_, ?_⟩ <;> (first | assumption | rfl | omega | (intro hx; first | rfl | assumption | (exfalso; omega) | exact Int32.toInt_inj.mp (by omega)) | exact Int32.toInt_inj.mp (by omega) | (rw [uu_a, uu_a]))))
                  · refine ok_c (ixo (by omega) (by omega)) ?_
                    try have a31 := FA_at (f := fo) (by assumption) p0.toNatClampNeg
                    refine ok_o (fx_X9_periodOf (fo p0.toNatClampNeg) (by first | omega | assumption | trivial | exact wt_of (by assumption) (by omega))) (fun r53_2 h32 => ?_)
                    have h32 : r53_2 = PE (fo p0.toNatClampNeg) := h32
                    refine ok_s (show ((0 = 0 ∧ c_t_thrown_27_2.toInt = 0) ∨ (0 = 1 ∧ c_t_thrown_27_2.toInt = 1) ∨ (0 = 2 ∧ c_t_thrown_27_2.toInt = 2)) ∧ (0 = 0 → r35 = r53_2) ∧ 0 ≤ c_t_found_size.toInt ∧ c_t_found_size.toInt ≤ 12 from ?_)
                    first | (exfalso; omega) | (subst_vars; first | (exfalso; omega) | (refine ⟨?_, ?_, ?_, ?_⟩ <;> (first | assumption | rfl | omega | (intro hx; first | rfl | assumption | (exfalso; omega) | exact Int32.toInt_inj.mp (by omega)) | exact Int32.toInt_inj.mp (by omega) | (rw [uu_a, uu_a]))))
                · exfalso; omega
              · exfalso; omega
        · refine ok_eq (fun c33 => ?_) (fun c33 => ?_)
          · refine ok_c (ixo (by omega) (by omega)) ?_
            try have a34 := FA_at (f := fo) (by assumption) p0.toNatClampNeg
            refine ok_o (fx_X6_periodBySteps (fo p0.toNatClampNeg) (by first | omega | assumption | trivial | exact wt_of (by assumption) (by omega))) (fun r50 h35 => ?_)
            have h35 : r50 = PE (fo p0.toNatClampNeg) := h35
            refine ok_s ?_
            show ok (F_X9_period th fo p0 p1) (fun q => ((0 = 0 ∧ q.2.toInt = 0) ∨ (0 = 1 ∧ q.2.toInt = 1) ∨ (0 = 2 ∧ q.2.toInt = 2)) ∧ (0 = 0 → r50 = q.1) ∧ 0 ≤ c_t_found_size.toInt ∧ c_t_found_size.toInt ≤ 12)
            unfold F_X9_period
            refine ok_o (sp_X9_isForm p0 ) (fun r2_3 h36 => ?_)
            have h36 : (r2_3.toInt = 1 ∧ 0 ≤ p0.toInt ∧ p0.toInt ≤ 5) ∨ (r2_3.toInt = 0 ∧ (p0.toInt < 0 ∨ 6 ≤ p0.toInt)) := h36
            refine ok_eq (fun c37 => ?_) (fun c37 => ?_)
            · exfalso; omega
            · first | unfold J_X9_period_13 | skip
              refine ok_lt (fun c38 => ?_) (fun c38 => ?_)
              · exfalso; omega
              · refine ok_le (fun c39 => ?_) (fun c39 => ?_)
                · first | unfold J_X9_period_27 | skip
                  refine ok_o2 (sp_X9_isThrown (0 : Int32) (0 : Int32) ) (fun r27_3 c_t_thrown_27_3 h40 => ?_)
                  have h40 : (r27_3.toInt = 0 ∧ c_t_thrown_27_3.toInt = 0 ∧ (0 : Int32).toInt = 0 ∧ (0 : Int32).toInt = 0) ∨ (r27_3.toInt = 1 ∧ c_t_thrown_27_3.toInt = 1 ∧ (0 : Int32).toInt ≠ 0) ∨ (r27_3.toInt = 1 ∧ c_t_thrown_27_3.toInt = 2 ∧ (0 : Int32).toInt = 0 ∧ (0 : Int32).toInt ≠ 0) := h40
                  refine ok_eq (fun c41 => ?_) (fun c41 => ?_)
                  · refine ok_c (ixo (by omega) (by omega)) ?_
                    try have a42 := FA_at (f := fo) (by assumption) p0.toNatClampNeg
                    refine ok_o (fx_X9_isWheel (fo p0.toNatClampNeg) ) (fun r41_3 h43 => ?_)
                    have h43 : (r41_3.toInt = 0 ∨ r41_3.toInt = 1) ∧ (r41_3.toInt ≠ 0 → WT (fo p0.toNatClampNeg)) ∧ r41_3 = WB (fo p0.toNatClampNeg) := h43
                    obtain ⟨h43_0, h43_1, h43_2⟩ := h43
                    refine ok_eq (fun c44 => ?_) (fun c44 => ?_)
                    · refine ok_s (show ((0 = 0 ∧ c_t_thrown_27_3.toInt = 0) ∨ (0 = 1 ∧ c_t_thrown_27_3.toInt = 1) ∨ (0 = 2 ∧ c_t_thrown_27_3.toInt = 2)) ∧ (0 = 0 → r50 = (-9 : Int32)) ∧ 0 ≤ c_t_found_size.toInt ∧ c_t_found_size.toInt ≤ 12 from ?_)
                      first | (exfalso; omega) | (subst_vars; first | (exfalso; omega) | (refine ⟨?_, ?_, ?_, ?_⟩ <;> (first | assumption | rfl | omega | (intro hx; first | rfl | assumption | (exfalso; omega) | exact Int32.toInt_inj.mp (by omega)) | exact Int32.toInt_inj.mp (by omega) | (rw [uu_a, uu_a]))))
                    · refine ok_c (ixo (by omega) (by omega)) ?_
                      try have a45 := FA_at (f := fo) (by assumption) p0.toNatClampNeg
                      refine ok_o (fx_X9_periodOf (fo p0.toNatClampNeg) (by first | omega | assumption | trivial | exact wt_of (by assumption) (by omega))) (fun r53_3 h46 => ?_)
                      have h46 : r53_3 = PE (fo p0.toNatClampNeg) := h46
                      refine ok_s (show ((0 = 0 ∧ c_t_thrown_27_3.toInt = 0) ∨ (0 = 1 ∧ c_t_thrown_27_3.toInt = 1) ∨ (0 = 2 ∧ c_t_thrown_27_3.toInt = 2)) ∧ (0 = 0 → r50 = r53_3) ∧ 0 ≤ c_t_found_size.toInt ∧ c_t_found_size.toInt ≤ 12 from ?_)
                      first | (exfalso; omega) | (subst_vars; first | (exfalso; omega) | (refine ⟨?_, ?_, ?_, ?_⟩ <;> (first | assumption | rfl | omega | (intro hx; first | rfl | assumption | (exfalso; omega) | exact Int32.toInt_inj.mp (by omega)) | exact Int32.toInt_inj.mp (by omega) | (rw [uu_a, uu_a]))))
                  · exfalso; omega
                · exfalso; omega
          · refine ok_c (ixo (by omega) (by omega)) ?_
            try have a47 := FA_at (f := fo) (by assumption) p0.toNatClampNeg
            refine ok_o3 (fx_X7_periodByFactors f_t_found_held (fo p0.toNatClampNeg) (by first | omega | assumption | trivial | exact wt_of (by assumption) (by omega))) (fun r63 c_t_found_size_63 f_t_found_held_63 h48 => ?_)
            have h48 : r63 = PE (fo p0.toNatClampNeg) ∧ 0 ≤ c_t_found_size_63.toInt ∧ c_t_found_size_63.toInt ≤ 12 := h48
            obtain ⟨h48_0, h48_1, h48_2⟩ := h48
            refine ok_s ?_
            show ok (F_X9_period th fo p0 p1) (fun q => ((0 = 0 ∧ q.2.toInt = 0) ∨ (0 = 1 ∧ q.2.toInt = 1) ∨ (0 = 2 ∧ q.2.toInt = 2)) ∧ (0 = 0 → r63 = q.1) ∧ 0 ≤ c_t_found_size_63.toInt ∧ c_t_found_size_63.toInt ≤ 12)
            unfold F_X9_period
            refine ok_o (sp_X9_isForm p0 ) (fun r2_4 h49 => ?_)
            have h49 : (r2_4.toInt = 1 ∧ 0 ≤ p0.toInt ∧ p0.toInt ≤ 5) ∨ (r2_4.toInt = 0 ∧ (p0.toInt < 0 ∨ 6 ≤ p0.toInt)) := h49
            refine ok_eq (fun c50 => ?_) (fun c50 => ?_)
            · exfalso; omega
            · first | unfold J_X9_period_13 | skip
              refine ok_lt (fun c51 => ?_) (fun c51 => ?_)
              · exfalso; omega
              · refine ok_le (fun c52 => ?_) (fun c52 => ?_)
                · first | unfold J_X9_period_27 | skip
                  refine ok_o2 (sp_X9_isThrown (0 : Int32) (0 : Int32) ) (fun r27_4 c_t_thrown_27_4 h53 => ?_)
                  have h53 : (r27_4.toInt = 0 ∧ c_t_thrown_27_4.toInt = 0 ∧ (0 : Int32).toInt = 0 ∧ (0 : Int32).toInt = 0) ∨ (r27_4.toInt = 1 ∧ c_t_thrown_27_4.toInt = 1 ∧ (0 : Int32).toInt ≠ 0) ∨ (r27_4.toInt = 1 ∧ c_t_thrown_27_4.toInt = 2 ∧ (0 : Int32).toInt = 0 ∧ (0 : Int32).toInt ≠ 0) := h53
                  refine ok_eq (fun c54 => ?_) (fun c54 => ?_)
                  · refine ok_c (ixo (by omega) (by omega)) ?_
                    try have a55 := FA_at (f := fo) (by assumption) p0.toNatClampNeg
                    refine ok_o (fx_X9_isWheel (fo p0.toNatClampNeg) ) (fun r41_4 h56 => ?_)
                    have h56 : (r41_4.toInt = 0 ∨ r41_4.toInt = 1) ∧ (r41_4.toInt ≠ 0 → WT (fo p0.toNatClampNeg)) ∧ r41_4 = WB (fo p0.toNatClampNeg) := h56
                    obtain ⟨h56_0, h56_1, h56_2⟩ := h56
                    refine ok_eq (fun c57 => ?_) (fun c57 => ?_)
                    · refine ok_s (show ((0 = 0 ∧ c_t_thrown_27_4.toInt = 0) ∨ (0 = 1 ∧ c_t_thrown_27_4.toInt = 1) ∨ (0 = 2 ∧ c_t_thrown_27_4.toInt = 2)) ∧ (0 = 0 → r63 = (-9 : Int32)) ∧ 0 ≤ c_t_found_size_63.toInt ∧ c_t_found_size_63.toInt ≤ 12 from ?_)
                      first | (exfalso; omega) | (subst_vars; first | (exfalso; omega) | (refine ⟨?_, ?_, ?_, ?_⟩ <;> (first | assumption | rfl | omega | (intro hx; first | rfl | assumption | (exfalso; omega) | exact Int32.toInt_inj.mp (by omega)) | exact Int32.toInt_inj.mp (by omega) | (rw [uu_a, uu_a]))))
                    · refine ok_c (ixo (by omega) (by omega)) ?_
                      try have a58 := FA_at (f := fo) (by assumption) p0.toNatClampNeg
                      refine ok_o (fx_X9_periodOf (fo p0.toNatClampNeg) (by first | omega | assumption | trivial | exact wt_of (by assumption) (by omega))) (fun r53_4 h59 => ?_)
                      have h59 : r53_4 = PE (fo p0.toNatClampNeg) := h59
                      refine ok_s (show ((0 = 0 ∧ c_t_thrown_27_4.toInt = 0) ∨ (0 = 1 ∧ c_t_thrown_27_4.toInt = 1) ∨ (0 = 2 ∧ c_t_thrown_27_4.toInt = 2)) ∧ (0 = 0 → r63 = r53_4) ∧ 0 ≤ c_t_found_size_63.toInt ∧ c_t_found_size_63.toInt ≤ 12 from ?_)
                      first | (exfalso; omega) | (subst_vars; first | (exfalso; omega) | (refine ⟨?_, ?_, ?_, ?_⟩ <;> (first | assumption | rfl | omega | (intro hx; first | rfl | assumption | (exfalso; omega) | exact Int32.toInt_inj.mp (by omega)) | exact Int32.toInt_inj.mp (by omega) | (rw [uu_a, uu_a]))))
                  · exfalso; omega
                · exfalso; omega
    · refine ok_s ?_
      show ok (F_X9_period th fo p0 p1) (fun q => ((xc7 = 0 ∧ q.2.toInt = 0) ∨ (xc7 = 1 ∧ q.2.toInt = 1) ∨ (xc7 = 2 ∧ q.2.toInt = 2)) ∧ (xc7 = 0 → (0 : Int32) = q.1) ∧ 0 ≤ c_t_found_size.toInt ∧ c_t_found_size.toInt ≤ 12)
      unfold F_X9_period
      refine ok_o (sp_X9_isForm p0 ) (fun r2_5 h60 => ?_)
      have h60 : (r2_5.toInt = 1 ∧ 0 ≤ p0.toInt ∧ p0.toInt ≤ 5) ∨ (r2_5.toInt = 0 ∧ (p0.toInt < 0 ∨ 6 ≤ p0.toInt)) := h60
      refine ok_eq (fun c61 => ?_) (fun c61 => ?_)
      · exfalso; omega
      · first | unfold J_X9_period_13 | skip
        refine ok_lt (fun c62 => ?_) (fun c62 => ?_)
        · first | unfold J_X9_period_22 | skip
          first | unfold J_X9_period_27 | skip
          refine ok_o2 (sp_X9_isThrown (0 : Int32) (1 : Int32) ) (fun r27_5 c_t_thrown_27_5 h63 => ?_)
          have h63 : (r27_5.toInt = 0 ∧ c_t_thrown_27_5.toInt = 0 ∧ (0 : Int32).toInt = 0 ∧ (1 : Int32).toInt = 0) ∨ (r27_5.toInt = 1 ∧ c_t_thrown_27_5.toInt = 1 ∧ (0 : Int32).toInt ≠ 0) ∨ (r27_5.toInt = 1 ∧ c_t_thrown_27_5.toInt = 2 ∧ (0 : Int32).toInt = 0 ∧ (1 : Int32).toInt ≠ 0) := h63
          refine ok_eq (fun c64 => ?_) (fun c64 => ?_)
          · exfalso; omega
          · refine ok_s (show ((xc7 = 0 ∧ c_t_thrown_27_5.toInt = 0) ∨ (xc7 = 1 ∧ c_t_thrown_27_5.toInt = 1) ∨ (xc7 = 2 ∧ c_t_thrown_27_5.toInt = 2)) ∧ (xc7 = 0 → (0 : Int32) = (0 : Int32)) ∧ 0 ≤ c_t_found_size.toInt ∧ c_t_found_size.toInt ≤ 12 from ?_)
            first | (exfalso; omega) | (subst_vars; first | (exfalso; omega) | (refine ⟨?_, ?_, ?_, ?_⟩ <;> (first | assumption | rfl | omega | (intro hx; first | rfl | assumption | (exfalso; omega) | exact Int32.toInt_inj.mp (by omega)) | exact Int32.toInt_inj.mp (by omega) | (rw [uu_a, uu_a]))))
        · refine ok_le (fun c65 => ?_) (fun c65 => ?_)
          · exfalso; omega
          · first | unfold J_X9_period_22 | skip
            first | unfold J_X9_period_27 | skip
            refine ok_o2 (sp_X9_isThrown (0 : Int32) (1 : Int32) ) (fun r27_6 c_t_thrown_27_6 h66 => ?_)
            have h66 : (r27_6.toInt = 0 ∧ c_t_thrown_27_6.toInt = 0 ∧ (0 : Int32).toInt = 0 ∧ (1 : Int32).toInt = 0) ∨ (r27_6.toInt = 1 ∧ c_t_thrown_27_6.toInt = 1 ∧ (0 : Int32).toInt ≠ 0) ∨ (r27_6.toInt = 1 ∧ c_t_thrown_27_6.toInt = 2 ∧ (0 : Int32).toInt = 0 ∧ (1 : Int32).toInt ≠ 0) := h66
            refine ok_eq (fun c67 => ?_) (fun c67 => ?_)
            · exfalso; omega
            · refine ok_s (show ((xc7 = 0 ∧ c_t_thrown_27_6.toInt = 0) ∨ (xc7 = 1 ∧ c_t_thrown_27_6.toInt = 1) ∨ (xc7 = 2 ∧ c_t_thrown_27_6.toInt = 2)) ∧ (xc7 = 0 → (0 : Int32) = (0 : Int32)) ∧ 0 ≤ c_t_found_size.toInt ∧ c_t_found_size.toInt ≤ 12 from ?_)
              first | (exfalso; omega) | (subst_vars; first | (exfalso; omega) | (refine ⟨?_, ?_, ?_, ?_⟩ <;> (first | assumption | rfl | omega | (intro hx; first | rfl | assumption | (exfalso; omega) | exact Int32.toInt_inj.mp (by omega)) | exact Int32.toInt_inj.mp (by omega) | (rw [uu_a, uu_a]))))
  · refine ok_s ?_
    show ok (F_X9_period th fo p0 p1) (fun q => ((xc1 = 0 ∧ q.2.toInt = 0) ∨ (xc1 = 1 ∧ q.2.toInt = 1) ∨ (xc1 = 2 ∧ q.2.toInt = 2)) ∧ (xc1 = 0 → (0 : Int32) = q.1) ∧ 0 ≤ c_t_found_size.toInt ∧ c_t_found_size.toInt ≤ 12)
    unfold F_X9_period
    refine ok_o (sp_X9_isForm p0 ) (fun r2_6 h68 => ?_)
    have h68 : (r2_6.toInt = 1 ∧ 0 ≤ p0.toInt ∧ p0.toInt ≤ 5) ∨ (r2_6.toInt = 0 ∧ (p0.toInt < 0 ∨ 6 ≤ p0.toInt)) := h68
    refine ok_eq (fun c69 => ?_) (fun c69 => ?_)
    · first | unfold J_X9_period_13 | skip
      refine ok_lt (fun c70 => ?_) (fun c70 => ?_)
      · first | unfold J_X9_period_22 | skip
        first | unfold J_X9_period_27 | skip
        refine ok_o2 (sp_X9_isThrown (1 : Int32) (1 : Int32) ) (fun r27_7 c_t_thrown_27_7 h71 => ?_)
        have h71 : (r27_7.toInt = 0 ∧ c_t_thrown_27_7.toInt = 0 ∧ (1 : Int32).toInt = 0 ∧ (1 : Int32).toInt = 0) ∨ (r27_7.toInt = 1 ∧ c_t_thrown_27_7.toInt = 1 ∧ (1 : Int32).toInt ≠ 0) ∨ (r27_7.toInt = 1 ∧ c_t_thrown_27_7.toInt = 2 ∧ (1 : Int32).toInt = 0 ∧ (1 : Int32).toInt ≠ 0) := h71
        refine ok_eq (fun c72 => ?_) (fun c72 => ?_)
        · exfalso; omega
        · refine ok_s (show ((xc1 = 0 ∧ c_t_thrown_27_7.toInt = 0) ∨ (xc1 = 1 ∧ c_t_thrown_27_7.toInt = 1) ∨ (xc1 = 2 ∧ c_t_thrown_27_7.toInt = 2)) ∧ (xc1 = 0 → (0 : Int32) = (0 : Int32)) ∧ 0 ≤ c_t_found_size.toInt ∧ c_t_found_size.toInt ≤ 12 from ?_)
          first | (exfalso; omega) | (subst_vars; first | (exfalso; omega) | (refine ⟨?_, ?_, ?_, ?_⟩ <;> (first | assumption | rfl | omega | (intro hx; first | rfl | assumption | (exfalso; omega) | exact Int32.toInt_inj.mp (by omega)) | exact Int32.toInt_inj.mp (by omega) | (rw [uu_a, uu_a]))))
      · refine ok_le (fun c73 => ?_) (fun c73 => ?_)
        · first | unfold J_X9_period_27 | skip
          refine ok_o2 (sp_X9_isThrown (1 : Int32) (0 : Int32) ) (fun r27_8 c_t_thrown_27_8 h74 => ?_)
          have h74 : (r27_8.toInt = 0 ∧ c_t_thrown_27_8.toInt = 0 ∧ (1 : Int32).toInt = 0 ∧ (0 : Int32).toInt = 0) ∨ (r27_8.toInt = 1 ∧ c_t_thrown_27_8.toInt = 1 ∧ (1 : Int32).toInt ≠ 0) ∨ (r27_8.toInt = 1 ∧ c_t_thrown_27_8.toInt = 2 ∧ (1 : Int32).toInt = 0 ∧ (0 : Int32).toInt ≠ 0) := h74
          refine ok_eq (fun c75 => ?_) (fun c75 => ?_)
          · exfalso; omega
          · refine ok_s (show ((xc1 = 0 ∧ c_t_thrown_27_8.toInt = 0) ∨ (xc1 = 1 ∧ c_t_thrown_27_8.toInt = 1) ∨ (xc1 = 2 ∧ c_t_thrown_27_8.toInt = 2)) ∧ (xc1 = 0 → (0 : Int32) = (0 : Int32)) ∧ 0 ≤ c_t_found_size.toInt ∧ c_t_found_size.toInt ≤ 12 from ?_)
            first | (exfalso; omega) | (subst_vars; first | (exfalso; omega) | (refine ⟨?_, ?_, ?_, ?_⟩ <;> (first | assumption | rfl | omega | (intro hx; first | rfl | assumption | (exfalso; omega) | exact Int32.toInt_inj.mp (by omega)) | exact Int32.toInt_inj.mp (by omega) | (rw [uu_a, uu_a]))))
        · first | unfold J_X9_period_22 | skip
          first | unfold J_X9_period_27 | skip
          refine ok_o2 (sp_X9_isThrown (1 : Int32) (1 : Int32) ) (fun r27_9 c_t_thrown_27_9 h76 => ?_)
          have h76 : (r27_9.toInt = 0 ∧ c_t_thrown_27_9.toInt = 0 ∧ (1 : Int32).toInt = 0 ∧ (1 : Int32).toInt = 0) ∨ (r27_9.toInt = 1 ∧ c_t_thrown_27_9.toInt = 1 ∧ (1 : Int32).toInt ≠ 0) ∨ (r27_9.toInt = 1 ∧ c_t_thrown_27_9.toInt = 2 ∧ (1 : Int32).toInt = 0 ∧ (1 : Int32).toInt ≠ 0) := h76
          refine ok_eq (fun c77 => ?_) (fun c77 => ?_)
          · exfalso; omega
          · refine ok_s (show ((xc1 = 0 ∧ c_t_thrown_27_9.toInt = 0) ∨ (xc1 = 1 ∧ c_t_thrown_27_9.toInt = 1) ∨ (xc1 = 2 ∧ c_t_thrown_27_9.toInt = 2)) ∧ (xc1 = 0 → (0 : Int32) = (0 : Int32)) ∧ 0 ≤ c_t_found_size.toInt ∧ c_t_found_size.toInt ≤ 12 from ?_)
            first | (exfalso; omega) | (subst_vars; first | (exfalso; omega) | (refine ⟨?_, ?_, ?_, ?_⟩ <;> (first | assumption | rfl | omega | (intro hx; first | rfl | assumption | (exfalso; omega) | exact Int32.toInt_inj.mp (by omega)) | exact Int32.toInt_inj.mp (by omega) | (rw [uu_a, uu_a]))))
    · exfalso; omega
