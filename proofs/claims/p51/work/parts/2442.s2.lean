set_option maxHeartbeats 1000000 in
theorem s7_multipliers (ac : Int32) (fo : Nat → Int64) (th : Int32) (c_t_rows_first : Int64) (c_t_rows_ofOne : Int64) (c_t_rows_ofOther : Int64) (c_t_rows_second : Int64) (c_t_rows_secondOfOne : Int64) (c_t_rows_secondOfOther : Int64) (p0 : Int32) (p1 : Int32) (p2 : Int32) (p3 : Int32) (hp0 : FA fo) : ok (F_X7_multipliers ac fo c_t_rows_first c_t_rows_ofOne c_t_rows_ofOther c_t_rows_second c_t_rows_secondOfOne c_t_rows_secondOfOther p0 p1 p2 p3) (fun r => ok (F_X9_multipliers ac th fo p0 p1 p2 p3) (fun q => ((r.1 = 0 ∧ q.2.2.1.toInt = 0) ∨ (r.1 = 1 ∧ q.2.2.1.toInt = 1) ∨ (r.1 = 2 ∧ q.2.2.1.toInt = 2)) ∧ (r.1 = 0 → r.2.1 = q.1) ∧ r.2.2.1 = q.2.1 ∧ r.2.2.2.1 = q.2.2.2 ∧ FA q.2.2.2)) := by
  have l032 : (0 : Int32).toInt = 0 := by decide
  have l064 : (0 : Int64).toInt = 0 := by decide
  have l132 : (1 : Int32).toInt = 1 := by decide
  have l164 : (1 : Int64).toInt = 1 := by decide
  have l232 : (2 : Int32).toInt = 2 := by decide
  have l332 : (3 : Int32).toInt = 3 := by decide
  unfold F_X7_multipliers
  refine ok_o (fx_X7_testForms p0 p1 p2 ) (fun xc3 h1 => ?_)
  have h1 : (xc3 = 0 ∧ 0 ≤ p0.toInt ∧ p0.toInt ≤ 5 ∧ 0 ≤ p1.toInt ∧ p1.toInt ≤ 5 ∧ 0 ≤ p2.toInt ∧ p2.toInt ≤ 5) ∨ (xc3 = 1 ∧ (p0.toInt < 0 ∨ 5 < p0.toInt ∨ p1.toInt < 0 ∨ 5 < p1.toInt ∨ p2.toInt < 0 ∨ 5 < p2.toInt)) := h1
  refine ok_i (fun c2 => ?_) (fun c2 => ?_)
  · refine ok_o (fx_X7_testForm p3 ) (fun xc8 h3 => ?_)
    have h3 : (xc8 = 0 ∧ 0 ≤ p3.toInt ∧ p3.toInt ≤ 5) ∨ (xc8 = 1 ∧ (p3.toInt < 0 ∨ 5 < p3.toInt)) := h3
    refine ok_i (fun c4 => ?_) (fun c4 => ?_)
    · refine ok_eq (fun c5 => ?_) (fun c5 => ?_)
      · refine ok_s ?_
        show ok (F_X9_multipliers ac th fo p0 p1 p2 p3) (fun q => ((2 = 0 ∧ q.2.2.1.toInt = 0) ∨ (2 = 1 ∧ q.2.2.1.toInt = 1) ∨ (2 = 2 ∧ q.2.2.1.toInt = 2)) ∧ (2 = 0 → (0 : Int32) = q.1) ∧ ac = q.2.1 ∧ fo = q.2.2.2 ∧ FA q.2.2.2)
        unfold F_X9_multipliers
        refine ok_o (sp_X9_isForm p0 ) (fun r2 h6 => ?_)
        have h6 : (r2.toInt = 1 ∧ 0 ≤ p0.toInt ∧ p0.toInt ≤ 5) ∨ (r2.toInt = 0 ∧ (p0.toInt < 0 ∨ 6 ≤ p0.toInt)) := h6
        refine ok_eq (fun c7 => ?_) (fun c7 => ?_)
        · exfalso; omega
        · refine ok_o (sp_X9_isForm p1 ) (fun r9 h8 => ?_)
          have h8 : (r9.toInt = 1 ∧ 0 ≤ p1.toInt ∧ p1.toInt ≤ 5) ∨ (r9.toInt = 0 ∧ (p1.toInt < 0 ∨ 6 ≤ p1.toInt)) := h8
          refine ok_eq (fun c9 => ?_) (fun c9 => ?_)
          · exfalso; omega
          · refine ok_o (sp_X9_isForm p2 ) (fun r16 h10 => ?_)
            have h10 : (r16.toInt = 1 ∧ 0 ≤ p2.toInt ∧ p2.toInt ≤ 5) ∨ (r16.toInt = 0 ∧ (p2.toInt < 0 ∨ 6 ≤ p2.toInt)) := h10
            refine ok_eq (fun c11 => ?_) (fun c11 => ?_)
            · exfalso; omega
            · refine ok_o (sp_X9_isForm p3 ) (fun r24 h12 => ?_)
              have h12 : (r24.toInt = 1 ∧ 0 ≤ p3.toInt ∧ p3.toInt ≤ 5) ∨ (r24.toInt = 0 ∧ (p3.toInt < 0 ∨ 6 ≤ p3.toInt)) := h12
              refine ok_eq (fun c13 => ?_) (fun c13 => ?_)
              · exfalso; omega
              · first | unfold J_X9_multipliers_35 | skip
                refine ok_eq (fun c14 => ?_) (fun c14 => ?_)
                · first | unfold J_X9_multipliers_46 | skip
                  refine ok_o2 (sp_X9_isThrown (0 : Int32) (1 : Int32) ) (fun r46 c_t_thrown_46 h15 => ?_)
                  have h15 : (r46.toInt = 0 ∧ c_t_thrown_46.toInt = 0 ∧ (0 : Int32).toInt = 0 ∧ (1 : Int32).toInt = 0) ∨ (r46.toInt = 1 ∧ c_t_thrown_46.toInt = 1 ∧ (0 : Int32).toInt ≠ 0) ∨ (r46.toInt = 1 ∧ c_t_thrown_46.toInt = 2 ∧ (0 : Int32).toInt = 0 ∧ (1 : Int32).toInt ≠ 0) := h15
                  refine ok_eq (fun c16 => ?_) (fun c16 => ?_)
                  · exfalso; omega
                  · refine ok_s (show ((2 = 0 ∧ c_t_thrown_46.toInt = 0) ∨ (2 = 1 ∧ c_t_thrown_46.toInt = 1) ∨ (2 = 2 ∧ c_t_thrown_46.toInt = 2)) ∧ (2 = 0 → (0 : Int32) = (0 : Int32)) ∧ ac = ac ∧ fo = fo ∧ FA fo from ?_)
                    first | (exfalso; omega) | (subst_vars; first | (exfalso; omega) | (refine ⟨?_, ?_, ?_, ?_, ?_⟩ <;> (first | assumption | rfl | omega | (intro hx; first | rfl | assumption | (exfalso; omega) | exact Int32.toInt_inj.mp (by omega)) | exact Int32.toInt_inj.mp (by omega) | (rw [uu_a, uu_a]) | (first | exact (fun _ => by simp only [hz0]) | (simp only [hz1, hz2]; done)))))
                · exfalso; omega
      · refine ok_c (ixo (by omega) (by omega)) ?_
        refine ok_c (ixo (by omega) (by omega)) ?_
        try have a17 := FA_at (f := fo) (by assumption) p0.toNatClampNeg
        try have a18 := FA_at (f := fo) (by assumption) p1.toNatClampNeg
        refine ok_o6 (fx_X4_workOut (fo p0.toNatClampNeg) (fo p1.toNatClampNeg) (by first | omega | assumption | trivial | exact wt_of (by assumption) (by omega)) (by first | omega | assumption | trivial | exact wt_of (by assumption) (by omega))) (fun c_t_rows_first_43 c_t_rows_ofOne_43 c_t_rows_ofOther_43 c_t_rows_second_43 c_t_rows_secondOfOne_43 c_t_rows_secondOfOther_43 h19 => ?_)
        have h19 : c_t_rows_first_43 = MZ (fo p0.toNatClampNeg) (fo p1.toNatClampNeg) 0 ∧ c_t_rows_ofOne_43 = MZ (fo p0.toNatClampNeg) (fo p1.toNatClampNeg) 1 ∧ c_t_rows_ofOther_43 = MZ (fo p0.toNatClampNeg) (fo p1.toNatClampNeg) 2 := h19
        obtain ⟨h19_0, h19_1, h19_2⟩ := h19
        refine ok_c (ixo (by omega) (by omega)) ?_
        refine ok_bx (fun f_t_forms_58 e_f_t_forms_58 => ?_)
        try have t_f_t_forms_58 : FA f_t_forms_58 := by rw [e_f_t_forms_58]; exact FA_upd (by first | assumption | exact FA_0) _ (by first | omega | assumption | trivial)
        refine ok_c (ixo (by omega) (by omega)) ?_
        refine ok_bx (fun f_t_forms_72 e_f_t_forms_72 => ?_)
        try have t_f_t_forms_72 : FA f_t_forms_72 := by rw [e_f_t_forms_72]; exact FA_upd (by first | assumption | exact FA_0) _ (by first | omega | assumption | trivial)
        refine ok_o (fx_X0_degreeOf c_t_rows_first_43 ) (fun r81 h20 => ?_)
        have h20 : r81 = DI c_t_rows_first_43 ∧ r81.toInt = DG c_t_rows_first_43 ∧ -1 ≤ r81.toInt ∧ r81.toInt ≤ 63 := h20
        obtain ⟨h20_0, h20_1, h20_2, h20_3⟩ := h20
        refine ok_o2 (fx_X7_done ac r81 ) (fun r84 c_t_acts_84 h21 => ?_)
        have h21 : r84 = r81 ∧ c_t_acts_84 = ac + (1 : Int32) := h21
        obtain ⟨h21_0, h21_1⟩ := h21
        refine ok_s ?_
        show ok (F_X9_multipliers ac th fo p0 p1 p2 p3) (fun q => ((0 = 0 ∧ q.2.2.1.toInt = 0) ∨ (0 = 1 ∧ q.2.2.1.toInt = 1) ∨ (0 = 2 ∧ q.2.2.1.toInt = 2)) ∧ (0 = 0 → r84 = q.1) ∧ c_t_acts_84 = q.2.1 ∧ f_t_forms_72 = q.2.2.2 ∧ FA q.2.2.2)
        unfold F_X9_multipliers
        refine ok_o (sp_X9_isForm p0 ) (fun r2_2 h22 => ?_)
        have h22 : (r2_2.toInt = 1 ∧ 0 ≤ p0.toInt ∧ p0.toInt ≤ 5) ∨ (r2_2.toInt = 0 ∧ (p0.toInt < 0 ∨ 6 ≤ p0.toInt)) := h22
        refine ok_eq (fun c23 => ?_) (fun c23 => ?_)
        · exfalso; omega
        · refine ok_o (sp_X9_isForm p1 ) (fun r9_2 h24 => ?_)
          have h24 : (r9_2.toInt = 1 ∧ 0 ≤ p1.toInt ∧ p1.toInt ≤ 5) ∨ (r9_2.toInt = 0 ∧ (p1.toInt < 0 ∨ 6 ≤ p1.toInt)) := h24
          refine ok_eq (fun c25 => ?_) (fun c25 => ?_)
          · exfalso; omega
          · refine ok_o (sp_X9_isForm p2 ) (fun r16_2 h26 => ?_)
            have h26 : (r16_2.toInt = 1 ∧ 0 ≤ p2.toInt ∧ p2.toInt ≤ 5) ∨ (r16_2.toInt = 0 ∧ (p2.toInt < 0 ∨ 6 ≤ p2.toInt)) := h26
            refine ok_eq (fun c27 => ?_) (fun c27 => ?_)
            · exfalso; omega
            · refine ok_o (sp_X9_isForm p3 ) (fun r24_2 h28 => ?_)
              have h28 : (r24_2.toInt = 1 ∧ 0 ≤ p3.toInt ∧ p3.toInt ≤ 5) ∨ (r24_2.toInt = 0 ∧ (p3.toInt < 0 ∨ 6 ≤ p3.toInt)) := h28
              refine ok_eq (fun c29 => ?_) (fun c29 => ?_)
              · exfalso; omega
              · first | unfold J_X9_multipliers_35 | skip
                refine ok_eq (fun c30 => ?_) (fun c30 => ?_)
                · exfalso; omega
                · first | unfold J_X9_multipliers_46 | skip
                  refine ok_o2 (sp_X9_isThrown (0 : Int32) (0 : Int32) ) (fun r46_2 c_t_thrown_46_2 h31 => ?_)
                  have h31 : (r46_2.toInt = 0 ∧ c_t_thrown_46_2.toInt = 0 ∧ (0 : Int32).toInt = 0 ∧ (0 : Int32).toInt = 0) ∨ (r46_2.toInt = 1 ∧ c_t_thrown_46_2.toInt = 1 ∧ (0 : Int32).toInt ≠ 0) ∨ (r46_2.toInt = 1 ∧ c_t_thrown_46_2.toInt = 2 ∧ (0 : Int32).toInt = 0 ∧ (0 : Int32).toInt ≠ 0) := h31
                  refine ok_eq (fun c32 => ?_) (fun c32 => ?_)
                  · refine ok_c (ixo (by omega) (by omega)) ?_
                    try have a33 := FA_at (f := fo) (by assumption) p0.toNatClampNeg
                    refine ok_bx (fun f_n55_65 e_f_n55_65 => ?_)
                    try have t_f_n55_65 : FA f_n55_65 := by rw [e_f_n55_65]; exact FA_upd (by first | assumption | exact FA_0) _ (by first | omega | assumption | trivial)
                    refine ok_bx (fun f_n55_69 e_f_n55_69 => ?_)
                    try have t_f_n55_69 : FA f_n55_69 := by rw [e_f_n55_69]; exact FA_upd (by first | assumption | exact FA_0) _ (by first | omega | assumption | trivial)
                    refine ok_bx (fun f_n55_73 e_f_n55_73 => ?_)
                    try have t_f_n55_73 : FA f_n55_73 := by rw [e_f_n55_73]; exact FA_upd (by first | assumption | exact FA_0) _ (by first | omega | assumption | trivial)
                    refine ok_c (ixo (by omega) (by omega)) ?_
                    try have a34 := FA_at (f := fo) (by assumption) p1.toNatClampNeg
                    refine ok_bx (fun f_n77_87 e_f_n77_87 => ?_)
                    try have t_f_n77_87 : FA f_n77_87 := by rw [e_f_n77_87]; exact FA_upd (by first | assumption | exact FA_0) _ (by first | omega | assumption | trivial)
                    refine ok_bx (fun f_n77_91 e_f_n77_91 => ?_)
                    try have t_f_n77_91 : FA f_n77_91 := by rw [e_f_n77_91]; exact FA_upd (by first | assumption | exact FA_0) _ (by first | omega | assumption | trivial)
                    refine ok_bx (fun f_n77_95 e_f_n77_95 => ?_)
                    try have t_f_n77_95 : FA f_n77_95 := by rw [e_f_n77_95]; exact FA_upd (by first | assumption | exact FA_0) _ (by first | omega | assumption | trivial)
                    refine mu_loop _ (fo p0.toNatClampNeg) (fo p1.toNatClampNeg) _ _ (by rw [e_f_n55_73, e_f_n55_69, e_f_n55_65]; exact mu_init1) (by rw [e_f_n77_95, e_f_n77_91, e_f_n77_87]; exact mu_init2) (by omega) (by omega) (fun f_n55_98_173 f_n77_98_173 hI35 hmz => ?_)
                    have m1 : DG (f_n55_98_173 (1 : Int32).toNatClampNeg) ≤ 39 := (hI35.2.2 1 (Or.inl rfl)).1
                    have m2 : DG (f_n55_98_173 (2 : Int32).toNatClampNeg) ≤ 39 := (hI35.2.2 2 (Or.inr rfl)).1
                    obtain ⟨hz0, hz1, hz2⟩ := hmz
                    refine ok_c (ixo (by omega) (by omega)) ?_
                    try have a36 := FA_at (f := f_n55_98_173) (by assumption) (1 : Int32).toNatClampNeg
                    refine ok_bx (fun f_t_forms_182 e_f_t_forms_182 => ?_)
                    try have t_f_t_forms_182 : FA f_t_forms_182 := by rw [e_f_t_forms_182]; exact FA_upd (by first | assumption | exact FA_0) _ (by first | omega | assumption | trivial)
                    refine ok_c (ixo (by omega) (by omega)) ?_
                    try have a37 := FA_at (f := f_n55_98_173) (by assumption) (2 : Int32).toNatClampNeg
                    refine ok_bx (fun f_t_forms_193 e_f_t_forms_193 => ?_)
                    try have t_f_t_forms_193 : FA f_t_forms_193 := by rw [e_f_t_forms_193]; exact FA_upd (by first | assumption | exact FA_0) _ (by first | omega | assumption | trivial)
                    try have a38 := FA_at (f := f_n55_98_173) (by assumption) (0 : Int32).toNatClampNeg
                    refine ok_o (fx_X9_degreeOf (f_n55_98_173 (0 : Int32).toNatClampNeg) ) (fun r199 h39 => ?_)
                    have h39 : r199 = DI (f_n55_98_173 (0 : Int32).toNatClampNeg) ∧ r199.toInt = DG (f_n55_98_173 (0 : Int32).toNatClampNeg) ∧ -1 ≤ r199.toInt ∧ r199.toInt ≤ 63 := h39
                    obtain ⟨h39_0, h39_1, h39_2, h39_3⟩ := h39
                    refine ok_o2 (fx_X9_done ac r199 ) (fun r202 c_t_acts_202 h40 => ?_)
                    have h40 : r202 = r199 ∧ c_t_acts_202 = ac + (1 : Int32) := h40
                    obtain ⟨h40_0, h40_1⟩ := h40
                    refine ok_s (show ((0 = 0 ∧ c_t_thrown_46_2.toInt = 0) ∨ (0 = 1 ∧ c_t_thrown_46_2.toInt = 1) ∨ (0 = 2 ∧ c_t_thrown_46_2.toInt = 2)) ∧ (0 = 0 → r84 = r202) ∧ c_t_acts_84 = c_t_acts_202 ∧ f_t_forms_72 = f_t_forms_193 ∧ FA f_t_forms_193 from ?_)
                    first | (exfalso; omega) | (subst_vars; first | (exfalso; omega) | (refine ⟨?_, ?_, ?_, ?_, ?_⟩ <;> (first | assumption | rfl | omega | (intro hx; first | rfl | assumption | (exfalso; omega) | exact Int32.toInt_inj.mp (by omega)) | exact Int32.toInt_inj.mp (by omega) | (rw [uu_a, uu_a]) | (first | exact (fun _ => by simp only [hz0]) | (simp only [hz1, hz2]; done)))))
                  · exfalso; omega
    · refine ok_s ?_
      show ok (F_X9_multipliers ac th fo p0 p1 p2 p3) (fun q => ((xc8 = 0 ∧ q.2.2.1.toInt = 0) ∨ (xc8 = 1 ∧ q.2.2.1.toInt = 1) ∨ (xc8 = 2 ∧ q.2.2.1.toInt = 2)) ∧ (xc8 = 0 → (0 : Int32) = q.1) ∧ ac = q.2.1 ∧ fo = q.2.2.2 ∧ FA q.2.2.2)
      unfold F_X9_multipliers
      refine ok_o (sp_X9_isForm p0 ) (fun r2_3 h41 => ?_)
      have h41 : (r2_3.toInt = 1 ∧ 0 ≤ p0.toInt ∧ p0.toInt ≤ 5) ∨ (r2_3.toInt = 0 ∧ (p0.toInt < 0 ∨ 6 ≤ p0.toInt)) := h41
      refine ok_eq (fun c42 => ?_) (fun c42 => ?_)
      · exfalso; omega
      · refine ok_o (sp_X9_isForm p1 ) (fun r9_3 h43 => ?_)
        have h43 : (r9_3.toInt = 1 ∧ 0 ≤ p1.toInt ∧ p1.toInt ≤ 5) ∨ (r9_3.toInt = 0 ∧ (p1.toInt < 0 ∨ 6 ≤ p1.toInt)) := h43
        refine ok_eq (fun c44 => ?_) (fun c44 => ?_)
        · exfalso; omega
        · refine ok_o (sp_X9_isForm p2 ) (fun r16_3 h45 => ?_)
          have h45 : (r16_3.toInt = 1 ∧ 0 ≤ p2.toInt ∧ p2.toInt ≤ 5) ∨ (r16_3.toInt = 0 ∧ (p2.toInt < 0 ∨ 6 ≤ p2.toInt)) := h45
          refine ok_eq (fun c46 => ?_) (fun c46 => ?_)
          · exfalso; omega
          · refine ok_o (sp_X9_isForm p3 ) (fun r24_3 h47 => ?_)
            have h47 : (r24_3.toInt = 1 ∧ 0 ≤ p3.toInt ∧ p3.toInt ≤ 5) ∨ (r24_3.toInt = 0 ∧ (p3.toInt < 0 ∨ 6 ≤ p3.toInt)) := h47
            refine ok_eq (fun c48 => ?_) (fun c48 => ?_)
            · first | unfold J_X9_multipliers_30 | skip
              first | unfold J_X9_multipliers_35 | skip
              refine ok_eq (fun c49 => ?_) (fun c49 => ?_)
              · exfalso; omega
              · first | unfold J_X9_multipliers_46 | skip
                refine ok_o2 (sp_X9_isThrown (1 : Int32) (0 : Int32) ) (fun r46_3 c_t_thrown_46_3 h50 => ?_)
                have h50 : (r46_3.toInt = 0 ∧ c_t_thrown_46_3.toInt = 0 ∧ (1 : Int32).toInt = 0 ∧ (0 : Int32).toInt = 0) ∨ (r46_3.toInt = 1 ∧ c_t_thrown_46_3.toInt = 1 ∧ (1 : Int32).toInt ≠ 0) ∨ (r46_3.toInt = 1 ∧ c_t_thrown_46_3.toInt = 2 ∧ (1 : Int32).toInt = 0 ∧ (0 : Int32).toInt ≠ 0) := h50
                refine ok_eq (fun c51 => ?_) (fun c51 => ?_)
                · exfalso; omega
                · refine ok_s (show ((xc8 = 0 ∧ c_t_thrown_46_3.toInt = 0) ∨ (xc8 = 1 ∧ c_t_thrown_46_3.toInt = 1) ∨ (xc8 = 2 ∧ c_t_thrown_46_3.toInt = 2)) ∧ (xc8 = 0 → (0 : Int32) = (0 : Int32)) ∧ ac = ac ∧ fo = fo ∧ FA fo from ?_)
                  first | (exfalso; omega) | (subst_vars; first | (exfalso; omega) | (refine ⟨?_, ?_, ?_, ?_, ?_⟩ <;> (first | assumption | rfl | omega | (intro hx; first | rfl | assumption | (exfalso; omega) | exact Int32.toInt_inj.mp (by omega)) | exact Int32.toInt_inj.mp (by omega) | (rw [uu_a, uu_a]) | (first | exact (fun _ => by simp only [hz0]) | (simp only [hz1, hz2]; done)))))
            · exfalso; omega
  · refine ok_s ?_
    show ok (F_X9_multipliers ac th fo p0 p1 p2 p3) (fun q => ((xc3 = 0 ∧ q.2.2.1.toInt = 0) ∨ (xc3 = 1 ∧ q.2.2.1.toInt = 1) ∨ (xc3 = 2 ∧ q.2.2.1.toInt = 2)) ∧ (xc3 = 0 → (0 : Int32) = q.1) ∧ ac = q.2.1 ∧ fo = q.2.2.2 ∧ FA q.2.2.2)
    unfold F_X9_multipliers
    refine ok_o (sp_X9_isForm p0 ) (fun r2_4 h52 => ?_)
    have h52 : (r2_4.toInt = 1 ∧ 0 ≤ p0.toInt ∧ p0.toInt ≤ 5) ∨ (r2_4.toInt = 0 ∧ (p0.toInt < 0 ∨ 6 ≤ p0.toInt)) := h52
    refine ok_eq (fun c53 => ?_) (fun c53 => ?_)
    · first | unfold J_X9_multipliers_30 | skip
      first | unfold J_X9_multipliers_35 | skip
      refine ok_eq (fun c54 => ?_) (fun c54 => ?_)
      · first | unfold J_X9_multipliers_46 | skip
        refine ok_o2 (sp_X9_isThrown (1 : Int32) (1 : Int32) ) (fun r46_4 c_t_thrown_46_4 h55 => ?_)
        have h55 : (r46_4.toInt = 0 ∧ c_t_thrown_46_4.toInt = 0 ∧ (1 : Int32).toInt = 0 ∧ (1 : Int32).toInt = 0) ∨ (r46_4.toInt = 1 ∧ c_t_thrown_46_4.toInt = 1 ∧ (1 : Int32).toInt ≠ 0) ∨ (r46_4.toInt = 1 ∧ c_t_thrown_46_4.toInt = 2 ∧ (1 : Int32).toInt = 0 ∧ (1 : Int32).toInt ≠ 0) := h55
        refine ok_eq (fun c56 => ?_) (fun c56 => ?_)
        · exfalso; omega
        · refine ok_s (show ((xc3 = 0 ∧ c_t_thrown_46_4.toInt = 0) ∨ (xc3 = 1 ∧ c_t_thrown_46_4.toInt = 1) ∨ (xc3 = 2 ∧ c_t_thrown_46_4.toInt = 2)) ∧ (xc3 = 0 → (0 : Int32) = (0 : Int32)) ∧ ac = ac ∧ fo = fo ∧ FA fo from ?_)
          first | (exfalso; omega) | (subst_vars; first | (exfalso; omega) | (refine ⟨?_, ?_, ?_, ?_, ?_⟩ <;> (first | assumption | rfl | omega | (intro hx; first | rfl | assumption | (exfalso; omega) | exact Int32.toInt_inj.mp (by omega)) | exact Int32.toInt_inj.mp (by omega) | (rw [uu_a, uu_a]) | (first | exact (fun _ => by simp only [hz0]) | (simp only [hz1, hz2]; done)))))
      · first | unfold J_X9_multipliers_46 | skip
        refine ok_o2 (sp_X9_isThrown (1 : Int32) (0 : Int32) ) (fun r46_5 c_t_thrown_46_5 h57 => ?_)
        have h57 : (r46_5.toInt = 0 ∧ c_t_thrown_46_5.toInt = 0 ∧ (1 : Int32).toInt = 0 ∧ (0 : Int32).toInt = 0) ∨ (r46_5.toInt = 1 ∧ c_t_thrown_46_5.toInt = 1 ∧ (1 : Int32).toInt ≠ 0) ∨ (r46_5.toInt = 1 ∧ c_t_thrown_46_5.toInt = 2 ∧ (1 : Int32).toInt = 0 ∧ (0 : Int32).toInt ≠ 0) := h57
        refine ok_eq (fun c58 => ?_) (fun c58 => ?_)
        · exfalso; omega
        · refine ok_s (show ((xc3 = 0 ∧ c_t_thrown_46_5.toInt = 0) ∨ (xc3 = 1 ∧ c_t_thrown_46_5.toInt = 1) ∨ (xc3 = 2 ∧ c_t_thrown_46_5.toInt = 2)) ∧ (xc3 = 0 → (0 : Int32) = (0 : Int32)) ∧ ac = ac ∧ fo = fo ∧ FA fo from ?_)
          first | (exfalso; omega) | (subst_vars; first | (exfalso; omega) | (refine ⟨?_, ?_, ?_, ?_, ?_⟩ <;> (first | assumption | rfl | omega | (intro hx; first | rfl | assumption | (exfalso; omega) | exact Int32.toInt_inj.mp (by omega)) | exact Int32.toInt_inj.mp (by omega) | (rw [uu_a, uu_a]) | (first | exact (fun _ => by simp only [hz0]) | (simp only [hz1, hz2]; done)))))
    · refine ok_o (sp_X9_isForm p1 ) (fun r9_4 h59 => ?_)
      have h59 : (r9_4.toInt = 1 ∧ 0 ≤ p1.toInt ∧ p1.toInt ≤ 5) ∨ (r9_4.toInt = 0 ∧ (p1.toInt < 0 ∨ 6 ≤ p1.toInt)) := h59
      refine ok_eq (fun c60 => ?_) (fun c60 => ?_)
      · first | unfold J_X9_multipliers_30 | skip
        first | unfold J_X9_multipliers_35 | skip
        refine ok_eq (fun c61 => ?_) (fun c61 => ?_)
        · first | unfold J_X9_multipliers_46 | skip
          refine ok_o2 (sp_X9_isThrown (1 : Int32) (1 : Int32) ) (fun r46_6 c_t_thrown_46_6 h62 => ?_)
          have h62 : (r46_6.toInt = 0 ∧ c_t_thrown_46_6.toInt = 0 ∧ (1 : Int32).toInt = 0 ∧ (1 : Int32).toInt = 0) ∨ (r46_6.toInt = 1 ∧ c_t_thrown_46_6.toInt = 1 ∧ (1 : Int32).toInt ≠ 0) ∨ (r46_6.toInt = 1 ∧ c_t_thrown_46_6.toInt = 2 ∧ (1 : Int32).toInt = 0 ∧ (1 : Int32).toInt ≠ 0) := h62
          refine ok_eq (fun c63 => ?_) (fun c63 => ?_)
          · exfalso; omega
          · refine ok_s (show ((xc3 = 0 ∧ c_t_thrown_46_6.toInt = 0) ∨ (xc3 = 1 ∧ c_t_thrown_46_6.toInt = 1) ∨ (xc3 = 2 ∧ c_t_thrown_46_6.toInt = 2)) ∧ (xc3 = 0 → (0 : Int32) = (0 : Int32)) ∧ ac = ac ∧ fo = fo ∧ FA fo from ?_)
            first | (exfalso; omega) | (subst_vars; first | (exfalso; omega) | (refine ⟨?_, ?_, ?_, ?_, ?_⟩ <;> (first | assumption | rfl | omega | (intro hx; first | rfl | assumption | (exfalso; omega) | exact Int32.toInt_inj.mp (by omega)) | exact Int32.toInt_inj.mp (by omega) | (rw [uu_a, uu_a]) | (first | exact (fun _ => by simp only [hz0]) | (simp only [hz1, hz2]; done)))))
        · first | unfold J_X9_multipliers_46 | skip
          refine ok_o2 (sp_X9_isThrown (1 : Int32) (0 : Int32) ) (fun r46_7 c_t_thrown_46_7 h64 => ?_)
          have h64 : (r46_7.toInt = 0 ∧ c_t_thrown_46_7.toInt = 0 ∧ (1 : Int32).toInt = 0 ∧ (0 : Int32).toInt = 0) ∨ (r46_7.toInt = 1 ∧ c_t_thrown_46_7.toInt = 1 ∧ (1 : Int32).toInt ≠ 0) ∨ (r46_7.toInt = 1 ∧ c_t_thrown_46_7.toInt = 2 ∧ (1 : Int32).toInt = 0 ∧ (0 : Int32).toInt ≠ 0) := h64
          refine ok_eq (fun c65 => ?_) (fun c65 => ?_)
          · exfalso; omega
          · refine ok_s (show ((xc3 = 0 ∧ c_t_thrown_46_7.toInt = 0) ∨ (xc3 = 1 ∧ c_t_thrown_46_7.toInt = 1) ∨ (xc3 = 2 ∧ c_t_thrown_46_7.toInt = 2)) ∧ (xc3 = 0 → (0 : Int32) = (0 : Int32)) ∧ ac = ac ∧ fo = fo ∧ FA fo from ?_)
            first | (exfalso; omega) | (subst_vars; first | (exfalso; omega) | (refine ⟨?_, ?_, ?_, ?_, ?_⟩ <;> (first | assumption | rfl | omega | (intro hx; first | rfl | assumption | (exfalso; omega) | exact Int32.toInt_inj.mp (by omega)) | exact Int32.toInt_inj.mp (by omega) | (rw [uu_a, uu_a]) | (first | exact (fun _ => by simp only [hz0]) | (simp only [hz1, hz2]; done)))))
      · refine ok_o (sp_X9_isForm p2 ) (fun r16_4 h66 => ?_)
        have h66 : (r16_4.toInt = 1 ∧ 0 ≤ p2.toInt ∧ p2.toInt ≤ 5) ∨ (r16_4.toInt = 0 ∧ (p2.toInt < 0 ∨ 6 ≤ p2.toInt)) := h66
        refine ok_eq (fun c67 => ?_) (fun c67 => ?_)
        · first | unfold J_X9_multipliers_30 | skip
          first | unfold J_X9_multipliers_35 | skip
          refine ok_eq (fun c68 => ?_) (fun c68 => ?_)
          · first | unfold J_X9_multipliers_46 | skip
            refine ok_o2 (sp_X9_isThrown (1 : Int32) (1 : Int32) ) (fun r46_8 c_t_thrown_46_8 h69 => ?_)
            have h69 : (r46_8.toInt = 0 ∧ c_t_thrown_46_8.toInt = 0 ∧ (1 : Int32).toInt = 0 ∧ (1 : Int32).toInt = 0) ∨ (r46_8.toInt = 1 ∧ c_t_thrown_46_8.toInt = 1 ∧ (1 : Int32).toInt ≠ 0) ∨ (r46_8.toInt = 1 ∧ c_t_thrown_46_8.toInt = 2 ∧ (1 : Int32).toInt = 0 ∧ (1 : Int32).toInt ≠ 0) := h69
            refine ok_eq (fun c70 => ?_) (fun c70 => ?_)
            · exfalso; omega
            · refine ok_s (show ((xc3 = 0 ∧ c_t_thrown_46_8.toInt = 0) ∨ (xc3 = 1 ∧ c_t_thrown_46_8.toInt = 1) ∨ (xc3 = 2 ∧ c_t_thrown_46_8.toInt = 2)) ∧ (xc3 = 0 → (0 : Int32) = (0 : Int32)) ∧ ac = ac ∧ fo = fo ∧ FA fo from ?_)
              first | (exfalso; omega) | (subst_vars; first | (exfalso; omega) | (refine ⟨?_, ?_, ?_, ?_, ?_⟩ <;> (first | assumption | rfl | omega | (intro hx; first | rfl | assumption | (exfalso; omega) | exact Int32.toInt_inj.mp (by omega)) | exact Int32.toInt_inj.mp (by omega) | (rw [uu_a, uu_a]) | (first | exact (fun _ => by simp only [hz0]) | (simp only [hz1, hz2]; done)))))
          · first | unfold J_X9_multipliers_46 | skip
            refine ok_o2 (sp_X9_isThrown (1 : Int32) (0 : Int32) ) (fun r46_9 c_t_thrown_46_9 h71 => ?_)
            have h71 : (r46_9.toInt = 0 ∧ c_t_thrown_46_9.toInt = 0 ∧ (1 : Int32).toInt = 0 ∧ (0 : Int32).toInt = 0) ∨ (r46_9.toInt = 1 ∧ c_t_thrown_46_9.toInt = 1 ∧ (1 : Int32).toInt ≠ 0) ∨ (r46_9.toInt = 1 ∧ c_t_thrown_46_9.toInt = 2 ∧ (1 : Int32).toInt = 0 ∧ (0 : Int32).toInt ≠ 0) := h71
            refine ok_eq (fun c72 => ?_) (fun c72 => ?_)
            · exfalso; omega
            · refine ok_s (show ((xc3 = 0 ∧ c_t_thrown_46_9.toInt = 0) ∨ (xc3 = 1 ∧ c_t_thrown_46_9.toInt = 1) ∨ (xc3 = 2 ∧ c_t_thrown_46_9.toInt = 2)) ∧ (xc3 = 0 → (0 : Int32) = (0 : Int32)) ∧ ac = ac ∧ fo = fo ∧ FA fo from ?_)
              first | (exfalso; omega) | (subst_vars; first | (exfalso; omega) | (refine ⟨?_, ?_, ?_, ?_, ?_⟩ <;> (first | assumption | rfl | omega | (intro hx; first | rfl | assumption | (exfalso; omega) | exact Int32.toInt_inj.mp (by omega)) | exact Int32.toInt_inj.mp (by omega) | (rw [uu_a, uu_a]) | (first | exact (fun _ => by simp only [hz0]) | (simp only [hz1, hz2]; done)))))
        · exfalso; omega
set_option maxHeartbeats 1000000 in
theorem s7_power (ac : Int32) (rf : Int32) (fo : Nat → Int64) (th : Int32) (p0 : Int32) (p1 : Int32) (p2 : Int32) (p3 : Int32) (hp0 : FA fo) : ok (F_X7_power ac rf fo p0 p1 p2 p3) (fun r => ok (F_X9_power ac rf th fo p0 p1 p2 p3) (fun q => ((r.1 = 0 ∧ q.2.2.2.1.toInt = 0) ∨ (r.1 = 1 ∧ q.2.2.2.1.toInt = 1) ∨ (r.1 = 2 ∧ q.2.2.2.1.toInt = 2)) ∧ (r.1 = 0 → r.2.1 = q.1) ∧ r.2.2.1 = q.2.1 ∧ r.2.2.2.1 = q.2.2.1 ∧ r.2.2.2.2 = q.2.2.2.2 ∧ FA q.2.2.2.2)) := by
  have l032 : (0 : Int32).toInt = 0 := by decide
  have l064 : (0 : Int64).toInt = 0 := by decide
  have l132 : (1 : Int32).toInt = 1 := by decide
  have l2032 : (20 : Int32).toInt = 20 := by decide
  have l25532 : (255 : Int32).toInt = 255 := by decide
  unfold F_X7_power
  refine ok_o (fx_X7_testForms p0 p2 p3 ) (fun xc4 h1 => ?_)
  have h1 : (xc4 = 0 ∧ 0 ≤ p0.toInt ∧ p0.toInt ≤ 5 ∧ 0 ≤ p2.toInt ∧ p2.toInt ≤ 5 ∧ 0 ≤ p3.toInt ∧ p3.toInt ≤ 5) ∨ (xc4 = 1 ∧ (p0.toInt < 0 ∨ 5 < p0.toInt ∨ p2.toInt < 0 ∨ 5 < p2.toInt ∨ p3.toInt < 0 ∨ 5 < p3.toInt)) := h1
  refine ok_i (fun c2 => ?_) (fun c2 => ?_)
  · refine ok_o (sp_X7_testRange p1 (0 : Int32) (255 : Int32) ) (fun xc12 h3 => ?_)
    have h3 : (xc12 = 0 ∧ (0 : Int32).toInt ≤ p1.toInt ∧ p1.toInt ≤ (255 : Int32).toInt) ∨ (xc12 = 2 ∧ (p1.toInt < (0 : Int32).toInt ∨ (255 : Int32).toInt < p1.toInt)) := h3
    refine ok_i (fun c4 => ?_) (fun c4 => ?_)
    · refine ok_c (ixo (by omega) (by omega)) ?_
      try have a6 := FA_at (f := fo) (by assumption) p2.toNatClampNeg
      have z_c5 := DG_z (fo p2.toNatClampNeg)
      refine ok_eqL (fun c5 => ?_) (fun c5 => ?_)
      · refine ok_o2 (fx_X7_refuse rf ) (fun r41 c_t_refusals_41 h7 => ?_)
        have h7 : r41 = (-9 : Int32) ∧ c_t_refusals_41 = rf + (1 : Int32) := h7
        obtain ⟨h7_0, h7_1⟩ := h7
        refine ok_s ?_
        show ok (F_X9_power ac rf th fo p0 p1 p2 p3) (fun q => ((0 = 0 ∧ q.2.2.2.1.toInt = 0) ∨ (0 = 1 ∧ q.2.2.2.1.toInt = 1) ∨ (0 = 2 ∧ q.2.2.2.1.toInt = 2)) ∧ (0 = 0 → r41 = q.1) ∧ ac = q.2.1 ∧ c_t_refusals_41 = q.2.2.1 ∧ fo = q.2.2.2.2 ∧ FA q.2.2.2.2)
        unfold F_X9_power
        refine ok_o (sp_X9_isForm p0 ) (fun r2 h8 => ?_)
        have h8 : (r2.toInt = 1 ∧ 0 ≤ p0.toInt ∧ p0.toInt ≤ 5) ∨ (r2.toInt = 0 ∧ (p0.toInt < 0 ∨ 6 ≤ p0.toInt)) := h8
        refine ok_eq (fun c9 => ?_) (fun c9 => ?_)
        · exfalso; omega
        · refine ok_o (sp_X9_isForm p2 ) (fun r9 h10 => ?_)
          have h10 : (r9.toInt = 1 ∧ 0 ≤ p2.toInt ∧ p2.toInt ≤ 5) ∨ (r9.toInt = 0 ∧ (p2.toInt < 0 ∨ 6 ≤ p2.toInt)) := h10
          refine ok_eq (fun c11 => ?_) (fun c11 => ?_)
          · exfalso; omega
          · refine ok_o (sp_X9_isForm p3 ) (fun r17 h12 => ?_)
            have h12 : (r17.toInt = 1 ∧ 0 ≤ p3.toInt ∧ p3.toInt ≤ 5) ∨ (r17.toInt = 0 ∧ (p3.toInt < 0 ∨ 6 ≤ p3.toInt)) := h12
            refine ok_eq (fun c13 => ?_) (fun c13 => ?_)
            · exfalso; omega
            · first | unfold J_X9_power_28 | skip
              refine ok_lt (fun c14 => ?_) (fun c14 => ?_)
              · exfalso; omega
              · refine ok_le (fun c15 => ?_) (fun c15 => ?_)
                · first | unfold J_X9_power_44 | skip
                  refine ok_o2 (sp_X9_isThrown (0 : Int32) (0 : Int32) ) (fun r44 c_t_thrown_44 h16 => ?_)
                  have h16 : (r44.toInt = 0 ∧ c_t_thrown_44.toInt = 0 ∧ (0 : Int32).toInt = 0 ∧ (0 : Int32).toInt = 0) ∨ (r44.toInt = 1 ∧ c_t_thrown_44.toInt = 1 ∧ (0 : Int32).toInt ≠ 0) ∨ (r44.toInt = 1 ∧ c_t_thrown_44.toInt = 2 ∧ (0 : Int32).toInt = 0 ∧ (0 : Int32).toInt ≠ 0) := h16
                  refine ok_eq (fun c17 => ?_) (fun c17 => ?_)
                  · refine ok_c (ixo (by omega) (by omega)) ?_
                    try have a19 := FA_at (f := fo) (by assumption) p2.toNatClampNeg
                    have z_c18 := DG_z (fo p2.toNatClampNeg)
                    refine ok_eqL (fun c18 => ?_) (fun c18 => ?_)
                    · refine ok_o2 (fx_X9_no rf ) (fun r78 c_t_refused_78 h20 => ?_)
                      have h20 : r78 = (-9 : Int32) ∧ c_t_refused_78 = rf + (1 : Int32) := h20
                      obtain ⟨h20_0, h20_1⟩ := h20
                      refine ok_s (show ((0 = 0 ∧ c_t_thrown_44.toInt = 0) ∨ (0 = 1 ∧ c_t_thrown_44.toInt = 1) ∨ (0 = 2 ∧ c_t_thrown_44.toInt = 2)) ∧ (0 = 0 → r41 = r78) ∧ ac = ac ∧ c_t_refusals_41 = c_t_refused_78 ∧ fo = fo ∧ FA fo from ?_)
                      first | (exfalso; omega) | (subst_vars; first | (exfalso; omega) | (refine ⟨?_, ?_, ?_, ?_, ?_, ?_⟩ <;> (first | assumption | rfl | omega | (intro hx; first | rfl | assumption | (exfalso; omega) | exact Int32.toInt_inj.mp (by omega)) | exact Int32.toInt_inj.mp (by omega) | (rw [uu_a, uu_a]))))
                    · exfalso; omega
                  · exfalso; omega
                · exfalso; omega
      · refine ok_c (ixo (by omega) (by omega)) ?_
        try have a21 := FA_at (f := fo) (by assumption) p2.toNatClampNeg
        refine ok_o (fx_X0_degreeOf (fo p2.toNatClampNeg) ) (fun r32 h22 => ?_)
        have h22 : r32 = DI (fo p2.toNatClampNeg) ∧ r32.toInt = DG (fo p2.toNatClampNeg) ∧ -1 ≤ r32.toInt ∧ r32.toInt ≤ 63 := h22
        obtain ⟨h22_0, h22_1, h22_2, h22_3⟩ := h22
        refine ok_le (fun c23 => ?_) (fun c23 => ?_)
        · refine ok_c (ixo (by omega) (by omega)) ?_
          refine ok_c (ixo (by omega) (by omega)) ?_
          try have a24 := FA_at (f := fo) (by assumption) p0.toNatClampNeg
          try have a25 := FA_at (f := fo) (by assumption) p2.toNatClampNeg
          refine ok_o (fx_X0_powerRest (fo p0.toNatClampNeg) p1 (fo p2.toNatClampNeg) (by first | omega | assumption | trivial | exact wt_of (by assumption) (by omega)) (by first | omega | assumption | trivial | exact wt_of (by assumption) (by omega)) (by first | omega | assumption | trivial | exact wt_of (by assumption) (by omega)) (by first | omega | assumption | trivial | exact wt_of (by assumption) (by omega)) (by first | omega | assumption | trivial | exact wt_of (by assumption) (by omega))) (fun r61 h26 => ?_)
          have h26 : r61 = pL (fo p0.toNatClampNeg) p1 (fo p2.toNatClampNeg) := h26
          refine ok_o3 (fx_X7_become ac fo p3 r61 (by first | omega | assumption | trivial | exact wt_of (by assumption) (by omega)) (by first | omega | assumption | trivial | exact wt_of (by assumption) (by omega))) (fun r64 c_t_acts_64 f_t_forms_64 h27 => ?_)
          have h27 : r64 = DI r61 ∧ c_t_acts_64 = ac + (1 : Int32) ∧ f_t_forms_64 = vp_updL fo p3.toNatClampNeg r61 := h27
          obtain ⟨h27_0, h27_1, h27_2⟩ := h27
          refine ok_s ?_
          show ok (F_X9_power ac rf th fo p0 p1 p2 p3) (fun q => ((0 = 0 ∧ q.2.2.2.1.toInt = 0) ∨ (0 = 1 ∧ q.2.2.2.1.toInt = 1) ∨ (0 = 2 ∧ q.2.2.2.1.toInt = 2)) ∧ (0 = 0 → r64 = q.1) ∧ c_t_acts_64 = q.2.1 ∧ rf = q.2.2.1 ∧ f_t_forms_64 = q.2.2.2.2 ∧ FA q.2.2.2.2)
          unfold F_X9_power
          refine ok_o (sp_X9_isForm p0 ) (fun r2_2 h28 => ?_)
          have h28 : (r2_2.toInt = 1 ∧ 0 ≤ p0.toInt ∧ p0.toInt ≤ 5) ∨ (r2_2.toInt = 0 ∧ (p0.toInt < 0 ∨ 6 ≤ p0.toInt)) := h28
          refine ok_eq (fun c29 => ?_) (fun c29 => ?_)
          · exfalso; omega
          · refine ok_o (sp_X9_isForm p2 ) (fun r9_2 h30 => ?_)
            have h30 : (r9_2.toInt = 1 ∧ 0 ≤ p2.toInt ∧ p2.toInt ≤ 5) ∨ (r9_2.toInt = 0 ∧ (p2.toInt < 0 ∨ 6 ≤ p2.toInt)) := h30
            refine ok_eq (fun c31 => ?_) (fun c31 => ?_)
            · exfalso; omega
            · refine ok_o (sp_X9_isForm p3 ) (fun r17_2 h32 => ?_)
              have h32 : (r17_2.toInt = 1 ∧ 0 ≤ p3.toInt ∧ p3.toInt ≤ 5) ∨ (r17_2.toInt = 0 ∧ (p3.toInt < 0 ∨ 6 ≤ p3.toInt)) := h32
              refine ok_eq (fun c33 => ?_) (fun c33 => ?_)
              · exfalso; omega
              · first | unfold J_X9_power_28 | skip
                refine ok_lt (fun c34 => ?_) (fun c34 => ?_)
                · exfalso; omega
                · refine ok_le (fun c35 => ?_) (fun c35 => ?_)
                  · first | unfold J_X9_power_44 | skip
                    refine ok_o2 (sp_X9_isThrown (0 : Int32) (0 : Int32) ) (fun r44_2 c_t_thrown_44_2 h36 => ?_)
                    have h36 : (r44_2.toInt = 0 ∧ c_t_thrown_44_2.toInt = 0 ∧ (0 : Int32).toInt = 0 ∧ (0 : Int32).toInt = 0) ∨ (r44_2.toInt = 1 ∧ c_t_thrown_44_2.toInt = 1 ∧ (0 : Int32).toInt ≠ 0) ∨ (r44_2.toInt = 1 ∧ c_t_thrown_44_2.toInt = 2 ∧ (0 : Int32).toInt = 0 ∧ (0 : Int32).toInt ≠ 0) := h36
                    refine ok_eq (fun c37 => ?_) (fun c37 => ?_)
                    · refine ok_c (ixo (by omega) (by omega)) ?_
                      try have a39 := FA_at (f := fo) (by assumption) p2.toNatClampNeg
                      have z_c38 := DG_z (fo p2.toNatClampNeg)
                      refine ok_eqL (fun c38 => ?_) (fun c38 => ?_)
                      · exfalso; omega
                      · refine ok_c (ixo (by omega) (by omega)) ?_
                        try have a40 := FA_at (f := fo) (by assumption) p2.toNatClampNeg
                        refine ok_o (fx_X9_degreeOf (fo p2.toNatClampNeg) ) (fun r69 h41 => ?_)
                        have h41 : r69 = DI (fo p2.toNatClampNeg) ∧ r69.toInt = DG (fo p2.toNatClampNeg) ∧ -1 ≤ r69.toInt ∧ r69.toInt ≤ 63 := h41
                        obtain ⟨h41_0, h41_1, h41_2, h41_3⟩ := h41
                        refine ok_le (fun c42 => ?_) (fun c42 => ?_)
                        · refine ok_c (ixo (by omega) (by omega)) ?_
                          refine ok_c (ixo (by omega) (by omega)) ?_
                          try have a43 := FA_at (f := fo) (by assumption) p0.toNatClampNeg
                          try have a44 := FA_at (f := fo) (by assumption) p2.toNatClampNeg
                          refine ok_o (fx_X9_powerOf (fo p0.toNatClampNeg) p1 (fo p2.toNatClampNeg) (by first | omega | assumption | trivial | exact wt_of (by assumption) (by omega)) (by first | omega | assumption | trivial | exact wt_of (by assumption) (by omega)) (by first | omega | assumption | trivial | exact wt_of (by assumption) (by omega)) (by first | omega | assumption | trivial | exact wt_of (by assumption) (by omega)) (by first | omega | assumption | trivial | exact wt_of (by assumption) (by omega))) (fun r100 h45 => ?_)
                          have h45 : DG r100 ≤ 39 ∧ r100 = pL (fo p0.toNatClampNeg) p1 (fo p2.toNatClampNeg) := h45
                          obtain ⟨h45_0, h45_1⟩ := h45
                          refine ok_o3 (fx_X9_give ac fo p3 r100 (by first | omega | assumption | trivial | exact wt_of (by assumption) (by omega)) (by first | omega | assumption | trivial | exact wt_of (by assumption) (by omega)) (by first | omega | assumption | trivial | exact wt_of (by assumption) (by omega)) (by first | omega | assumption | trivial | exact wt_of (by assumption) (by omega))) (fun r103 c_t_acts_103 f_t_forms_103 h46 => ?_)
                          have h46 : r103 = DI r100 ∧ c_t_acts_103 = ac + (1 : Int32) ∧ f_t_forms_103 = vp_updL fo p3.toNatClampNeg r100 ∧ FA f_t_forms_103 := h46
                          obtain ⟨h46_0, h46_1, h46_2, h46_3⟩ := h46
                          refine ok_s (show ((0 = 0 ∧ c_t_thrown_44_2.toInt = 0) ∨ (0 = 1 ∧ c_t_thrown_44_2.toInt = 1) ∨ (0 = 2 ∧ c_t_thrown_44_2.toInt = 2)) ∧ (0 = 0 → r64 = r103) ∧ c_t_acts_64 = c_t_acts_103 ∧ rf = rf ∧ f_t_forms_64 = f_t_forms_103 ∧ FA f_t_forms_103 from ?_)
                          first | (exfalso; omega) | (subst_vars; first | (exfalso; omega) | (refine ⟨?_, ?_, ?_, ?_, ?_, ?_⟩ <;> (first | assumption | rfl | omega | (intro hx; first | rfl | assumption | (exfalso; omega) | exact Int32.toInt_inj.mp (by omega)) | exact Int32.toInt_inj.mp (by omega) | (rw [uu_a, uu_a]))))
                        · exfalso; omega
                    · exfalso; omega
                  · exfalso; omega
        · refine ok_o2 (fx_X7_refuse rf ) (fun r41_2 c_t_refusals_41_2 h47 => ?_)
          have h47 : r41_2 = (-9 : Int32) ∧ c_t_refusals_41_2 = rf + (1 : Int32) := h47
          obtain ⟨h47_0, h47_1⟩ := h47
          refine ok_s ?_
          show ok (F_X9_power ac rf th fo p0 p1 p2 p3) (fun q => ((0 = 0 ∧ q.2.2.2.1.toInt = 0) ∨ (0 = 1 ∧ q.2.2.2.1.toInt = 1) ∨ (0 = 2 ∧ q.2.2.2.1.toInt = 2)) ∧ (0 = 0 → r41_2 = q.1) ∧ ac = q.2.1 ∧ c_t_refusals_41_2 = q.2.2.1 ∧ fo = q.2.2.2.2 ∧ FA q.2.2.2.2)
          unfold F_X9_power
          refine ok_o (sp_X9_isForm p0 ) (fun r2_3 h48 => ?_)
          have h48 : (r2_3.toInt = 1 ∧ 0 ≤ p0.toInt ∧ p0.toInt ≤ 5) ∨ (r2_3.toInt = 0 ∧ (p0.toInt < 0 ∨ 6 ≤ p0.toInt)) := h48
          refine ok_eq (fun c49 => ?_) (fun c49 => ?_)
          · exfalso; omega
          · refine ok_o (sp_X9_isForm p2 ) (fun r9_3 h50 => ?_)
            have h50 : (r9_3.toInt = 1 ∧ 0 ≤ p2.toInt ∧ p2.toInt ≤ 5) ∨ (r9_3.toInt = 0 ∧ (p2.toInt < 0 ∨ 6 ≤ p2.toInt)) := h50
            refine ok_eq (fun c51 => ?_) (fun c51 => ?_)
            · exfalso; omega
            · refine ok_o (sp_X9_isForm p3 ) (fun r17_3 h52 => ?_)
              have h52 : (r17_3.toInt = 1 ∧ 0 ≤ p3.toInt ∧ p3.toInt ≤ 5) ∨ (r17_3.toInt = 0 ∧ (p3.toInt < 0 ∨ 6 ≤ p3.toInt)) := h52
              refine ok_eq (fun c53 => ?_) (fun c53 => ?_)
              · exfalso; omega
              · first | unfold J_X9_power_28 | skip
                refine ok_lt (fun c54 => ?_) (fun c54 => ?_)
                · exfalso; omega
                · refine ok_le (fun c55 => ?_) (fun c55 => ?_)
                  · first | unfold J_X9_power_44 | skip
                    refine ok_o2 (sp_X9_isThrown (0 : Int32) (0 : Int32) ) (fun r44_3 c_t_thrown_44_3 h56 => ?_)
                    have h56 : (r44_3.toInt = 0 ∧ c_t_thrown_44_3.toInt = 0 ∧ (0 : Int32).toInt = 0 ∧ (0 : Int32).toInt = 0) ∨ (r44_3.toInt = 1 ∧ c_t_thrown_44_3.toInt = 1 ∧ (0 : Int32).toInt ≠ 0) ∨ (r44_3.toInt = 1 ∧ c_t_thrown_44_3.toInt = 2 ∧ (0 : Int32).toInt = 0 ∧ (0 : Int32).toInt ≠ 0) := h56
                    refine ok_eq (fun c57 => ?_) (fun c57 => ?_)
                    · refine ok_c (ixo (by omega) (by omega)) ?_
                      try have a59 := FA_at (f := fo) (by assumption) p2.toNatClampNeg
                      have z_c58 := DG_z (fo p2.toNatClampNeg)
                      refine ok_eqL (fun c58 => ?_) (fun c58 => ?_)
                      · exfalso; omega
                      · refine ok_c (ixo (by omega) (by omega)) ?_
                        try have a60 := FA_at (f := fo) (by assumption) p2.toNatClampNeg
                        refine ok_o (fx_X9_degreeOf (fo p2.toNatClampNeg) ) (fun r69_2 h61 => ?_)
                        have h61 : r69_2 = DI (fo p2.toNatClampNeg) ∧ r69_2.toInt = DG (fo p2.toNatClampNeg) ∧ -1 ≤ r69_2.toInt ∧ r69_2.toInt ≤ 63 := h61
                        obtain ⟨h61_0, h61_1, h61_2, h61_3⟩ := h61
                        refine ok_le (fun c62 => ?_) (fun c62 => ?_)
                        · exfalso; omega
                        · refine ok_o2 (fx_X9_no rf ) (fun r78_2 c_t_refused_78_2 h63 => ?_)
                          have h63 : r78_2 = (-9 : Int32) ∧ c_t_refused_78_2 = rf + (1 : Int32) := h63
                          obtain ⟨h63_0, h63_1⟩ := h63
                          refine ok_s (show ((0 = 0 ∧ c_t_thrown_44_3.toInt = 0) ∨ (0 = 1 ∧ c_t_thrown_44_3.toInt = 1) ∨ (0 = 2 ∧ c_t_thrown_44_3.toInt = 2)) ∧ (0 = 0 → r41_2 = r78_2) ∧ ac = ac ∧ c_t_refusals_41_2 = c_t_refused_78_2 ∧ fo = fo ∧ FA fo from ?_)
                          first | (exfalso; omega) | (subst_vars; first | (exfalso; omega) | (refine ⟨?_, ?_, ?_, ?_, ?_, ?_⟩ <;> (first | assumption | rfl | omega | (intro hx; first | rfl | assumption | (exfalso; omega) | exact Int32.toInt_inj.mp (by omega)) | exact Int32.toInt_inj.mp (by omega) | (rw [uu_a, uu_a]))))
                    · exfalso; omega
                  · exfalso; omega
    · refine ok_s ?_
      show ok (F_X9_power ac rf th fo p0 p1 p2 p3) (fun q => ((xc12 = 0 ∧ q.2.2.2.1.toInt = 0) ∨ (xc12 = 1 ∧ q.2.2.2.1.toInt = 1) ∨ (xc12 = 2 ∧ q.2.2.2.1.toInt = 2)) ∧ (xc12 = 0 → (0 : Int32) = q.1) ∧ ac = q.2.1 ∧ rf = q.2.2.1 ∧ fo = q.2.2.2.2 ∧ FA q.2.2.2.2)
      unfold F_X9_power
      refine ok_o (sp_X9_isForm p0 ) (fun r2_4 h64 => ?_)
      have h64 : (r2_4.toInt = 1 ∧ 0 ≤ p0.toInt ∧ p0.toInt ≤ 5) ∨ (r2_4.toInt = 0 ∧ (p0.toInt < 0 ∨ 6 ≤ p0.toInt)) := h64
      refine ok_eq (fun c65 => ?_) (fun c65 => ?_)
      · exfalso; omega
      · refine ok_o (sp_X9_isForm p2 ) (fun r9_4 h66 => ?_)
        have h66 : (r9_4.toInt = 1 ∧ 0 ≤ p2.toInt ∧ p2.toInt ≤ 5) ∨ (r9_4.toInt = 0 ∧ (p2.toInt < 0 ∨ 6 ≤ p2.toInt)) := h66
        refine ok_eq (fun c67 => ?_) (fun c67 => ?_)
        · exfalso; omega
        · refine ok_o (sp_X9_isForm p3 ) (fun r17_4 h68 => ?_)
          have h68 : (r17_4.toInt = 1 ∧ 0 ≤ p3.toInt ∧ p3.toInt ≤ 5) ∨ (r17_4.toInt = 0 ∧ (p3.toInt < 0 ∨ 6 ≤ p3.toInt)) := h68
          refine ok_eq (fun c69 => ?_) (fun c69 => ?_)
          · exfalso; omega
          · first | unfold J_X9_power_28 | skip
            refine ok_lt (fun c70 => ?_) (fun c70 => ?_)
            · first | unfold J_X9_power_39 | skip
              first | unfold J_X9_power_44 | skip
              refine ok_o2 (sp_X9_isThrown (0 : Int32) (1 : Int32) ) (fun r44_4 c_t_thrown_44_4 h71 => ?_)
              have h71 : (r44_4.toInt = 0 ∧ c_t_thrown_44_4.toInt = 0 ∧ (0 : Int32).toInt = 0 ∧ (1 : Int32).toInt = 0) ∨ (r44_4.toInt = 1 ∧ c_t_thrown_44_4.toInt = 1 ∧ (0 : Int32).toInt ≠ 0) ∨ (r44_4.toInt = 1 ∧ c_t_thrown_44_4.toInt = 2 ∧ (0 : Int32).toInt = 0 ∧ (1 : Int32).toInt ≠ 0) := h71
              refine ok_eq (fun c72 => ?_) (fun c72 => ?_)
              · exfalso; omega
              · refine ok_s (show ((xc12 = 0 ∧ c_t_thrown_44_4.toInt = 0) ∨ (xc12 = 1 ∧ c_t_thrown_44_4.toInt = 1) ∨ (xc12 = 2 ∧ c_t_thrown_44_4.toInt = 2)) ∧ (xc12 = 0 → (0 : Int32) = (0 : Int32)) ∧ ac = ac ∧ rf = rf ∧ fo = fo ∧ FA fo from ?_)
                first | (exfalso; omega) | (subst_vars; first | (exfalso; omega) | (refine ⟨?_, ?_, ?_, ?_, ?_, ?_⟩ <;> (first | assumption | rfl | omega | (intro hx; first | rfl | assumption | (exfalso; omega) | exact Int32.toInt_inj.mp (by omega)) | exact Int32.toInt_inj.mp (by omega) | (rw [uu_a, uu_a]))))
            · refine ok_le (fun c73 => ?_) (fun c73 => ?_)
              · exfalso; omega
              · first | unfold J_X9_power_39 | skip
                first | unfold J_X9_power_44 | skip
                refine ok_o2 (sp_X9_isThrown (0 : Int32) (1 : Int32) ) (fun r44_5 c_t_thrown_44_5 h74 => ?_)
                have h74 : (r44_5.toInt = 0 ∧ c_t_thrown_44_5.toInt = 0 ∧ (0 : Int32).toInt = 0 ∧ (1 : Int32).toInt = 0) ∨ (r44_5.toInt = 1 ∧ c_t_thrown_44_5.toInt = 1 ∧ (0 : Int32).toInt ≠ 0) ∨ (r44_5.toInt = 1 ∧ c_t_thrown_44_5.toInt = 2 ∧ (0 : Int32).toInt = 0 ∧ (1 : Int32).toInt ≠ 0) := h74
                refine ok_eq (fun c75 => ?_) (fun c75 => ?_)
                · exfalso; omega
                · refine ok_s (show ((xc12 = 0 ∧ c_t_thrown_44_5.toInt = 0) ∨ (xc12 = 1 ∧ c_t_thrown_44_5.toInt = 1) ∨ (xc12 = 2 ∧ c_t_thrown_44_5.toInt = 2)) ∧ (xc12 = 0 → (0 : Int32) = (0 : Int32)) ∧ ac = ac ∧ rf = rf ∧ fo = fo ∧ FA fo from ?_)
                  first | (exfalso; omega) | (subst_vars; first | (exfalso; omega) | (refine ⟨?_, ?_, ?_, ?_, ?_, ?_⟩ <;> (first | assumption | rfl | omega | (intro hx; first | rfl | assumption | (exfalso; omega) | exact Int32.toInt_inj.mp (by omega)) | exact Int32.toInt_inj.mp (by omega) | (rw [uu_a, uu_a]))))
  · refine ok_s ?_
    show ok (F_X9_power ac rf th fo p0 p1 p2 p3) (fun q => ((xc4 = 0 ∧ q.2.2.2.1.toInt = 0) ∨ (xc4 = 1 ∧ q.2.2.2.1.toInt = 1) ∨ (xc4 = 2 ∧ q.2.2.2.1.toInt = 2)) ∧ (xc4 = 0 → (0 : Int32) = q.1) ∧ ac = q.2.1 ∧ rf = q.2.2.1 ∧ fo = q.2.2.2.2 ∧ FA q.2.2.2.2)
    unfold F_X9_power
    refine ok_o (sp_X9_isForm p0 ) (fun r2_5 h76 => ?_)
    have h76 : (r2_5.toInt = 1 ∧ 0 ≤ p0.toInt ∧ p0.toInt ≤ 5) ∨ (r2_5.toInt = 0 ∧ (p0.toInt < 0 ∨ 6 ≤ p0.toInt)) := h76
    refine ok_eq (fun c77 => ?_) (fun c77 => ?_)
    · first | unfold J_X9_power_23 | skip
      first | unfold J_X9_power_28 | skip
      refine ok_lt (fun c78 => ?_) (fun c78 => ?_)
      · first | unfold J_X9_power_39 | skip
        first | unfold J_X9_power_44 | skip
        refine ok_o2 (sp_X9_isThrown (1 : Int32) (1 : Int32) ) (fun r44_6 c_t_thrown_44_6 h79 => ?_)
        have h79 : (r44_6.toInt = 0 ∧ c_t_thrown_44_6.toInt = 0 ∧ (1 : Int32).toInt = 0 ∧ (1 : Int32).toInt = 0) ∨ (r44_6.toInt = 1 ∧ c_t_thrown_44_6.toInt = 1 ∧ (1 : Int32).toInt ≠ 0) ∨ (r44_6.toInt = 1 ∧ c_t_thrown_44_6.toInt = 2 ∧ (1 : Int32).toInt = 0 ∧ (1 : Int32).toInt ≠ 0) := h79
        refine ok_eq (fun c80 => ?_) (fun c80 => ?_)
        · exfalso; omega
        · refine ok_s (show ((xc4 = 0 ∧ c_t_thrown_44_6.toInt = 0) ∨ (xc4 = 1 ∧ c_t_thrown_44_6.toInt = 1) ∨ (xc4 = 2 ∧ c_t_thrown_44_6.toInt = 2)) ∧ (xc4 = 0 → (0 : Int32) = (0 : Int32)) ∧ ac = ac ∧ rf = rf ∧ fo = fo ∧ FA fo from ?_)
          first | (exfalso; omega) | (subst_vars; first | (exfalso; omega) | (refine ⟨?_, ?_, ?_, ?_, ?_, ?_⟩ <;> (first | assumption | rfl | omega | (intro hx; first | rfl | assumption | (exfalso; omega) | exact Int32.toInt_inj.mp (by omega)) | exact Int32.toInt_inj.mp (by omega) | (rw [uu_a, uu_a]))))
      · refine ok_le (fun c81 => ?_) (fun c81 => ?_)
        · first | unfold J_X9_power_44 | skip
          refine ok_o2 (sp_X9_isThrown (1 : Int32) (0 : Int32) ) (fun r44_7 c_t_thrown_44_7 h82 => ?_)
          have h82 : (r44_7.toInt = 0 ∧ c_t_thrown_44_7.toInt = 0 ∧ (1 : Int32).toInt = 0 ∧ (0 : Int32).toInt = 0) ∨ (r44_7.toInt = 1 ∧ c_t_thrown_44_7.toInt = 1 ∧ (1 : Int32).toInt ≠ 0) ∨ (r44_7.toInt = 1 ∧ c_t_thrown_44_7.toInt = 2 ∧ (1 : Int32).toInt = 0 ∧ (0 : Int32).toInt ≠ 0) := h82
          refine ok_eq (fun c83 => ?_) (fun c83 => ?_)
          · exfalso; omega
          · refine ok_s (show ((xc4 = 0 ∧ c_t_thrown_44_7.toInt = 0) ∨ (xc4 = 1 ∧ c_t_thrown_44_7.toInt = 1) ∨ (xc4 = 2 ∧ c_t_thrown_44_7.toInt = 2)) ∧ (xc4 = 0 → (0 : Int32) = (0 : Int32)) ∧ ac = ac ∧ rf = rf ∧ fo = fo ∧ FA fo from ?_)
            first | (exfalso; omega) | (subst_vars; first | (exfalso; omega) | (refine ⟨?_, ?_, ?_, ?_, ?_, ?_⟩ <;> (first | assumption | rfl | omega | (intro hx; first | rfl | assumption | (exfalso; omega) | exact Int32.toInt_inj.mp (by omega)) | exact Int32.toInt_inj.mp (by omega) | (rw [uu_a, uu_a]))))
        · first | unfold J_X9_power_39 | skip
          first | unfold J_X9_power_44 | skip
          refine ok_o2 (sp_X9_isThrown (1 : Int32) (1 : Int32) ) (fun r44_8 c_t_thrown_44_8 h84 => ?_)
          have h84 : (r44_8.toInt = 0 ∧ c_t_thrown_44_8.toInt = 0 ∧ (1 : Int32).toInt = 0 ∧ (1 : Int32).toInt = 0) ∨ (r44_8.toInt = 1 ∧ c_t_thrown_44_8.toInt = 1 ∧ (1 : Int32).toInt ≠ 0) ∨ (r44_8.toInt = 1 ∧ c_t_thrown_44_8.toInt = 2 ∧ (1 : Int32).toInt = 0 ∧ (1 : Int32).toInt ≠ 0) := h84
          refine ok_eq (fun c85 => ?_) (fun c85 => ?_)
          · exfalso; omega
          · refine ok_s (show ((xc4 = 0 ∧ c_t_thrown_44_8.toInt = 0) ∨ (xc4 = 1 ∧ c_t_thrown_44_8.toInt = 1) ∨ (xc4 = 2 ∧ c_t_thrown_44_8.toInt = 2)) ∧ (xc4 = 0 → (0 : Int32) = (0 : Int32)) ∧ ac = ac ∧ rf = rf ∧ fo = fo ∧ FA fo from ?_)
            first | (exfalso; omega) | (subst_vars; first | (exfalso; omega) | (refine ⟨?_, ?_, ?_, ?_, ?_, ?_⟩ <;> (first | assumption | rfl | omega | (intro hx; first | rfl | assumption | (exfalso; omega) | exact Int32.toInt_inj.mp (by omega)) | exact Int32.toInt_inj.mp (by omega) | (rw [uu_a, uu_a]))))
    · refine ok_o (sp_X9_isForm p2 ) (fun r9_5 h86 => ?_)
      have h86 : (r9_5.toInt = 1 ∧ 0 ≤ p2.toInt ∧ p2.toInt ≤ 5) ∨ (r9_5.toInt = 0 ∧ (p2.toInt < 0 ∨ 6 ≤ p2.toInt)) := h86
      refine ok_eq (fun c87 => ?_) (fun c87 => ?_)
      · first | unfold J_X9_power_23 | skip
        first | unfold J_X9_power_28 | skip
        refine ok_lt (fun c88 => ?_) (fun c88 => ?_)
        · first | unfold J_X9_power_39 | skip
          first | unfold J_X9_power_44 | skip
          refine ok_o2 (sp_X9_isThrown (1 : Int32) (1 : Int32) ) (fun r44_9 c_t_thrown_44_9 h89 => ?_)
          have h89 : (r44_9.toInt = 0 ∧ c_t_thrown_44_9.toInt = 0 ∧ (1 : Int32).toInt = 0 ∧ (1 : Int32).toInt = 0) ∨ (r44_9.toInt = 1 ∧ c_t_thrown_44_9.toInt = 1 ∧ (1 : Int32).toInt ≠ 0) ∨ (r44_9.toInt = 1 ∧ c_t_thrown_44_9.toInt = 2 ∧ (1 : Int32).toInt = 0 ∧ (1 : Int32).toInt ≠ 0) := h89
          refine ok_eq (fun c90 => ?_) (fun c90 => ?_)
          · exfalso; omega
          · refine ok_s (show ((xc4 = 0 ∧ c_t_thrown_44_9.toInt = 0) ∨ (xc4 = 1 ∧ c_t_thrown_44_9.toInt = 1) ∨ (xc4 = 2 ∧ c_t_thrown_44_9.toInt = 2)) ∧ (xc4 = 0 → (0 : Int32) = (0 : Int32)) ∧ ac = ac ∧ rf = rf ∧ fo = fo ∧ FA fo from ?_)
            first | (exfalso; omega) | (subst_vars; first | (exfalso; omega) | (refine ⟨?_, ?_, ?_, ?_, ?_, ?_⟩ <;> (first | assumption | rfl | omega | (intro hx; first | rfl | assumption | (exfalso; omega) | exact Int32.toInt_inj.mp (by omega)) | exact Int32.toInt_inj.mp (by omega) | (rw [uu_a, uu_a]))))
        · refine ok_le (fun c91 => ?_) (fun c91 => ?_)
          · first | unfold J_X9_power_44 | skip
            refine ok_o2 (sp_X9_isThrown (1 : Int32) (0 : Int32) ) (fun r44_10 c_t_thrown_44_10 h92 => ?_)
            have h92 : (r44_10.toInt = 0 ∧ c_t_thrown_44_10.toInt = 0 ∧ (1 : Int32).toInt = 0 ∧ (0 : Int32).toInt = 0) ∨ (r44_10.toInt = 1 ∧ c_t_thrown_44_10.toInt = 1 ∧ (1 : Int32).toInt ≠ 0) ∨ (r44_10.toInt = 1 ∧ c_t_thrown_44_10.toInt = 2 ∧ (1 : Int32).toInt = 0 ∧ (0 : Int32).toInt ≠ 0) := h92
            refine ok_eq (fun c93 => ?_) (fun c93 => ?_)
            · exfalso; omega
            · refine ok_s (show ((xc4 = 0 ∧ c_t_thrown_44_10.toInt = 0) ∨ (xc4 = 1 ∧ c_t_thrown_44_10.toInt = 1) ∨ (xc4 = 2 ∧ c_t_thrown_44_10.toInt = 2)) ∧ (xc4 = 0 → (0 : Int32) = (0 : Int32)) ∧ ac = ac ∧ rf = rf ∧ fo = fo ∧ FA fo from ?_)
              first | (exfalso; omega) | (subst_vars; first | (exfalso; omega) | (refine ⟨?_, ?_, ?_, ?_, ?_, ?_⟩ <;> (first | assumption | rfl | omega | (intro hx; first | rfl | assumption | (exfalso; omega) | exact Int32.toInt_inj.mp (by omega)) | exact Int32.toInt_inj.mp (by omega) | (rw [uu_a, uu_a]))))
          · first | unfold J_X9_power_39 | skip
            first | unfold J_X9_power_44 | skip
            refine ok_o2 (sp_X9_isThrown (1 : Int32) (1 : Int32) ) (fun r44_11 c_t_thrown_44_11 h94 => ?_)
            have h94 : (r44_11.toInt = 0 ∧ c_t_thrown_44_11.toInt = 0 ∧ (1 : Int32).toInt = 0 ∧ (1 : Int32).toInt = 0) ∨ (r44_11.toInt = 1 ∧ c_t_thrown_44_11.toInt = 1 ∧ (1 : Int32).toInt ≠ 0) ∨ (r44_11.toInt = 1 ∧ c_t_thrown_44_11.toInt = 2 ∧ (1 : Int32).toInt = 0 ∧ (1 : Int32).toInt ≠ 0) := h94
            refine ok_eq (fun c95 => ?_) (fun c95 => ?_)
            · exfalso; omega
            · refine ok_s (show ((xc4 = 0 ∧ c_t_thrown_44_11.toInt = 0) ∨ (xc4 = 1 ∧ c_t_thrown_44_11.toInt = 1) ∨ (xc4 = 2 ∧ c_t_thrown_44_11.toInt = 2)) ∧ (xc4 = 0 → (0 : Int32) = (0 : Int32)) ∧ ac = ac ∧ rf = rf ∧ fo = fo ∧ FA fo from ?_)
              first | (exfalso; omega) | (subst_vars; first | (exfalso; omega) | (refine ⟨?_, ?_, ?_, ?_, ?_, ?_⟩ <;> (first | assumption | rfl | omega | (intro hx; first | rfl | assumption | (exfalso; omega) | exact Int32.toInt_inj.mp (by omega)) | exact Int32.toInt_inj.mp (by omega) | (rw [uu_a, uu_a]))))
      · refine ok_o (sp_X9_isForm p3 ) (fun r17_5 h96 => ?_)
        have h96 : (r17_5.toInt = 1 ∧ 0 ≤ p3.toInt ∧ p3.toInt ≤ 5) ∨ (r17_5.toInt = 0 ∧ (p3.toInt < 0 ∨ 6 ≤ p3.toInt)) := h96
        refine ok_eq (fun c97 => ?_) (fun c97 => ?_)
        · first | unfold J_X9_power_23 | skip
          first | unfold J_X9_power_28 | skip
          refine ok_lt (fun c98 => ?_) (fun c98 => ?_)
          · first | unfold J_X9_power_39 | skip
            first | unfold J_X9_power_44 | skip
            refine ok_o2 (sp_X9_isThrown (1 : Int32) (1 : Int32) ) (fun r44_12 c_t_thrown_44_12 h99 => ?_)
            have h99 : (r44_12.toInt = 0 ∧ c_t_thrown_44_12.toInt = 0 ∧ (1 : Int32).toInt = 0 ∧ (1 : Int32).toInt = 0) ∨ (r44_12.toInt = 1 ∧ c_t_thrown_44_12.toInt = 1 ∧ (1 : Int32).toInt ≠ 0) ∨ (r44_12.toInt = 1 ∧ c_t_thrown_44_12.toInt = 2 ∧ (1 : Int32).toInt = 0 ∧ (1 : Int32).toInt ≠ 0) := h99
            refine ok_eq (fun c100 => ?_) (fun c100 => ?_)
            · exfalso; omega
            · refine ok_s (show ((xc4 = 0 ∧ c_t_thrown_44_12.toInt = 0) ∨ (xc4 = 1 ∧ c_t_thrown_44_12.toInt = 1) ∨ (xc4 = 2 ∧ c_t_thrown_44_12.toInt = 2)) ∧ (xc4 = 0 → (0 : Int32) = (0 : Int32)) ∧ ac = ac ∧ rf = rf ∧ fo = fo ∧ FA fo from ?_)
              first | (exfalso; omega) | (subst_vars; first | (exfalso; omega) | (refine ⟨?_, ?_, ?_, ?_, ?_, ?_⟩ <;> (first | assumption | rfl | omega | (intro hx; first | rfl | assumption | (exfalso; omega) | exact Int32.toInt_inj.mp (by omega)) | exact Int32.toInt_inj.mp (by omega) | (rw [uu_a, uu_a]))))
          · refine ok_le (fun c101 => ?_) (fun c101 => ?_)
            · first | unfold J_X9_power_44 | skip
              refine ok_o2 (sp_X9_isThrown (1 : Int32) (0 : Int32) ) (fun r44_13 c_t_thrown_44_13 h102 => ?_)
              have h102 : (r44_13.toInt = 0 ∧ c_t_thrown_44_13.toInt = 0 ∧ (1 : Int32).toInt = 0 ∧ (0 : Int32).toInt = 0) ∨ (r44_13.toInt = 1 ∧ c_t_thrown_44_13.toInt = 1 ∧ (1 : Int32).toInt ≠ 0) ∨ (r44_13.toInt = 1 ∧ c_t_thrown_44_13.toInt = 2 ∧ (1 : Int32).toInt = 0 ∧ (0 : Int32).toInt ≠ 0) := h102
              refine ok_eq (fun c103 => ?_) (fun c103 => ?_)
              · exfalso; omega
              · refine ok_s (show ((xc4 = 0 ∧ c_t_thrown_44_13.toInt = 0) ∨ (xc4 = 1 ∧ c_t_thrown_44_13.toInt = 1) ∨ (xc4 = 2 ∧ c_t_thrown_44_13.toInt = 2)) ∧ (xc4 = 0 → (0 : Int32) = (0 : Int32)) ∧ ac = ac ∧ rf = rf ∧ fo = fo ∧ FA fo from ?_)
                first | (exfalso; omega) | (subst_vars; first | (exfalso; omega) | (refine ⟨?_, ?_, ?_, ?_, ?_, ?_⟩ <;> (first | assumption | rfl | omega | (intro hx; first | rfl | assumption | (exfalso; omega) | exact Int32.toInt_inj.mp (by omega)) | exact Int32.toInt_inj.mp (by omega) | (rw [uu_a, uu_a]))))
            · first | unfold J_X9_power_39 | skip
              first | unfold J_X9_power_44 | skip
              refine ok_o2 (sp_X9_isThrown (1 : Int32) (1 : Int32) ) (fun r44_14 c_t_thrown_44_14 h104 => ?_)
              have h104 : (r44_14.toInt = 0 ∧ c_t_thrown_44_14.toInt = 0 ∧ (1 : Int32).toInt = 0 ∧ (1 : Int32).toInt = 0) ∨ (r44_14.toInt = 1 ∧ c_t_thrown_44_14.toInt = 1 ∧ (1 : Int32).toInt ≠ 0) ∨ (r44_14.toInt = 1 ∧ c_t_thrown_44_14.toInt = 2 ∧ (1 : Int32).toInt = 0 ∧ (1 : Int32).toInt ≠ 0) := h104
              refine ok_eq (fun c105 => ?_) (fun c105 => ?_)
              · exfalso; omega
              · refine ok_s (show ((xc4 = 0 ∧ c_t_thrown_44_14.toInt = 0) ∨ (xc4 = 1 ∧ c_t_thrown_44_14.toInt = 1) ∨ (xc4 = 2 ∧ c_t_thrown_44_14.toInt = 2)) ∧ (xc4 = 0 → (0 : Int32) = (0 : Int32)) ∧ ac = ac ∧ rf = rf ∧ fo = fo ∧ FA fo from ?_)
                first | (exfalso; omega) | (subst_vars; first | (exfalso; omega) | (refine ⟨?_, ?_, ?_, ?_, ?_, ?_⟩ <;> (first | assumption | rfl | omega | (intro hx; first | rfl | assumption | (exfalso; omega) | exact Int32.toInt_inj.mp (by omega)) | exact Int32.toInt_inj.mp (by omega) | (rw [uu_a, uu_a]))))
        · exfalso; omega
set_option maxHeartbeats 1000000 in
theorem s7_allPrimes (ac : Int32) (fo : Nat → Int64) (th : Int32) (p0 : Int32) (p1 : Int32) (hp0 : FA fo) : ok (F_X7_allPrimes ac fo p0 p1) (fun r => ok (F_X9_allPrimes ac th fo p0 p1) (fun q => ((r.1 = 0 ∧ q.2.2.1.toInt = 0) ∨ (r.1 = 1 ∧ q.2.2.1.toInt = 1) ∨ (r.1 = 2 ∧ q.2.2.1.toInt = 2)) ∧ (r.1 = 0 → r.2.1 = q.1) ∧ r.2.2.1 = q.2.1 ∧ r.2.2.2 = q.2.2.2 ∧ FA q.2.2.2)) := by
  have l032 : (0 : Int32).toInt = 0 := by decide
  have l132 : (1 : Int32).toInt = 1 := by decide
  have l164 : (1 : Int64).toInt = 1 := by decide
  have l264 : (2 : Int64).toInt = 2 := by decide
  have l532 : (5 : Int32).toInt = 5 := by decide
  unfold F_X7_allPrimes
  refine ok_o (fx_X7_testForm p1 ) (fun xc1 h1 => ?_)
  have h1 : (xc1 = 0 ∧ 0 ≤ p1.toInt ∧ p1.toInt ≤ 5) ∨ (xc1 = 1 ∧ (p1.toInt < 0 ∨ 5 < p1.toInt)) := h1
  refine ok_i (fun c2 => ?_) (fun c2 => ?_)
  · refine ok_o (sp_X7_testRange p0 (1 : Int32) (5 : Int32) ) (fun xc7 h3 => ?_)
    have h3 : (xc7 = 0 ∧ (1 : Int32).toInt ≤ p0.toInt ∧ p0.toInt ≤ (5 : Int32).toInt) ∨ (xc7 = 2 ∧ (p0.toInt < (1 : Int32).toInt ∨ (5 : Int32).toInt < p0.toInt)) := h3
    refine ok_i (fun c4 => ?_) (fun c4 => ?_)
    · refine ok_o (fx_X2_productOfAll p0 (by first | omega | assumption | trivial | exact wt_of (by assumption) (by omega)) (by first | omega | assumption | trivial | exact wt_of (by assumption) (by omega))) (fun r13 h5 => ?_)
      have h5 : r13 = APV p0 := h5
      refine ok_o3 (fx_X7_become ac fo p1 r13 (by first | omega | assumption | trivial | exact wt_of (by assumption) (by omega)) (by first | omega | assumption | trivial | exact wt_of (by assumption) (by omega))) (fun r16 c_t_acts_16 f_t_forms_16 h6 => ?_)
      have h6 : r16 = DI r13 ∧ c_t_acts_16 = ac + (1 : Int32) ∧ f_t_forms_16 = vp_updL fo p1.toNatClampNeg r13 := h6
      obtain ⟨h6_0, h6_1, h6_2⟩ := h6
      refine ok_s ?_
      show ok (F_X9_allPrimes ac th fo p0 p1) (fun q => ((0 = 0 ∧ q.2.2.1.toInt = 0) ∨ (0 = 1 ∧ q.2.2.1.toInt = 1) ∨ (0 = 2 ∧ q.2.2.1.toInt = 2)) ∧ (0 = 0 → r16 = q.1) ∧ c_t_acts_16 = q.2.1 ∧ f_t_forms_16 = q.2.2.2 ∧ FA q.2.2.2)
      unfold F_X9_allPrimes
      refine ok_o (sp_X9_isForm p1 ) (fun r2 h7 => ?_)
      have h7 : (r2.toInt = 1 ∧ 0 ≤ p1.toInt ∧ p1.toInt ≤ 5) ∨ (r2.toInt = 0 ∧ (p1.toInt < 0 ∨ 6 ≤ p1.toInt)) := h7
      refine ok_eq (fun c8 => ?_) (fun c8 => ?_)
      · exfalso; omega
      · first | unfold J_X9_allPrimes_13 | skip
        refine ok_lt (fun c9 => ?_) (fun c9 => ?_)
        · exfalso; omega
        · refine ok_le (fun c10 => ?_) (fun c10 => ?_)
          · first | unfold J_X9_allPrimes_28 | skip
            refine ok_o2 (sp_X9_isThrown (0 : Int32) (0 : Int32) ) (fun r28 c_t_thrown_28 h11 => ?_)
            have h11 : (r28.toInt = 0 ∧ c_t_thrown_28.toInt = 0 ∧ (0 : Int32).toInt = 0 ∧ (0 : Int32).toInt = 0) ∨ (r28.toInt = 1 ∧ c_t_thrown_28.toInt = 1 ∧ (0 : Int32).toInt ≠ 0) ∨ (r28.toInt = 1 ∧ c_t_thrown_28.toInt = 2 ∧ (0 : Int32).toInt = 0 ∧ (0 : Int32).toInt ≠ 0) := h11
            refine ok_eq (fun c12 => ?_) (fun c12 => ?_)
            · refine ap_loop2 _ p0 (fun y3_41_105 hI13 => ?_) (by omega) (by omega)
              obtain ⟨ha1, ha2⟩ := hI13
              refine ok_o3 (fx_X9_give ac fo p1 y3_41_105 (by first | omega | assumption | trivial | exact wt_of (by assumption) (by omega)) (by first | omega | assumption | trivial | exact wt_of (by assumption) (by omega)) (by first | omega | assumption | trivial | exact wt_of (by assumption) (by omega)) (by first | omega | assumption | trivial | exact wt_of (by assumption) (by omega))) (fun r108 c_t_acts_108 f_t_forms_108 h14 => ?_)
              have h14 : r108 = DI y3_41_105 ∧ c_t_acts_108 = ac + (1 : Int32) ∧ f_t_forms_108 = vp_updL fo p1.toNatClampNeg y3_41_105 ∧ FA f_t_forms_108 := h14
              obtain ⟨h14_0, h14_1, h14_2, h14_3⟩ := h14
              refine ok_s (show ((0 = 0 ∧ c_t_thrown_28.toInt = 0) ∨ (0 = 1 ∧ c_t_thrown_28.toInt = 1) ∨ (0 = 2 ∧ c_t_thrown_28.toInt = 2)) ∧ (0 = 0 → r16 = r108) ∧ c_t_acts_16 = c_t_acts_108 ∧ f_t_forms_16 = f_t_forms_108 ∧ FA f_t_forms_108 from ?_)
              first | (exfalso; omega) | (subst_vars; first | (exfalso; omega) | (refine ⟨?_, ?_, ?_, ?_, ?_⟩ <;> (first | assumption | rfl | omega | (intro hx; first | rfl | assumption | (exfalso; omega) | exact Int32.toInt_inj.mp (by omega)) | exact Int32.toInt_inj.mp (by omega) | (rw [uu_a, uu_a]))))
            · exfalso; omega
          · exfalso; omega
    · refine ok_s ?_
      show ok (F_X9_allPrimes ac th fo p0 p1) (fun q => ((xc7 = 0 ∧ q.2.2.1.toInt = 0) ∨ (xc7 = 1 ∧ q.2.2.1.toInt = 1) ∨ (xc7 = 2 ∧ q.2.2.1.toInt = 2)) ∧ (xc7 = 0 → (0 : Int32) = q.1) ∧ ac = q.2.1 ∧ fo = q.2.2.2 ∧ FA q.2.2.2)
      unfold F_X9_allPrimes
      refine ok_o (sp_X9_isForm p1 ) (fun r2_2 h15 => ?_)
      have h15 : (r2_2.toInt = 1 ∧ 0 ≤ p1.toInt ∧ p1.toInt ≤ 5) ∨ (r2_2.toInt = 0 ∧ (p1.toInt < 0 ∨ 6 ≤ p1.toInt)) := h15
      refine ok_eq (fun c16 => ?_) (fun c16 => ?_)
      · exfalso; omega
      · first | unfold J_X9_allPrimes_13 | skip
        refine ok_lt (fun c17 => ?_) (fun c17 => ?_)
        · first | unfold J_X9_allPrimes_23 | skip
          first | unfold J_X9_allPrimes_28 | skip
          refine ok_o2 (sp_X9_isThrown (0 : Int32) (1 : Int32) ) (fun r28_2 c_t_thrown_28_2 h18 => ?_)
          have h18 : (r28_2.toInt = 0 ∧ c_t_thrown_28_2.toInt = 0 ∧ (0 : Int32).toInt = 0 ∧ (1 : Int32).toInt = 0) ∨ (r28_2.toInt = 1 ∧ c_t_thrown_28_2.toInt = 1 ∧ (0 : Int32).toInt ≠ 0) ∨ (r28_2.toInt = 1 ∧ c_t_thrown_28_2.toInt = 2 ∧ (0 : Int32).toInt = 0 ∧ (1 : Int32).toInt ≠ 0) := h18
          refine ok_eq (fun c19 => ?_) (fun c19 => ?_)
          · exfalso; omega
          · refine ok_s (show ((xc7 = 0 ∧ c_t_thrown_28_2.toInt = 0) ∨ (xc7 = 1 ∧ c_t_thrown_28_2.toInt = 1) ∨ (xc7 = 2 ∧ c_t_thrown_28_2.toInt = 2)) ∧ (xc7 = 0 → (0 : Int32) = (0 : Int32)) ∧ ac = ac ∧ fo = fo ∧ FA fo from ?_)
            first | (exfalso; omega) | (subst_vars; first | (exfalso; omega) | (refine ⟨?_, ?_, ?_, ?_, ?_⟩ <;> (first | assumption | rfl | omega | (intro hx; first | rfl | assumption | (exfalso; omega) | exact Int32.toInt_inj.mp (by omega)) | exact Int32.toInt_inj.mp (by omega) | (rw [uu_a, uu_a]))))
        · refine ok_le (fun c20 => ?_) (fun c20 => ?_)
          · exfalso; omega
          · first | unfold J_X9_allPrimes_23 | skip
            first | unfold J_X9_allPrimes_28 | skip
            refine ok_o2 (sp_X9_isThrown (0 : Int32) (1 : Int32) ) (fun r28_3 c_t_thrown_28_3 h21 => ?_)
            have h21 : (r28_3.toInt = 0 ∧ c_t_thrown_28_3.toInt = 0 ∧ (0 : Int32).toInt = 0 ∧ (1 : Int32).toInt = 0) ∨ (r28_3.toInt = 1 ∧ c_t_thrown_28_3.toInt = 1 ∧ (0 : Int32).toInt ≠ 0) ∨ (r28_3.toInt = 1 ∧ c_t_thrown_28_3.toInt = 2 ∧ (0 : Int32).toInt = 0 ∧ (1 : Int32).toInt ≠ 0) := h21
            refine ok_eq (fun c22 => ?_) (fun c22 => ?_)
            · exfalso; omega
            · refine ok_s (show ((xc7 = 0 ∧ c_t_thrown_28_3.toInt = 0) ∨ (xc7 = 1 ∧ c_t_thrown_28_3.toInt = 1) ∨ (xc7 = 2 ∧ c_t_thrown_28_3.toInt = 2)) ∧ (xc7 = 0 → (0 : Int32) = (0 : Int32)) ∧ ac = ac ∧ fo = fo ∧ FA fo from ?_)
              first | (exfalso; omega) | (subst_vars; first | (exfalso; omega) | (refine ⟨?_, ?_, ?_, ?_, ?_⟩ <;> (first | assumption | rfl | omega | (intro hx; first | rfl | assumption | (exfalso; omega) | exact Int32.toInt_inj.mp (by omega)) | exact Int32.toInt_inj.mp (by omega) | (rw [uu_a, uu_a]))))
  · refine ok_s ?_
    show ok (F_X9_allPrimes ac th fo p0 p1) (fun q => ((xc1 = 0 ∧ q.2.2.1.toInt = 0) ∨ (xc1 = 1 ∧ q.2.2.1.toInt = 1) ∨ (xc1 = 2 ∧ q.2.2.1.toInt = 2)) ∧ (xc1 = 0 → (0 : Int32) = q.1) ∧ ac = q.2.1 ∧ fo = q.2.2.2 ∧ FA q.2.2.2)
    unfold F_X9_allPrimes
    refine ok_o (sp_X9_isForm p1 ) (fun r2_3 h23 => ?_)
    have h23 : (r2_3.toInt = 1 ∧ 0 ≤ p1.toInt ∧ p1.toInt ≤ 5) ∨ (r2_3.toInt = 0 ∧ (p1.toInt < 0 ∨ 6 ≤ p1.toInt)) := h23
    refine ok_eq (fun c24 => ?_) (fun c24 => ?_)
    · first | unfold J_X9_allPrimes_13 | skip
      refine ok_lt (fun c25 => ?_) (fun c25 => ?_)
      · first | unfold J_X9_allPrimes_23 | skip
        first | unfold J_X9_allPrimes_28 | skip
        refine ok_o2 (sp_X9_isThrown (1 : Int32) (1 : Int32) ) (fun r28_4 c_t_thrown_28_4 h26 => ?_)
        have h26 : (r28_4.toInt = 0 ∧ c_t_thrown_28_4.toInt = 0 ∧ (1 : Int32).toInt = 0 ∧ (1 : Int32).toInt = 0) ∨ (r28_4.toInt = 1 ∧ c_t_thrown_28_4.toInt = 1 ∧ (1 : Int32).toInt ≠ 0) ∨ (r28_4.toInt = 1 ∧ c_t_thrown_28_4.toInt = 2 ∧ (1 : Int32).toInt = 0 ∧ (1 : Int32).toInt ≠ 0) := h26
        refine ok_eq (fun c27 => ?_) (fun c27 => ?_)
        · exfalso; omega
        · refine ok_s (show ((xc1 = 0 ∧ c_t_thrown_28_4.toInt = 0) ∨ (xc1 = 1 ∧ c_t_thrown_28_4.toInt = 1) ∨ (xc1 = 2 ∧ c_t_thrown_28_4.toInt = 2)) ∧ (xc1 = 0 → (0 : Int32) = (0 : Int32)) ∧ ac = ac ∧ fo = fo ∧ FA fo from ?_)
          first | (exfalso; omega) | (subst_vars; first | (exfalso; omega) | (refine ⟨?_, ?_, ?_, ?_, ?_⟩ <;> (first | assumption | rfl | omega | (intro hx; first | rfl | assumption | (exfalso; omega) | exact Int32.toInt_inj.mp (by omega)) | exact Int32.toInt_inj.mp (by omega) | (rw [uu_a, uu_a]))))
      · refine ok_le (fun c28 => ?_) (fun c28 => ?_)
        · first | unfold J_X9_allPrimes_28 | skip
          refine ok_o2 (sp_X9_isThrown (1 : Int32) (0 : Int32) ) (fun r28_5 c_t_thrown_28_5 h29 => ?_)
          have h29 : (r28_5.toInt = 0 ∧ c_t_thrown_28_5.toInt = 0 ∧ (1 : Int32).toInt = 0 ∧ (0 : Int32).toInt = 0) ∨ (r28_5.toInt = 1 ∧ c_t_thrown_28_5.toInt = 1 ∧ (1 : Int32).toInt ≠ 0) ∨ (r28_5.toInt = 1 ∧ c_t_thrown_28_5.toInt = 2 ∧ (1 : Int32).toInt = 0 ∧ (0 : Int32).toInt ≠ 0) := h29
          refine ok_eq (fun c30 => ?_) (fun c30 => ?_)
          · exfalso; omega
          · refine ok_s (show ((xc1 = 0 ∧ c_t_thrown_28_5.toInt = 0) ∨ (xc1 = 1 ∧ c_t_thrown_28_5.toInt = 1) ∨ (xc1 = 2 ∧ c_t_thrown_28_5.toInt = 2)) ∧ (xc1 = 0 → (0 : Int32) = (0 : Int32)) ∧ ac = ac ∧ fo = fo ∧ FA fo from ?_)
            first | (exfalso; omega) | (subst_vars; first | (exfalso; omega) | (refine ⟨?_, ?_, ?_, ?_, ?_⟩ <;> (first | assumption | rfl | omega | (intro hx; first | rfl | assumption | (exfalso; omega) | exact Int32.toInt_inj.mp (by omega)) | exact Int32.toInt_inj.mp (by omega) | (rw [uu_a, uu_a]))))
        · first | unfold J_X9_allPrimes_23 | skip
          first | unfold J_X9_allPrimes_28 | skip
          refine ok_o2 (sp_X9_isThrown (1 : Int32) (1 : Int32) ) (fun r28_6 c_t_thrown_28_6 h31 => ?_)
          have h31 : (r28_6.toInt = 0 ∧ c_t_thrown_28_6.toInt = 0 ∧ (1 : Int32).toInt = 0 ∧ (1 : Int32).toInt = 0) ∨ (r28_6.toInt = 1 ∧ c_t_thrown_28_6.toInt = 1 ∧ (1 : Int32).toInt ≠ 0) ∨ (r28_6.toInt = 1 ∧ c_t_thrown_28_6.toInt = 2 ∧ (1 : Int32).toInt = 0 ∧ (1 : Int32).toInt ≠ 0) := h31
          refine ok_eq (fun c32 => ?_) (fun c32 => ?_)
          · exfalso; omega
          · refine ok_s (show ((xc1 = 0 ∧ c_t_thrown_28_6.toInt = 0) ∨ (xc1 = 1 ∧ c_t_thrown_28_6.toInt = 1) ∨ (xc1 = 2 ∧ c_t_thrown_28_6.toInt = 2)) ∧ (xc1 = 0 → (0 : Int32) = (0 : Int32)) ∧ ac = ac ∧ fo = fo ∧ FA fo from ?_)
            first | (exfalso; omega) | (subst_vars; first | (exfalso; omega) | (refine ⟨?_, ?_, ?_, ?_, ?_⟩ <;> (first | assumption | rfl | omega | (intro hx; first | rfl | assumption | (exfalso; omega) | exact Int32.toInt_inj.mp (by omega)) | exact Int32.toInt_inj.mp (by omega) | (rw [uu_a, uu_a]))))
    · exfalso; omega
set_option maxHeartbeats 1000000 in
theorem s7_seal (ac : Int32) (rf : Int32) (fo : Nat → Int64) (p0 : Int32) (p1 : Int32) (p2 : Int32) (hp0 : FA fo) : ok (F_X7_seal ac rf fo p0 p1 p2) (fun r => ok (F_X9_seal ac rf fo p0 p1 p2) (fun q => ((r.1 = 0 ∧ q.2.2.2.1.toInt = 0) ∨ (r.1 = 1 ∧ q.2.2.2.1.toInt = 1)) ∧ (r.1 = 0 → r.2.1 = q.1) ∧ r.2.2.1 = q.2.1 ∧ r.2.2.2.1 = q.2.2.1 ∧ r.2.2.2.2 = q.2.2.2.2 ∧ FA q.2.2.2.2)) := by
  have l032 : (0 : Int32).toInt = 0 := by decide
  have l132 : (1 : Int32).toInt = 1 := by decide
  have l4032 : (40 : Int32).toInt = 40 := by decide
  unfold F_X7_seal
  refine ok_o (fx_X7_testForms p0 p1 p2 ) (fun xc3 h1 => ?_)
  have h1 : (xc3 = 0 ∧ 0 ≤ p0.toInt ∧ p0.toInt ≤ 5 ∧ 0 ≤ p1.toInt ∧ p1.toInt ≤ 5 ∧ 0 ≤ p2.toInt ∧ p2.toInt ≤ 5) ∨ (xc3 = 1 ∧ (p0.toInt < 0 ∨ 5 < p0.toInt ∨ p1.toInt < 0 ∨ 5 < p1.toInt ∨ p2.toInt < 0 ∨ 5 < p2.toInt)) := h1
  refine ok_i (fun c2 => ?_) (fun c2 => ?_)
  · refine ok_c (ixo (by omega) (by omega)) ?_
    try have a3 := FA_at (f := fo) (by assumption) p1.toNatClampNeg
    refine ok_o (fx_X0_degreeOf (fo p1.toNatClampNeg) ) (fun r12 h4 => ?_)
    have h4 : r12 = DI (fo p1.toNatClampNeg) ∧ r12.toInt = DG (fo p1.toNatClampNeg) ∧ -1 ≤ r12.toInt ∧ r12.toInt ≤ 63 := h4
    obtain ⟨h4_0, h4_1, h4_2, h4_3⟩ := h4
    refine ok_lt (fun c5 => ?_) (fun c5 => ?_)
    · refine ok_o2 (fx_X7_refuse rf ) (fun r29 c_t_refusals_29 h6 => ?_)
      have h6 : r29 = (-9 : Int32) ∧ c_t_refusals_29 = rf + (1 : Int32) := h6
      obtain ⟨h6_0, h6_1⟩ := h6
      refine ok_s ?_
      show ok (F_X9_seal ac rf fo p0 p1 p2) (fun q => ((0 = 0 ∧ q.2.2.2.1.toInt = 0) ∨ (0 = 1 ∧ q.2.2.2.1.toInt = 1)) ∧ (0 = 0 → r29 = q.1) ∧ ac = q.2.1 ∧ c_t_refusals_29 = q.2.2.1 ∧ fo = q.2.2.2.2 ∧ FA q.2.2.2.2)
      unfold F_X9_seal
      refine ok_o2 (fx_X9_areNot p0 p1 p2 ) (fun r4 c_t_thrown_4 h7 => ?_)
      have h7 : (r4.toInt = 0 ∧ c_t_thrown_4.toInt = 0 ∧ 0 ≤ p0.toInt ∧ p0.toInt ≤ 5 ∧ 0 ≤ p1.toInt ∧ p1.toInt ≤ 5 ∧ 0 ≤ p2.toInt ∧ p2.toInt ≤ 5) ∨ (r4.toInt = 1 ∧ c_t_thrown_4.toInt = 1 ∧ (p0.toInt < 0 ∨ 5 < p0.toInt ∨ p1.toInt < 0 ∨ 5 < p1.toInt ∨ p2.toInt < 0 ∨ 5 < p2.toInt)) := h7
      refine ok_eq (fun c8 => ?_) (fun c8 => ?_)
      · refine ok_c (ixo (by omega) (by omega)) ?_
        refine ok_c (ixo (by omega) (by omega)) ?_
        try have a9 := FA_at (f := fo) (by assumption) p0.toNatClampNeg
        try have a10 := FA_at (f := fo) (by assumption) p1.toNatClampNeg
        refine ok_o (fx_X9_isNoSeal (fo p0.toNatClampNeg) (fo p1.toNatClampNeg) (40 : Int32) (by first | omega | assumption | trivial | exact wt_of (by assumption) (by omega)) (by first | omega | assumption | trivial | exact wt_of (by assumption) (by omega))) (fun r26 h11 => ?_)
        have h11 : (r26.toInt = 0 ∧ 1 ≤ DG (fo p1.toNatClampNeg) ∧ DG (fo p1.toNatClampNeg) ≤ (40 : Int32).toInt ∧ DG (fo p0.toNatClampNeg) + DG (fo p1.toNatClampNeg) ≤ 39) ∨ (r26.toInt = 1 ∧ (DG (fo p1.toNatClampNeg) < 1 ∨ (40 : Int32).toInt < DG (fo p1.toNatClampNeg) ∨ 40 ≤ DG (fo p0.toNatClampNeg) + DG (fo p1.toNatClampNeg))) := h11
        refine ok_eq (fun c12 => ?_) (fun c12 => ?_)
        · exfalso; omega
        · refine ok_o2 (fx_X9_no rf ) (fun r33 c_t_refused_33 h13 => ?_)
          have h13 : r33 = (-9 : Int32) ∧ c_t_refused_33 = rf + (1 : Int32) := h13
          obtain ⟨h13_0, h13_1⟩ := h13
          refine ok_s (show ((0 = 0 ∧ c_t_thrown_4.toInt = 0) ∨ (0 = 1 ∧ c_t_thrown_4.toInt = 1)) ∧ (0 = 0 → r29 = r33) ∧ ac = ac ∧ c_t_refusals_29 = c_t_refused_33 ∧ fo = fo ∧ FA fo from ?_)
          first | (exfalso; omega) | (subst_vars; first | (exfalso; omega) | (refine ⟨?_, ?_, ?_, ?_, ?_, ?_⟩ <;> (first | assumption | rfl | omega | (intro hx; first | rfl | assumption | (exfalso; omega) | exact Int32.toInt_inj.mp (by omega)) | exact Int32.toInt_inj.mp (by omega) | (rw [uu_a, uu_a]))))
      · exfalso; omega
    · refine ok_o (fx_X7_canBeSealed fo p0 p1 (by first | omega | assumption | trivial | exact wt_of (by assumption) (by omega)) (by first | omega | assumption | trivial | exact wt_of (by assumption) (by omega)) (by first | omega | assumption | trivial | exact wt_of (by assumption) (by omega)) (by first | omega | assumption | trivial | exact wt_of (by assumption) (by omega)) (by first | omega | assumption | trivial | exact wt_of (by assumption) (by omega))) (fun r22 h14 => ?_)
      have h14 : (r22.toInt = 1 ∧ DG (fo p0.toNatClampNeg) + DG (fo p1.toNatClampNeg) ≤ 39) ∨ (r22.toInt = 0 ∧ 40 ≤ DG (fo p0.toNatClampNeg) + DG (fo p1.toNatClampNeg)) := h14
      refine ok_eq (fun c15 => ?_) (fun c15 => ?_)
      · refine ok_o2 (fx_X7_refuse rf ) (fun r29_2 c_t_refusals_29_2 h16 => ?_)
        have h16 : r29_2 = (-9 : Int32) ∧ c_t_refusals_29_2 = rf + (1 : Int32) := h16
        obtain ⟨h16_0, h16_1⟩ := h16
        refine ok_s ?_
        show ok (F_X9_seal ac rf fo p0 p1 p2) (fun q => ((0 = 0 ∧ q.2.2.2.1.toInt = 0) ∨ (0 = 1 ∧ q.2.2.2.1.toInt = 1)) ∧ (0 = 0 → r29_2 = q.1) ∧ ac = q.2.1 ∧ c_t_refusals_29_2 = q.2.2.1 ∧ fo = q.2.2.2.2 ∧ FA q.2.2.2.2)
        unfold F_X9_seal
        refine ok_o2 (fx_X9_areNot p0 p1 p2 ) (fun r4_2 c_t_thrown_4_2 h17 => ?_)
        have h17 : (r4_2.toInt = 0 ∧ c_t_thrown_4_2.toInt = 0 ∧ 0 ≤ p0.toInt ∧ p0.toInt ≤ 5 ∧ 0 ≤ p1.toInt ∧ p1.toInt ≤ 5 ∧ 0 ≤ p2.toInt ∧ p2.toInt ≤ 5) ∨ (r4_2.toInt = 1 ∧ c_t_thrown_4_2.toInt = 1 ∧ (p0.toInt < 0 ∨ 5 < p0.toInt ∨ p1.toInt < 0 ∨ 5 < p1.toInt ∨ p2.toInt < 0 ∨ 5 < p2.toInt)) := h17
        refine ok_eq (fun c18 => ?_) (fun c18 => ?_)
        · refine ok_c (ixo (by omega) (by omega)) ?_
          refine ok_c (ixo (by omega) (by omega)) ?_
          try have a19 := FA_at (f := fo) (by assumption) p0.toNatClampNeg
          try have a20 := FA_at (f := fo) (by assumption) p1.toNatClampNeg
          refine ok_o (fx_X9_isNoSeal (fo p0.toNatClampNeg) (fo p1.toNatClampNeg) (40 : Int32) (by first | omega | assumption | trivial | exact wt_of (by assumption) (by omega)) (by first | omega | assumption | trivial | exact wt_of (by assumption) (by omega))) (fun r26_2 h21 => ?_)
          have h21 : (r26_2.toInt = 0 ∧ 1 ≤ DG (fo p1.toNatClampNeg) ∧ DG (fo p1.toNatClampNeg) ≤ (40 : Int32).toInt ∧ DG (fo p0.toNatClampNeg) + DG (fo p1.toNatClampNeg) ≤ 39) ∨ (r26_2.toInt = 1 ∧ (DG (fo p1.toNatClampNeg) < 1 ∨ (40 : Int32).toInt < DG (fo p1.toNatClampNeg) ∨ 40 ≤ DG (fo p0.toNatClampNeg) + DG (fo p1.toNatClampNeg))) := h21
          refine ok_eq (fun c22 => ?_) (fun c22 => ?_)
          · exfalso; omega
          · refine ok_o2 (fx_X9_no rf ) (fun r33_2 c_t_refused_33_2 h23 => ?_)
            have h23 : r33_2 = (-9 : Int32) ∧ c_t_refused_33_2 = rf + (1 : Int32) := h23
            obtain ⟨h23_0, h23_1⟩ := h23
            refine ok_s (show ((0 = 0 ∧ c_t_thrown_4_2.toInt = 0) ∨ (0 = 1 ∧ c_t_thrown_4_2.toInt = 1)) ∧ (0 = 0 → r29_2 = r33_2) ∧ ac = ac ∧ c_t_refusals_29_2 = c_t_refused_33_2 ∧ fo = fo ∧ FA fo from ?_)
            first | (exfalso; omega) | (subst_vars; first | (exfalso; omega) | (refine ⟨?_, ?_, ?_, ?_, ?_, ?_⟩ <;> (first | assumption | rfl | omega | (intro hx; first | rfl | assumption | (exfalso; omega) | exact Int32.toInt_inj.mp (by omega)) | exact Int32.toInt_inj.mp (by omega) | (rw [uu_a, uu_a]))))
        · exfalso; omega
      · refine ok_c (ixo (by omega) (by omega)) ?_
        refine ok_c (ixo (by omega) (by omega)) ?_
        try have a24 := FA_at (f := fo) (by assumption) p0.toNatClampNeg
        try have a25 := FA_at (f := fo) (by assumption) p1.toNatClampNeg
        refine ok_o (fx_X0_checkOf (fo p0.toNatClampNeg) (fo p1.toNatClampNeg) (by first | omega | assumption | trivial | exact wt_of (by assumption) (by omega)) (by first | omega | assumption | trivial | exact wt_of (by assumption) (by omega)) (by first | omega | assumption | trivial | exact wt_of (by assumption) (by omega))) (fun r45 h26 => ?_)
        have h26 : r45 = kL (fo p0.toNatClampNeg) (fo p1.toNatClampNeg) := h26
        refine ok_c (ixo (by omega) (by omega)) ?_
        refine ok_c (ixo (by omega) (by omega)) ?_
        try have a27 := FA_at (f := fo) (by assumption) p1.toNatClampNeg
        refine ok_o (fx_X0_degreeOf (fo p1.toNatClampNeg) ) (fun r67 h28 => ?_)
        have h28 : r67 = DI (fo p1.toNatClampNeg) ∧ r67.toInt = DG (fo p1.toNatClampNeg) ∧ -1 ≤ r67.toInt ∧ r67.toInt ≤ 63 := h28
        obtain ⟨h28_0, h28_1, h28_2, h28_3⟩ := h28
        refine ok_c (ixo (by omega) (by omega)) ?_
        try have a29 := FA_at (f := fo) (by assumption) p0.toNatClampNeg
        refine ok_bx (fun f_t_forms_74 e_f_t_forms_74 => ?_)
        try have t_f_t_forms_74 : FA f_t_forms_74 := by rw [e_f_t_forms_74]; exact FA_upd (by first | assumption | exact FA_0) _ (by first | omega | assumption | trivial)
        refine ok_o (fx_X0_onesOf r45 ) (fun r78 h30 => ?_)
        have h30 : r78 = BC r45 := h30
        refine ok_o2 (fx_X7_done ac r78 ) (fun r81 c_t_acts_81 h31 => ?_)
        have h31 : r81 = r78 ∧ c_t_acts_81 = ac + (1 : Int32) := h31
        obtain ⟨h31_0, h31_1⟩ := h31
        refine ok_s ?_
        show ok (F_X9_seal ac rf fo p0 p1 p2) (fun q => ((0 = 0 ∧ q.2.2.2.1.toInt = 0) ∨ (0 = 1 ∧ q.2.2.2.1.toInt = 1)) ∧ (0 = 0 → r81 = q.1) ∧ c_t_acts_81 = q.2.1 ∧ rf = q.2.2.1 ∧ f_t_forms_74 = q.2.2.2.2 ∧ FA q.2.2.2.2)
        unfold F_X9_seal
        refine ok_o2 (fx_X9_areNot p0 p1 p2 ) (fun r4_3 c_t_thrown_4_3 h32 => ?_)
        have h32 : (r4_3.toInt = 0 ∧ c_t_thrown_4_3.toInt = 0 ∧ 0 ≤ p0.toInt ∧ p0.toInt ≤ 5 ∧ 0 ≤ p1.toInt ∧ p1.toInt ≤ 5 ∧ 0 ≤ p2.toInt ∧ p2.toInt ≤ 5) ∨ (r4_3.toInt = 1 ∧ c_t_thrown_4_3.toInt = 1 ∧ (p0.toInt < 0 ∨ 5 < p0.toInt ∨ p1.toInt < 0 ∨ 5 < p1.toInt ∨ p2.toInt < 0 ∨ 5 < p2.toInt)) := h32
        refine ok_eq (fun c33 => ?_) (fun c33 => ?_)
        · refine ok_c (ixo (by omega) (by omega)) ?_
          refine ok_c (ixo (by omega) (by omega)) ?_
          try have a34 := FA_at (f := fo) (by assumption) p0.toNatClampNeg
          try have a35 := FA_at (f := fo) (by assumption) p1.toNatClampNeg
          refine ok_o (fx_X9_isNoSeal (fo p0.toNatClampNeg) (fo p1.toNatClampNeg) (40 : Int32) (by first | omega | assumption | trivial | exact wt_of (by assumption) (by omega)) (by first | omega | assumption | trivial | exact wt_of (by assumption) (by omega))) (fun r26_3 h36 => ?_)
          have h36 : (r26_3.toInt = 0 ∧ 1 ≤ DG (fo p1.toNatClampNeg) ∧ DG (fo p1.toNatClampNeg) ≤ (40 : Int32).toInt ∧ DG (fo p0.toNatClampNeg) + DG (fo p1.toNatClampNeg) ≤ 39) ∨ (r26_3.toInt = 1 ∧ (DG (fo p1.toNatClampNeg) < 1 ∨ (40 : Int32).toInt < DG (fo p1.toNatClampNeg) ∨ 40 ≤ DG (fo p0.toNatClampNeg) + DG (fo p1.toNatClampNeg))) := h36
          refine ok_eq (fun c37 => ?_) (fun c37 => ?_)
          · refine ok_c (ixo (by omega) (by omega)) ?_
            refine ok_c (ixo (by omega) (by omega)) ?_
            try have a38 := FA_at (f := fo) (by assumption) p0.toNatClampNeg
            try have a39 := FA_at (f := fo) (by assumption) p1.toNatClampNeg
            refine ok_o (fx_X9_checkOf (fo p0.toNatClampNeg) (fo p1.toNatClampNeg) (by first | omega | assumption | trivial | exact wt_of (by assumption) (by omega)) (by first | omega | assumption | trivial | exact wt_of (by assumption) (by omega)) (by first | omega | assumption | trivial | exact wt_of (by assumption) (by omega))) (fun r49 h40 => ?_)
            have h40 : DG r49 ≤ 39 ∧ -1 ≤ DG r49 ∧ DG r49 < DG (fo p1.toNatClampNeg) ∧ r49 = kL (fo p0.toNatClampNeg) (fo p1.toNatClampNeg) := h40
            obtain ⟨h40_0, h40_1, h40_2, h40_3⟩ := h40
            refine ok_c (ixo (by omega) (by omega)) ?_
            refine ok_c (ixo (by omega) (by omega)) ?_
            try have a41 := FA_at (f := fo) (by assumption) p1.toNatClampNeg
            refine ok_o (fx_X9_degreeOf (fo p1.toNatClampNeg) ) (fun r71 h42 => ?_)
            have h42 : r71 = DI (fo p1.toNatClampNeg) ∧ r71.toInt = DG (fo p1.toNatClampNeg) ∧ -1 ≤ r71.toInt ∧ r71.toInt ≤ 63 := h42
            obtain ⟨h42_0, h42_1, h42_2, h42_3⟩ := h42
            refine ok_c (ixo (by omega) (by omega)) ?_
            try have a43 := FA_at (f := fo) (by assumption) p0.toNatClampNeg
            have hx : DG (((fo p0.toNatClampNeg) <<< (r71.toInt64 &&& 63)) ^^^ r49) ≤ 39 := DG_xor (DG_shlx (by omega) (by omega) (by omega) (by decide) (by decide)) (by omega)
            refine ok_bx (fun f_t_forms_78 e_f_t_forms_78 => ?_)
            try have t_f_t_forms_78 : FA f_t_forms_78 := by rw [e_f_t_forms_78]; exact FA_upd (by first | assumption | exact FA_0) _ (by first | omega | assumption | trivial)
            refine ok_o (fx_X9_onesOf r49 ) (fun r82 h44 => ?_)
            have h44 : 0 ≤ r82.toInt ∧ r82.toInt ≤ 127 ∧ r82 = BC r49 := h44
            obtain ⟨h44_0, h44_1, h44_2⟩ := h44
            refine ok_o2 (fx_X9_done ac r82 ) (fun r85 c_t_acts_85 h45 => ?_)
            have h45 : r85 = r82 ∧ c_t_acts_85 = ac + (1 : Int32) := h45
            obtain ⟨h45_0, h45_1⟩ := h45
            refine ok_s (show ((0 = 0 ∧ c_t_thrown_4_3.toInt = 0) ∨ (0 = 1 ∧ c_t_thrown_4_3.toInt = 1)) ∧ (0 = 0 → r81 = r85) ∧ c_t_acts_81 = c_t_acts_85 ∧ rf = rf ∧ f_t_forms_74 = f_t_forms_78 ∧ FA f_t_forms_78 from ?_)
            first | (exfalso; omega) | (subst_vars; first | (exfalso; omega) | (refine ⟨?_, ?_, ?_, ?_, ?_, ?_⟩ <;> (first | assumption | rfl | omega | (intro hx; first | rfl | assumption | (exfalso; omega) | exact Int32.toInt_inj.mp (by omega)) | exact Int32.toInt_inj.mp (by omega) | (rw [uu_a, uu_a]))))
          · refine ok_o2 (fx_X9_no rf ) (fun r33_3 c_t_refused_33_3 h46 => ?_)
            have h46 : r33_3 = (-9 : Int32) ∧ c_t_refused_33_3 = rf + (1 : Int32) := h46
            obtain ⟨h46_0, h46_1⟩ := h46
            refine ok_s (show ((0 = 0 ∧ c_t_thrown_4_3.toInt = 0) ∨ (0 = 1 ∧ c_t_thrown_4_3.toInt = 1)) ∧ (0 = 0 → r81 = r33_3) ∧ c_t_acts_81 = ac ∧ rf = c_t_refused_33_3 ∧ f_t_forms_74 = fo ∧ FA fo from ?_)
            first | (exfalso; omega) | (subst_vars; first | (exfalso; omega) | (refine ⟨?_, ?_, ?_, ?_, ?_, ?_⟩ <;> (first | assumption | rfl | omega | (intro hx; first | rfl | assumption | (exfalso; omega) | exact Int32.toInt_inj.mp (by omega)) | exact Int32.toInt_inj.mp (by omega) | (rw [uu_a, uu_a]))))
        · exfalso; omega
  · refine ok_s ?_
    show ok (F_X9_seal ac rf fo p0 p1 p2) (fun q => ((xc3 = 0 ∧ q.2.2.2.1.toInt = 0) ∨ (xc3 = 1 ∧ q.2.2.2.1.toInt = 1)) ∧ (xc3 = 0 → (0 : Int32) = q.1) ∧ ac = q.2.1 ∧ rf = q.2.2.1 ∧ fo = q.2.2.2.2 ∧ FA q.2.2.2.2)
    unfold F_X9_seal
    refine ok_o2 (fx_X9_areNot p0 p1 p2 ) (fun r4_4 c_t_thrown_4_4 h47 => ?_)
    have h47 : (r4_4.toInt = 0 ∧ c_t_thrown_4_4.toInt = 0 ∧ 0 ≤ p0.toInt ∧ p0.toInt ≤ 5 ∧ 0 ≤ p1.toInt ∧ p1.toInt ≤ 5 ∧ 0 ≤ p2.toInt ∧ p2.toInt ≤ 5) ∨ (r4_4.toInt = 1 ∧ c_t_thrown_4_4.toInt = 1 ∧ (p0.toInt < 0 ∨ 5 < p0.toInt ∨ p1.toInt < 0 ∨ 5 < p1.toInt ∨ p2.toInt < 0 ∨ 5 < p2.toInt)) := h47
    refine ok_eq (fun c48 => ?_) (fun c48 => ?_)
    · exfalso; omega
    · refine ok_s (show ((xc3 = 0 ∧ c_t_thrown_4_4.toInt = 0) ∨ (xc3 = 1 ∧ c_t_thrown_4_4.toInt = 1)) ∧ (xc3 = 0 → (0 : Int32) = (0 : Int32)) ∧ ac = ac ∧ rf = rf ∧ fo = fo ∧ FA fo from ?_)
      first | (exfalso; omega) | (subst_vars; first | (exfalso; omega) | (refine ⟨?_, ?_, ?_, ?_, ?_, ?_⟩ <;> (first | assumption | rfl | omega | (intro hx; first | rfl | assumption | (exfalso; omega) | exact Int32.toInt_inj.mp (by omega)) | exact Int32.toInt_inj.mp (by omega) | (rw [uu_a, uu_a]))))
set_option maxHeartbeats 1000000 in
theorem s7_burst (ac : Int32) (rf : Int32) (fo : Nat → Int64) (th : Int32) (p0 : Int32) (p1 : Int32) (p2 : Int32) (hp0 : FA fo) : ok (F_X7_burst ac rf fo p0 p1 p2) (fun r => ok (F_X9_burst ac rf th fo p0 p1 p2) (fun q => ((r.1 = 0 ∧ q.2.2.2.1.toInt = 0) ∨ (r.1 = 1 ∧ q.2.2.2.1.toInt = 1) ∨ (r.1 = 2 ∧ q.2.2.2.1.toInt = 2)) ∧ (r.1 = 0 → r.2.1 = q.1) ∧ r.2.2.1 = q.2.1 ∧ r.2.2.2.1 = q.2.2.1 ∧ r.2.2.2.2 = q.2.2.2.2 ∧ FA q.2.2.2.2)) := by
  have l032 : (0 : Int32).toInt = 0 := by decide
  have l132 : (1 : Int32).toInt = 1 := by decide
  have l3932 : (39 : Int32).toInt = 39 := by decide
  have l4032 : (40 : Int32).toInt = 40 := by decide
  have l409532 : (4095 : Int32).toInt = 4095 := by decide
  unfold F_X7_burst
  refine ok_o (fx_X7_testForm p0 ) (fun xc1 h1 => ?_)
  have h1 : (xc1 = 0 ∧ 0 ≤ p0.toInt ∧ p0.toInt ≤ 5) ∨ (xc1 = 1 ∧ (p0.toInt < 0 ∨ 5 < p0.toInt)) := h1
  refine ok_i (fun c2 => ?_) (fun c2 => ?_)
  · refine ok_o (fx_X7_testPlace p1 ) (fun xc5 h3 => ?_)
    have h3 : (xc5 = 0 ∧ 0 ≤ p1.toInt ∧ p1.toInt ≤ 39) ∨ (xc5 = 1 ∧ (p1.toInt < 0 ∨ 39 < p1.toInt)) := h3
    refine ok_i (fun c4 => ?_) (fun c4 => ?_)
    · refine ok_o (sp_X7_testRange p2 (0 : Int32) (4095 : Int32) ) (fun xc13 h5 => ?_)
      have h5 : (xc13 = 0 ∧ (0 : Int32).toInt ≤ p2.toInt ∧ p2.toInt ≤ (4095 : Int32).toInt) ∨ (xc13 = 2 ∧ (p2.toInt < (0 : Int32).toInt ∨ (4095 : Int32).toInt < p2.toInt)) := h5
      refine ok_i (fun c6 => ?_) (fun c6 => ?_)
      · refine ok_o (fx_X0_degreeOf p2.toInt64 ) (fun r18 h7 => ?_)
        have h7 : r18 = DI p2.toInt64 ∧ r18.toInt = DG p2.toInt64 ∧ -1 ≤ r18.toInt ∧ r18.toInt ≤ 63 := h7
        obtain ⟨h7_0, h7_1, h7_2, h7_3⟩ := h7
        obtain ⟨w8, e_w8⟩ : ∃ w : Int32, w = r18 + p1 := ⟨_, rfl⟩
        try have t_w8 : w8.toInt = r18.toInt + p1.toInt := by rw [e_w8]; exact addT1 (Eq.refl _) (by omega) (by omega)
        try rw [← e_w8]
        refine ok_le (fun c9 => ?_) (fun c9 => ?_)
        · refine ok_c (ixo (by omega) (by omega)) ?_
          refine ok_c (ixo (by omega) (by omega)) ?_
          try have a10 := FA_at (f := fo) (by assumption) p0.toNatClampNeg
          refine ok_bx (fun f_t_forms_45 e_f_t_forms_45 => ?_)
          try have t_f_t_forms_45 : FA f_t_forms_45 := by rw [e_f_t_forms_45]; exact FA_upd (by first | assumption | exact FA_0) _ (by first | omega | assumption | trivial)
          refine ok_c (ixo (by omega) (by omega)) ?_
          try have a11 := FA_at (f := f_t_forms_45) (by assumption) p0.toNatClampNeg
          refine ok_o (fx_X0_onesOf (f_t_forms_45 p0.toNatClampNeg) ) (fun r53 h12 => ?_)
          have h12 : r53 = BC (f_t_forms_45 p0.toNatClampNeg) := h12
          refine ok_o2 (fx_X7_done ac r53 ) (fun r56 c_t_acts_56 h13 => ?_)
          have h13 : r56 = r53 ∧ c_t_acts_56 = ac + (1 : Int32) := h13
          obtain ⟨h13_0, h13_1⟩ := h13
          refine ok_s ?_
          show ok (F_X9_burst ac rf th fo p0 p1 p2) (fun q => ((0 = 0 ∧ q.2.2.2.1.toInt = 0) ∨ (0 = 1 ∧ q.2.2.2.1.toInt = 1) ∨ (0 = 2 ∧ q.2.2.2.1.toInt = 2)) ∧ (0 = 0 → r56 = q.1) ∧ c_t_acts_56 = q.2.1 ∧ rf = q.2.2.1 ∧ f_t_forms_45 = q.2.2.2.2 ∧ FA q.2.2.2.2)
          unfold F_X9_burst
          refine ok_o (sp_X9_isForm p0 ) (fun r2 h14 => ?_)
          have h14 : (r2.toInt = 1 ∧ 0 ≤ p0.toInt ∧ p0.toInt ≤ 5) ∨ (r2.toInt = 0 ∧ (p0.toInt < 0 ∨ 6 ≤ p0.toInt)) := h14
          refine ok_eq (fun c15 => ?_) (fun c15 => ?_)
          · exfalso; omega
          · refine ok_o (sp_X9_isPlace p1 ) (fun r9 h16 => ?_)
            have h16 : (r9.toInt = 1 ∧ 0 ≤ p1.toInt ∧ p1.toInt ≤ 39) ∨ (r9.toInt = 0 ∧ (p1.toInt < 0 ∨ 40 ≤ p1.toInt)) := h16
            refine ok_eq (fun c17 => ?_) (fun c17 => ?_)
            · exfalso; omega
            · first | unfold J_X9_burst_20 | skip
              try rw [← e_w8]
              refine ok_lt (fun c18 => ?_) (fun c18 => ?_)
              · exfalso; omega
              · refine ok_le (fun c19 => ?_) (fun c19 => ?_)
                · first | unfold J_X9_burst_36 | skip
                  try rw [← e_w8]
                  refine ok_o2 (sp_X9_isThrown (0 : Int32) (0 : Int32) ) (fun r36 c_t_thrown_36 h20 => ?_)
                  have h20 : (r36.toInt = 0 ∧ c_t_thrown_36.toInt = 0 ∧ (0 : Int32).toInt = 0 ∧ (0 : Int32).toInt = 0) ∨ (r36.toInt = 1 ∧ c_t_thrown_36.toInt = 1 ∧ (0 : Int32).toInt ≠ 0) ∨ (r36.toInt = 1 ∧ c_t_thrown_36.toInt = 2 ∧ (0 : Int32).toInt = 0 ∧ (0 : Int32).toInt ≠ 0) := h20
                  refine ok_eq (fun c21 => ?_) (fun c21 => ?_)
                  · refine ok_le (fun c22 => ?_) (fun c22 => ?_)
                    · first | unfold J_X9_burst_65 | skip
                      try rw [← e_w8]
                      refine ok_c (ixo (by omega) (by omega)) ?_
                      refine ok_c (ixo (by omega) (by omega)) ?_
                      try have a23 := FA_at (f := fo) (by assumption) p0.toNatClampNeg
                      have hz : DG p2.toInt64 + p1.toInt ≤ 39 := by first | omega | (rw [DG_i0 (by omega)]; omega)
                      have hx : DG ((fo p0.toNatClampNeg) ^^^ (p2.toInt64 <<< (p1.toInt64 &&& 63))) ≤ 39 := DG_xor (by omega) (DG_shlx (by omega) (by omega) hz (by decide) (by decide))
                      refine ok_bx (fun f_t_forms_77 e_f_t_forms_77 => ?_)
                      try have t_f_t_forms_77 : FA f_t_forms_77 := by rw [e_f_t_forms_77]; exact FA_upd (by first | assumption | exact FA_0) _ (by first | omega | assumption | trivial)
                      refine ok_c (ixo (by omega) (by omega)) ?_
                      try have a24 := FA_at (f := f_t_forms_77) (by assumption) p0.toNatClampNeg
                      refine ok_o (fx_X9_onesOf (f_t_forms_77 p0.toNatClampNeg) ) (fun r85 h25 => ?_)
                      have h25 : 0 ≤ r85.toInt ∧ r85.toInt ≤ 127 ∧ r85 = BC (f_t_forms_77 p0.toNatClampNeg) := h25
                      obtain ⟨h25_0, h25_1, h25_2⟩ := h25
                      refine ok_o2 (fx_X9_done ac r85 ) (fun r88 c_t_acts_88 h26 => ?_)
                      have h26 : r88 = r85 ∧ c_t_acts_88 = ac + (1 : Int32) := h26
                      obtain ⟨h26_0, h26_1⟩ := h26
                      refine ok_s (show ((0 = 0 ∧ c_t_thrown_36.toInt = 0) ∨ (0 = 1 ∧ c_t_thrown_36.toInt = 1) ∨ (0 = 2 ∧ c_t_thrown_36.toInt = 2)) ∧ (0 = 0 → r56 = r88) ∧ c_t_acts_56 = c_t_acts_88 ∧ rf = rf ∧ f_t_forms_45 = f_t_forms_77 ∧ FA f_t_forms_77 from ?_)
                      first | (exfalso; omega) | (subst_vars; first | (exfalso; omega) | (refine ⟨?_, ?_, ?_, ?_, ?_, ?_⟩ <;> (first | assumption | rfl | omega | (intro hx; first | rfl | assumption | (exfalso; omega) | exact Int32.toInt_inj.mp (by omega)) | exact Int32.toInt_inj.mp (by omega) | (rw [uu_a, uu_a]))))
                    · refine ok_o (fx_X9_degreeOf p2.toInt64 ) (fun r50 h27 => ?_)
                      have h27 : r50 = DI p2.toInt64 ∧ r50.toInt = DG p2.toInt64 ∧ -1 ≤ r50.toInt ∧ r50.toInt ≤ 63 := h27
                      obtain ⟨h27_0, h27_1, h27_2, h27_3⟩ := h27
                      obtain ⟨w28, e_w28⟩ : ∃ w : Int32, w = r50 + p1 := ⟨_, rfl⟩
                      try have t_w28 : w28.toInt = r50.toInt + p1.toInt := by rw [e_w28]; exact addT1 (Eq.refl _) (by omega) (by omega)
                      try rw [← e_w28]
                      refine ok_lt (fun c29 => ?_) (fun c29 => ?_)
                      · first | unfold J_X9_burst_65 | skip
                        try rw [← e_w8]
                        try rw [← e_w28]
                        refine ok_c (ixo (by omega) (by omega)) ?_
                        refine ok_c (ixo (by omega) (by omega)) ?_
                        try have a30 := FA_at (f := fo) (by assumption) p0.toNatClampNeg
                        have hz : DG p2.toInt64 + p1.toInt ≤ 39 := by first | omega | (rw [DG_i0 (by omega)]; omega)
                        have hx : DG ((fo p0.toNatClampNeg) ^^^ (p2.toInt64 <<< (p1.toInt64 &&& 63))) ≤ 39 := DG_xor (by omega) (DG_shlx (by omega) (by omega) hz (by decide) (by decide))
                        refine ok_bx (fun f_t_forms_77_2 e_f_t_forms_77_2 => ?_)
                        try have t_f_t_forms_77_2 : FA f_t_forms_77_2 := by rw [e_f_t_forms_77_2]; exact FA_upd (by first | assumption | exact FA_0) _ (by first | omega | assumption | trivial)
                        refine ok_c (ixo (by omega) (by omega)) ?_
                        try have a31 := FA_at (f := f_t_forms_77_2) (by assumption) p0.toNatClampNeg
                        refine ok_o (fx_X9_onesOf (f_t_forms_77_2 p0.toNatClampNeg) ) (fun r85_2 h32 => ?_)
                        have h32 : 0 ≤ r85_2.toInt ∧ r85_2.toInt ≤ 127 ∧ r85_2 = BC (f_t_forms_77_2 p0.toNatClampNeg) := h32
                        obtain ⟨h32_0, h32_1, h32_2⟩ := h32
                        refine ok_o2 (fx_X9_done ac r85_2 ) (fun r88_2 c_t_acts_88_2 h33 => ?_)
                        have h33 : r88_2 = r85_2 ∧ c_t_acts_88_2 = ac + (1 : Int32) := h33
                        obtain ⟨h33_0, h33_1⟩ := h33
                        refine ok_s (show ((0 = 0 ∧ c_t_thrown_36.toInt = 0) ∨ (0 = 1 ∧ c_t_thrown_36.toInt = 1) ∨ (0 = 2 ∧ c_t_thrown_36.toInt = 2)) ∧ (0 = 0 → r56 = r88_2) ∧ c_t_acts_56 = c_t_acts_88_2 ∧ rf = rf ∧ f_t_forms_45 = f_t_forms_77_2 ∧ FA f_t_forms_77_2 from ?_)
                        first | (exfalso; omega) | (subst_vars; first | (exfalso; omega) | (refine ⟨?_, ?_, ?_, ?_, ?_, ?_⟩ <;> (first | assumption | rfl | omega | (intro hx; first | rfl | assumption | (exfalso; omega) | exact Int32.toInt_inj.mp (by omega)) | exact Int32.toInt_inj.mp (by omega) | (rw [uu_a, uu_a]))))
                      · refine ok_o2 (fx_X9_no rf ) (fun r61 c_t_refused_61 h34 => ?_)
                        have h34 : r61 = (-9 : Int32) ∧ c_t_refused_61 = rf + (1 : Int32) := h34
                        obtain ⟨h34_0, h34_1⟩ := h34
                        refine ok_s (show ((0 = 0 ∧ c_t_thrown_36.toInt = 0) ∨ (0 = 1 ∧ c_t_thrown_36.toInt = 1) ∨ (0 = 2 ∧ c_t_thrown_36.toInt = 2)) ∧ (0 = 0 → r56 = r61) ∧ c_t_acts_56 = ac ∧ rf = c_t_refused_61 ∧ f_t_forms_45 = fo ∧ FA fo from ?_)
                        first | (exfalso; omega) | (subst_vars; first | (exfalso; omega) | (refine ⟨?_, ?_, ?_, ?_, ?_, ?_⟩ <;> (first | assumption | rfl | omega | (intro hx; first | rfl | assumption | (exfalso; omega) | exact Int32.toInt_inj.mp (by omega)) | exact Int32.toInt_inj.mp (by omega) | (rw [uu_a, uu_a]))))
                  · exfalso; omega
                · exfalso; omega
        · refine ok_o2 (fx_X7_refuse rf ) (fun r29 c_t_refusals_29 h35 => ?_)
          have h35 : r29 = (-9 : Int32) ∧ c_t_refusals_29 = rf + (1 : Int32) := h35
          obtain ⟨h35_0, h35_1⟩ := h35
          refine ok_s ?_
          show ok (F_X9_burst ac rf th fo p0 p1 p2) (fun q => ((0 = 0 ∧ q.2.2.2.1.toInt = 0) ∨ (0 = 1 ∧ q.2.2.2.1.toInt = 1) ∨ (0 = 2 ∧ q.2.2.2.1.toInt = 2)) ∧ (0 = 0 → r29 = q.1) ∧ ac = q.2.1 ∧ c_t_refusals_29 = q.2.2.1 ∧ fo = q.2.2.2.2 ∧ FA q.2.2.2.2)
          unfold F_X9_burst
          refine ok_o (sp_X9_isForm p0 ) (fun r2_2 h36 => ?_)
          have h36 : (r2_2.toInt = 1 ∧ 0 ≤ p0.toInt ∧ p0.toInt ≤ 5) ∨ (r2_2.toInt = 0 ∧ (p0.toInt < 0 ∨ 6 ≤ p0.toInt)) := h36
          refine ok_eq (fun c37 => ?_) (fun c37 => ?_)
          · exfalso; omega
          · refine ok_o (sp_X9_isPlace p1 ) (fun r9_2 h38 => ?_)
            have h38 : (r9_2.toInt = 1 ∧ 0 ≤ p1.toInt ∧ p1.toInt ≤ 39) ∨ (r9_2.toInt = 0 ∧ (p1.toInt < 0 ∨ 40 ≤ p1.toInt)) := h38
            refine ok_eq (fun c39 => ?_) (fun c39 => ?_)
            · exfalso; omega
            · first | unfold J_X9_burst_20 | skip
              try rw [← e_w8]
              refine ok_lt (fun c40 => ?_) (fun c40 => ?_)
              · exfalso; omega
              · refine ok_le (fun c41 => ?_) (fun c41 => ?_)
                · first | unfold J_X9_burst_36 | skip
                  try rw [← e_w8]
                  refine ok_o2 (sp_X9_isThrown (0 : Int32) (0 : Int32) ) (fun r36_2 c_t_thrown_36_2 h42 => ?_)
                  have h42 : (r36_2.toInt = 0 ∧ c_t_thrown_36_2.toInt = 0 ∧ (0 : Int32).toInt = 0 ∧ (0 : Int32).toInt = 0) ∨ (r36_2.toInt = 1 ∧ c_t_thrown_36_2.toInt = 1 ∧ (0 : Int32).toInt ≠ 0) ∨ (r36_2.toInt = 1 ∧ c_t_thrown_36_2.toInt = 2 ∧ (0 : Int32).toInt = 0 ∧ (0 : Int32).toInt ≠ 0) := h42
                  refine ok_eq (fun c43 => ?_) (fun c43 => ?_)
                  · refine ok_le (fun c44 => ?_) (fun c44 => ?_)
                    · first | unfold J_X9_burst_65 | skip
                      try rw [← e_w8]
                      refine ok_c (ixo (by omega) (by omega)) ?_
                      refine ok_c (ixo (by omega) (by omega)) ?_
                      try have a45 := FA_at (f := fo) (by assumption) p0.toNatClampNeg
                      have hz : DG p2.toInt64 + p1.toInt ≤ 39 := by first | omega | (rw [DG_i0 (by omega)]; omega)
                      have hx : DG ((fo p0.toNatClampNeg) ^^^ (p2.toInt64 <<< (p1.toInt64 &&& 63))) ≤ 39 := DG_xor (by omega) (DG_shlx (by omega) (by omega) hz (by decide) (by decide))
                      refine ok_bx (fun f_t_forms_77_3 e_f_t_forms_77_3 => ?_)
                      try have t_f_t_forms_77_3 : FA f_t_forms_77_3 := by rw [e_f_t_forms_77_3]; exact FA_upd (by first | assumption | exact FA_0) _ (by first | omega | assumption | trivial)
                      refine ok_c (ixo (by omega) (by omega)) ?_
                      try have a46 := FA_at (f := f_t_forms_77_3) (by assumption) p0.toNatClampNeg
                      refine ok_o (fx_X9_onesOf (f_t_forms_77_3 p0.toNatClampNeg) ) (fun r85_3 h47 => ?_)
                      have h47 : 0 ≤ r85_3.toInt ∧ r85_3.toInt ≤ 127 ∧ r85_3 = BC (f_t_forms_77_3 p0.toNatClampNeg) := h47
                      obtain ⟨h47_0, h47_1, h47_2⟩ := h47
                      refine ok_o2 (fx_X9_done ac r85_3 ) (fun r88_3 c_t_acts_88_3 h48 => ?_)
                      have h48 : r88_3 = r85_3 ∧ c_t_acts_88_3 = ac + (1 : Int32) := h48
                      obtain ⟨h48_0, h48_1⟩ := h48
                      refine ok_s (show ((0 = 0 ∧ c_t_thrown_36_2.toInt = 0) ∨ (0 = 1 ∧ c_t_thrown_36_2.toInt = 1) ∨ (0 = 2 ∧ c_t_thrown_36_2.toInt = 2)) ∧ (0 = 0 → r29 = r88_3) ∧ ac = c_t_acts_88_3 ∧ c_t_refusals_29 = rf ∧ fo = f_t_forms_77_3 ∧ FA f_t_forms_77_3 from ?_)
                      first | (exfalso; omega) | (subst_vars; first | (exfalso; omega) | (refine ⟨?_, ?_, ?_, ?_, ?_, ?_⟩ <;> (first | assumption | rfl | omega | (intro hx; first | rfl | assumption | (exfalso; omega) | exact Int32.toInt_inj.mp (by omega)) | exact Int32.toInt_inj.mp (by omega) | (rw [uu_a, uu_a]))))
                    · refine ok_o (fx_X9_degreeOf p2.toInt64 ) (fun r50_2 h49 => ?_)
                      have h49 : r50_2 = DI p2.toInt64 ∧ r50_2.toInt = DG p2.toInt64 ∧ -1 ≤ r50_2.toInt ∧ r50_2.toInt ≤ 63 := h49
                      obtain ⟨h49_0, h49_1, h49_2, h49_3⟩ := h49
                      obtain ⟨w50, e_w50⟩ : ∃ w : Int32, w = r50_2 + p1 := ⟨_, rfl⟩
                      try have t_w50 : w50.toInt = r50_2.toInt + p1.toInt := by rw [e_w50]; exact addT1 (Eq.refl _) (by omega) (by omega)
                      try rw [← e_w50]
                      refine ok_lt (fun c51 => ?_) (fun c51 => ?_)
                      · first | unfold J_X9_burst_65 | skip
                        try rw [← e_w8]
                        try rw [← e_w50]
                        refine ok_c (ixo (by omega) (by omega)) ?_
                        refine ok_c (ixo (by omega) (by omega)) ?_
                        try have a52 := FA_at (f := fo) (by assumption) p0.toNatClampNeg
                        have hz : DG p2.toInt64 + p1.toInt ≤ 39 := by first | omega | (rw [DG_i0 (by omega)]; omega)
                        have hx : DG ((fo p0.toNatClampNeg) ^^^ (p2.toInt64 <<< (p1.toInt64 &&& 63))) ≤ 39 := DG_xor (by omega) (DG_shlx (by omega) (by omega) hz (by decide) (by decide))
                        refine ok_bx (fun f_t_forms_77_4 e_f_t_forms_77_4 => ?_)
                        try have t_f_t_forms_77_4 : FA f_t_forms_77_4 := by rw [e_f_t_forms_77_4]; exact FA_upd (by first | assumption | exact FA_0) _ (by first | omega | assumption | trivial)
                        refine ok_c (ixo (by omega) (by omega)) ?_
                        try have a53 := FA_at (f := f_t_forms_77_4) (by assumption) p0.toNatClampNeg
                        refine ok_o (fx_X9_onesOf (f_t_forms_77_4 p0.toNatClampNeg) ) (fun r85_4 h54 => ?_)
                        have h54 : 0 ≤ r85_4.toInt ∧ r85_4.toInt ≤ 127 ∧ r85_4 = BC (f_t_forms_77_4 p0.toNatClampNeg) := h54
                        obtain ⟨h54_0, h54_1, h54_2⟩ := h54
                        refine ok_o2 (fx_X9_done ac r85_4 ) (fun r88_4 c_t_acts_88_4 h55 => ?_)
                        have h55 : r88_4 = r85_4 ∧ c_t_acts_88_4 = ac + (1 : Int32) := h55
                        obtain ⟨h55_0, h55_1⟩ := h55
                        refine ok_s (show ((0 = 0 ∧ c_t_thrown_36_2.toInt = 0) ∨ (0 = 1 ∧ c_t_thrown_36_2.toInt = 1) ∨ (0 = 2 ∧ c_t_thrown_36_2.toInt = 2)) ∧ (0 = 0 → r29 = r88_4) ∧ ac = c_t_acts_88_4 ∧ c_t_refusals_29 = rf ∧ fo = f_t_forms_77_4 ∧ FA f_t_forms_77_4 from ?_)
                        first | (exfalso; omega) | (subst_vars; first | (exfalso; omega) | (refine ⟨?_, ?_, ?_, ?_, ?_, ?_⟩ <;> (first | assumption | rfl | omega | (intro hx; first | rfl | assumption | (exfalso; omega) | exact Int32.toInt_inj.mp (by omega)) | exact Int32.toInt_inj.mp (by omega) | (rw [uu_a, uu_a]))))
                      · refine ok_o2 (fx_X9_no rf ) (fun r61_2 c_t_refused_61_2 h56 => ?_)
                        have h56 : r61_2 = (-9 : Int32) ∧ c_t_refused_61_2 = rf + (1 : Int32) := h56
                        obtain ⟨h56_0, h56_1⟩ := h56
                        refine ok_s (show ((0 = 0 ∧ c_t_thrown_36_2.toInt = 0) ∨ (0 = 1 ∧ c_t_thrown_36_2.toInt = 1) ∨ (0 = 2 ∧ c_t_thrown_36_2.toInt = 2)) ∧ (0 = 0 → r29 = r61_2) ∧ ac = ac ∧ c_t_refusals_29 = c_t_refused_61_2 ∧ fo = fo ∧ FA fo from ?_)
                        first | (exfalso; omega) | (subst_vars; first | (exfalso; omega) | (refine ⟨?_, ?_, ?_, ?_, ?_, ?_⟩ <;> (first | assumption | rfl | omega | (intro hx; first | rfl | assumption | (exfalso; omega) | exact Int32.toInt_inj.mp (by omega)) | exact Int32.toInt_inj.mp (by omega) | (rw [uu_a, uu_a]))))
                  · exfalso; omega
                · exfalso; omega
      · refine ok_s ?_
        show ok (F_X9_burst ac rf th fo p0 p1 p2) (fun q => ((xc13 = 0 ∧ q.2.2.2.1.toInt = 0) ∨ (xc13 = 1 ∧ q.2.2.2.1.toInt = 1) ∨ (xc13 = 2 ∧ q.2.2.2.1.toInt = 2)) ∧ (xc13 = 0 → (0 : Int32) = q.1) ∧ ac = q.2.1 ∧ rf = q.2.2.1 ∧ fo = q.2.2.2.2 ∧ FA q.2.2.2.2)
        unfold F_X9_burst
        refine ok_o (sp_X9_isForm p0 ) (fun r2_3 h57 => ?_)
        have h57 : (r2_3.toInt = 1 ∧ 0 ≤ p0.toInt ∧ p0.toInt ≤ 5) ∨ (r2_3.toInt = 0 ∧ (p0.toInt < 0 ∨ 6 ≤ p0.toInt)) := h57
        refine ok_eq (fun c58 => ?_) (fun c58 => ?_)
        · exfalso; omega
        · refine ok_o (sp_X9_isPlace p1 ) (fun r9_3 h59 => ?_)
          have h59 : (r9_3.toInt = 1 ∧ 0 ≤ p1.toInt ∧ p1.toInt ≤ 39) ∨ (r9_3.toInt = 0 ∧ (p1.toInt < 0 ∨ 40 ≤ p1.toInt)) := h59
          refine ok_eq (fun c60 => ?_) (fun c60 => ?_)
          · exfalso; omega
          · first | unfold J_X9_burst_20 | skip
            refine ok_lt (fun c61 => ?_) (fun c61 => ?_)
            · first | unfold J_X9_burst_31 | skip
              first | unfold J_X9_burst_36 | skip
              refine ok_o2 (sp_X9_isThrown (0 : Int32) (1 : Int32) ) (fun r36_3 c_t_thrown_36_3 h62 => ?_)
              have h62 : (r36_3.toInt = 0 ∧ c_t_thrown_36_3.toInt = 0 ∧ (0 : Int32).toInt = 0 ∧ (1 : Int32).toInt = 0) ∨ (r36_3.toInt = 1 ∧ c_t_thrown_36_3.toInt = 1 ∧ (0 : Int32).toInt ≠ 0) ∨ (r36_3.toInt = 1 ∧ c_t_thrown_36_3.toInt = 2 ∧ (0 : Int32).toInt = 0 ∧ (1 : Int32).toInt ≠ 0) := h62
              refine ok_eq (fun c63 => ?_) (fun c63 => ?_)
              · exfalso; omega
              · refine ok_s (show ((xc13 = 0 ∧ c_t_thrown_36_3.toInt = 0) ∨ (xc13 = 1 ∧ c_t_thrown_36_3.toInt = 1) ∨ (xc13 = 2 ∧ c_t_thrown_36_3.toInt = 2)) ∧ (xc13 = 0 → (0 : Int32) = (0 : Int32)) ∧ ac = ac ∧ rf = rf ∧ fo = fo ∧ FA fo from ?_)
                first | (exfalso; omega) | (subst_vars; first | (exfalso; omega) | (refine ⟨?_, ?_, ?_, ?_, ?_, ?_⟩ <;> (first | assumption | rfl | omega | (intro hx; first | rfl | assumption | (exfalso; omega) | exact Int32.toInt_inj.mp (by omega)) | exact Int32.toInt_inj.mp (by omega) | (rw [uu_a, uu_a]))))
            · refine ok_le (fun c64 => ?_) (fun c64 => ?_)
              · exfalso; omega
              · first | unfold J_X9_burst_31 | skip
                first | unfold J_X9_burst_36 | skip
                refine ok_o2 (sp_X9_isThrown (0 : Int32) (1 : Int32) ) (fun r36_4 c_t_thrown_36_4 h65 => ?_)
                have h65 : (r36_4.toInt = 0 ∧ c_t_thrown_36_4.toInt = 0 ∧ (0 : Int32).toInt = 0 ∧ (1 : Int32).toInt = 0) ∨ (r36_4.toInt = 1 ∧ c_t_thrown_36_4.toInt = 1 ∧ (0 : Int32).toInt ≠ 0) ∨ (r36_4.toInt = 1 ∧ c_t_thrown_36_4.toInt = 2 ∧ (0 : Int32).toInt = 0 ∧ (1 : Int32).toInt ≠ 0) := h65
                refine ok_eq (fun c66 => ?_) (fun c66 => ?_)
                · exfalso; omega
                · refine ok_s (show ((xc13 = 0 ∧ c_t_thrown_36_4.toInt = 0) ∨ (xc13 = 1 ∧ c_t_thrown_36_4.toInt = 1) ∨ (xc13 = 2 ∧ c_t_thrown_36_4.toInt = 2)) ∧ (xc13 = 0 → (0 : Int32) = (0 : Int32)) ∧ ac = ac ∧ rf = rf ∧ fo = fo ∧ FA fo from ?_)
                  first | (exfalso; omega) | (subst_vars; first | (exfalso; omega) | (refine ⟨?_, ?_, ?_, ?_, ?_, ?_⟩ <;> (first | assumption | rfl | omega | (intro hx; first | rfl | assumption | (exfalso; omega) | exact Int32.toInt_inj.mp (by omega)) | exact Int32.toInt_inj.mp (by omega) | (rw [uu_a, uu_a]))))
    · refine ok_s ?_
      show ok (F_X9_burst ac rf th fo p0 p1 p2) (fun q => ((xc5 = 0 ∧ q.2.2.2.1.toInt = 0) ∨ (xc5 = 1 ∧ q.2.2.2.1.toInt = 1) ∨ (xc5 = 2 ∧ q.2.2.2.1.toInt = 2)) ∧ (xc5 = 0 → (0 : Int32) = q.1) ∧ ac = q.2.1 ∧ rf = q.2.2.1 ∧ fo = q.2.2.2.2 ∧ FA q.2.2.2.2)
      unfold F_X9_burst
      refine ok_o (sp_X9_isForm p0 ) (fun r2_4 h67 => ?_)
      have h67 : (r2_4.toInt = 1 ∧ 0 ≤ p0.toInt ∧ p0.toInt ≤ 5) ∨ (r2_4.toInt = 0 ∧ (p0.toInt < 0 ∨ 6 ≤ p0.toInt)) := h67
      refine ok_eq (fun c68 => ?_) (fun c68 => ?_)
      · exfalso; omega
      · refine ok_o (sp_X9_isPlace p1 ) (fun r9_4 h69 => ?_)
        have h69 : (r9_4.toInt = 1 ∧ 0 ≤ p1.toInt ∧ p1.toInt ≤ 39) ∨ (r9_4.toInt = 0 ∧ (p1.toInt < 0 ∨ 40 ≤ p1.toInt)) := h69
        refine ok_eq (fun c70 => ?_) (fun c70 => ?_)
        · first | unfold J_X9_burst_15 | skip
          first | unfold J_X9_burst_20 | skip
          refine ok_lt (fun c71 => ?_) (fun c71 => ?_)
          · first | unfold J_X9_burst_31 | skip
            first | unfold J_X9_burst_36 | skip
            refine ok_o2 (sp_X9_isThrown (1 : Int32) (1 : Int32) ) (fun r36_5 c_t_thrown_36_5 h72 => ?_)
            have h72 : (r36_5.toInt = 0 ∧ c_t_thrown_36_5.toInt = 0 ∧ (1 : Int32).toInt = 0 ∧ (1 : Int32).toInt = 0) ∨ (r36_5.toInt = 1 ∧ c_t_thrown_36_5.toInt = 1 ∧ (1 : Int32).toInt ≠ 0) ∨ (r36_5.toInt = 1 ∧ c_t_thrown_36_5.toInt = 2 ∧ (1 : Int32).toInt = 0 ∧ (1 : Int32).toInt ≠ 0) := h72
            refine ok_eq (fun c73 => ?_) (fun c73 => ?_)
            · exfalso; omega
            · refine ok_s (show ((xc5 = 0 ∧ c_t_thrown_36_5.toInt = 0) ∨ (xc5 = 1 ∧ c_t_thrown_36_5.toInt = 1) ∨ (xc5 = 2 ∧ c_t_thrown_36_5.toInt = 2)) ∧ (xc5 = 0 → (0 : Int32) = (0 : Int32)) ∧ ac = ac ∧ rf = rf ∧ fo = fo ∧ FA fo from ?_)
              first | (exfalso; omega) | (subst_vars; first | (exfalso; omega) | (refine ⟨?_, ?_, ?_, ?_, ?_, ?_⟩ <;> (first | assumption | rfl | omega | (intro hx; first | rfl | assumption | (exfalso; omega) | exact Int32.toInt_inj.mp (by omega)) | exact Int32.toInt_inj.mp (by omega) | (rw [uu_a, uu_a]))))
          · refine ok_le (fun c74 => ?_) (fun c74 => ?_)
            · first | unfold J_X9_burst_36 | skip
              refine ok_o2 (sp_X9_isThrown (1 : Int32) (0 : Int32) ) (fun r36_6 c_t_thrown_36_6 h75 => ?_)
              have h75 : (r36_6.toInt = 0 ∧ c_t_thrown_36_6.toInt = 0 ∧ (1 : Int32).toInt = 0 ∧ (0 : Int32).toInt = 0) ∨ (r36_6.toInt = 1 ∧ c_t_thrown_36_6.toInt = 1 ∧ (1 : Int32).toInt ≠ 0) ∨ (r36_6.toInt = 1 ∧ c_t_thrown_36_6.toInt = 2 ∧ (1 : Int32).toInt = 0 ∧ (0 : Int32).toInt ≠ 0) := h75
              refine ok_eq (fun c76 => ?_) (fun c76 => ?_)
              · exfalso; omega
              · refine ok_s (show ((xc5 = 0 ∧ c_t_thrown_36_6.toInt = 0) ∨ (xc5 = 1 ∧ c_t_thrown_36_6.toInt = 1) ∨ (xc5 = 2 ∧ c_t_thrown_36_6.toInt = 2)) ∧ (xc5 = 0 → (0 : Int32) = (0 : Int32)) ∧ ac = ac ∧ rf = rf ∧ fo = fo ∧ FA fo from ?_)
                first | (exfalso; omega) | (subst_vars; first | (exfalso; omega) | (refine ⟨?_, ?_, ?_, ?_, ?_, ?_⟩ <;> (first | assumption | rfl | omega | (intro hx; first | rfl | assumption | (exfalso; omega) | exact Int32.toInt_inj.mp (by omega)) | exact Int32.toInt_inj.mp (by omega) | (rw [uu_a, uu_a]))))
            · first | unfold J_X9_burst_31 | skip
              first | unfold J_X9_burst_36 | skip
              refine ok_o2 (sp_X9_isThrown (1 : Int32) (1 : Int32) ) (fun r36_7 c_t_thrown_36_7 h77 => ?_)
              have h77 : (r36_7.toInt = 0 ∧ c_t_thrown_36_7.toInt = 0 ∧ (1 : Int32).toInt = 0 ∧ (1 : Int32).toInt = 0) ∨ (r36_7.toInt = 1 ∧ c_t_thrown_36_7.toInt = 1 ∧ (1 : Int32).toInt ≠ 0) ∨ (r36_7.toInt = 1 ∧ c_t_thrown_36_7.toInt = 2 ∧ (1 : Int32).toInt = 0 ∧ (1 : Int32).toInt ≠ 0) := h77
              refine ok_eq (fun c78 => ?_) (fun c78 => ?_)
              · exfalso; omega
              · refine ok_s (show ((xc5 = 0 ∧ c_t_thrown_36_7.toInt = 0) ∨ (xc5 = 1 ∧ c_t_thrown_36_7.toInt = 1) ∨ (xc5 = 2 ∧ c_t_thrown_36_7.toInt = 2)) ∧ (xc5 = 0 → (0 : Int32) = (0 : Int32)) ∧ ac = ac ∧ rf = rf ∧ fo = fo ∧ FA fo from ?_)
                first | (exfalso; omega) | (subst_vars; first | (exfalso; omega) | (refine ⟨?_, ?_, ?_, ?_, ?_, ?_⟩ <;> (first | assumption | rfl | omega | (intro hx; first | rfl | assumption | (exfalso; omega) | exact Int32.toInt_inj.mp (by omega)) | exact Int32.toInt_inj.mp (by omega) | (rw [uu_a, uu_a]))))
        · exfalso; omega
  · refine ok_s ?_
    show ok (F_X9_burst ac rf th fo p0 p1 p2) (fun q => ((xc1 = 0 ∧ q.2.2.2.1.toInt = 0) ∨ (xc1 = 1 ∧ q.2.2.2.1.toInt = 1) ∨ (xc1 = 2 ∧ q.2.2.2.1.toInt = 2)) ∧ (xc1 = 0 → (0 : Int32) = q.1) ∧ ac = q.2.1 ∧ rf = q.2.2.1 ∧ fo = q.2.2.2.2 ∧ FA q.2.2.2.2)
    unfold F_X9_burst
    refine ok_o (sp_X9_isForm p0 ) (fun r2_5 h79 => ?_)
    have h79 : (r2_5.toInt = 1 ∧ 0 ≤ p0.toInt ∧ p0.toInt ≤ 5) ∨ (r2_5.toInt = 0 ∧ (p0.toInt < 0 ∨ 6 ≤ p0.toInt)) := h79
    refine ok_eq (fun c80 => ?_) (fun c80 => ?_)
    · first | unfold J_X9_burst_15 | skip
      first | unfold J_X9_burst_20 | skip
      refine ok_lt (fun c81 => ?_) (fun c81 => ?_)
      · first | unfold J_X9_burst_31 | skip
        first | unfold J_X9_burst_36 | skip
        refine ok_o2 (sp_X9_isThrown (1 : Int32) (1 : Int32) ) (fun r36_8 c_t_thrown_36_8 h82 => ?_)
        have h82 : (r36_8.toInt = 0 ∧ c_t_thrown_36_8.toInt = 0 ∧ (1 : Int32).toInt = 0 ∧ (1 : Int32).toInt = 0) ∨ (r36_8.toInt = 1 ∧ c_t_thrown_36_8.toInt = 1 ∧ (1 : Int32).toInt ≠ 0) ∨ (r36_8.toInt = 1 ∧ c_t_thrown_36_8.toInt = 2 ∧ (1 : Int32).toInt = 0 ∧ (1 : Int32).toInt ≠ 0) := h82
        refine ok_eq (fun c83 => ?_) (fun c83 => ?_)
        · exfalso; omega
        · refine ok_s (show ((xc1 = 0 ∧ c_t_thrown_36_8.toInt = 0) ∨ (xc1 = 1 ∧ c_t_thrown_36_8.toInt = 1) ∨ (xc1 = 2 ∧ c_t_thrown_36_8.toInt = 2)) ∧ (xc1 = 0 → (0 : Int32) = (0 : Int32)) ∧ ac = ac ∧ rf = rf ∧ fo = fo ∧ FA fo from ?_)
          first | (exfalso; omega) | (subst_vars; first | (exfalso; omega) | (refine ⟨?_, ?_, ?_, ?_, ?_, ?_⟩ <;> (first | assumption | rfl | omega | (intro hx; first | rfl | assumption | (exfalso; omega) | exact Int32.toInt_inj.mp (by omega)) | exact Int32.toInt_inj.mp (by omega) | (rw [uu_a, uu_a]))))
      · refine ok_le (fun c84 => ?_) (fun c84 => ?_)
        · first | unfold J_X9_burst_36 | skip
          refine ok_o2 (sp_X9_isThrown (1 : Int32) (0 : Int32) ) (fun r36_9 c_t_thrown_36_9 h85 => ?_)
          have h85 : (r36_9.toInt = 0 ∧ c_t_thrown_36_9.toInt = 0 ∧ (1 : Int32).toInt = 0 ∧ (0 : Int32).toInt = 0) ∨ (r36_9.toInt = 1 ∧ c_t_thrown_36_9.toInt = 1 ∧ (1 : Int32).toInt ≠ 0) ∨ (r36_9.toInt = 1 ∧ c_t_thrown_36_9.toInt = 2 ∧ (1 : Int32).toInt = 0 ∧ (0 : Int32).toInt ≠ 0) := h85
          refine ok_eq (fun c86 => ?_) (fun c86 => ?_)
          · exfalso; omega
          · refine ok_s (show ((xc1 = 0 ∧ c_t_thrown_36_9.toInt = 0) ∨ (xc1 = 1 ∧ c_t_thrown_36_9.toInt = 1) ∨ (xc1 = 2 ∧ c_t_thrown_36_9.toInt = 2)) ∧ (xc1 = 0 → (0 : Int32) = (0 : Int32)) ∧ ac = ac ∧ rf = rf ∧ fo = fo ∧ FA fo from ?_)
            first | (exfalso; omega) | (subst_vars; first | (exfalso; omega) | (refine ⟨?_, ?_, ?_, ?_, ?_, ?_⟩ <;> (first | assumption | rfl | omega | (intro hx; first | rfl | assumption | (exfalso; omega) | exact Int32.toInt_inj.mp (by omega)) | exact Int32.toInt_inj.mp (by omega) | (rw [uu_a, uu_a]))))
        · first | unfold J_X9_burst_31 | skip
          first | unfold J_X9_burst_36 | skip
          refine ok_o2 (sp_X9_isThrown (1 : Int32) (1 : Int32) ) (fun r36_10 c_t_thrown_36_10 h87 => ?_)
          have h87 : (r36_10.toInt = 0 ∧ c_t_thrown_36_10.toInt = 0 ∧ (1 : Int32).toInt = 0 ∧ (1 : Int32).toInt = 0) ∨ (r36_10.toInt = 1 ∧ c_t_thrown_36_10.toInt = 1 ∧ (1 : Int32).toInt ≠ 0) ∨ (r36_10.toInt = 1 ∧ c_t_thrown_36_10.toInt = 2 ∧ (1 : Int32).toInt = 0 ∧ (1 : Int32).toInt ≠ 0) := h87
          refine ok_eq (fun c88 => ?_) (fun c88 => ?_)
          · exfalso; omega
          · refine ok_s (show ((xc1 = 0 ∧ c_t_thrown_36_10.toInt = 0) ∨ (xc1 = 1 ∧ c_t_thrown_36_10.toInt = 1) ∨ (xc1 = 2 ∧ c_t_thrown_36_10.toInt = 2)) ∧ (xc1 = 0 → (0 : Int32) = (0 : Int32)) ∧ ac = ac ∧ rf = rf ∧ fo = fo ∧ FA fo from ?_)
            first | (exfalso; omega) | (subst_vars; first | (exfalso; omega) | (refine ⟨?_, ?_, ?_, ?_, ?_, ?_⟩ <;> (first | assumption | rfl | omega | (intro hx; first | rfl | assumption | (exfalso; omega) | exact Int32.toInt_inj.mp (by omega)) | exact Int32.toInt_inj.mp (by omega) | (rw [uu_a, uu_a]))))
    · exfalso; omega
set_option maxHeartbeats 1000000 in
theorem s7_factor (ac : Int32) (rf : Int32) (sz : Int32) (fo : Nat → Int64) (ro : Nat → Int64) (th : Int32) (f_t_roll_before : Nat → Int64) (c_t_factors_parts_size : Int32) (f_t_factors_parts_held : Nat → Int64) (p0 : Int32) (p1 : Int32) (hp0 : FA fo) (hp1 : FA ro) (hp2 : 0 ≤ sz.toInt) (hp3 : sz.toInt ≤ 12) (hp4 : 0 ≤ c_t_factors_parts_size.toInt) (hp5 : c_t_factors_parts_size.toInt ≤ 12) : ok (F_X7_factor ac rf fo sz ro f_t_roll_before c_t_factors_parts_size f_t_factors_parts_held p0 p1) (fun r => ok (F_X9_factor sz ac rf th fo ro p0 p1) (fun q => ((r.1 = 0 ∧ q.2.2.2.2.1.toInt = 0) ∨ (r.1 = 1 ∧ q.2.2.2.2.1.toInt = 1) ∨ (r.1 = 2 ∧ q.2.2.2.2.1.toInt = 2)) ∧ (r.1 = 0 → r.2.1 = q.1) ∧ r.2.2.1 = q.2.2.1 ∧ r.2.2.2.1 = q.2.2.2.1 ∧ r.2.2.2.2.1 = q.2.1 ∧ r.2.2.2.2.2.1 = q.2.2.2.2.2 ∧ FA q.2.2.2.2.2 ∧ 0 ≤ q.2.1.toInt ∧ q.2.1.toInt ≤ 12 ∧ 0 ≤ r.2.2.2.2.2.2.2.1.toInt ∧ r.2.2.2.2.2.2.2.1.toInt ≤ 12)) := by
  have l032 : (0 : Int32).toInt = 0 := by decide
  have l132 : (1 : Int32).toInt = 1 := by decide
  have l1032 : (10 : Int32).toInt = 10 := by decide
  unfold F_X7_factor
  refine ok_o (fx_X7_testForm p0 ) (fun xc1 h1 => ?_)
  have h1 : (xc1 = 0 ∧ 0 ≤ p0.toInt ∧ p0.toInt ≤ 5) ∨ (xc1 = 1 ∧ (p0.toInt < 0 ∨ 5 < p0.toInt)) := h1
  refine ok_i (fun c2 => ?_) (fun c2 => ?_)
  · refine ok_o (sp_X7_testRange p1 (0 : Int32) (1 : Int32) ) (fun xc7 h3 => ?_)
    have h3 : (xc7 = 0 ∧ (0 : Int32).toInt ≤ p1.toInt ∧ p1.toInt ≤ (1 : Int32).toInt) ∨ (xc7 = 2 ∧ (p1.toInt < (0 : Int32).toInt ∨ (1 : Int32).toInt < p1.toInt)) := h3
    refine ok_i (fun c4 => ?_) (fun c4 => ?_)
    · refine ok_c (ixo (by omega) (by omega)) ?_
      try have a5 := FA_at (f := fo) (by assumption) p0.toNatClampNeg
      refine ok_o (fx_X0_degreeOf (fo p0.toNatClampNeg) ) (fun r16 h6 => ?_)
      have h6 : r16 = DI (fo p0.toNatClampNeg) ∧ r16.toInt = DG (fo p0.toNatClampNeg) ∧ -1 ≤ r16.toInt ∧ r16.toInt ≤ 63 := h6
      obtain ⟨h6_0, h6_1, h6_2, h6_3⟩ := h6
      refine ok_o (sp_X7_isBetween r16 (1 : Int32) (10 : Int32) ) (fun r22 h7 => ?_)
      have h7 : (r22.toInt = 0 ∧ (r16.toInt < (1 : Int32).toInt ∨ (10 : Int32).toInt < r16.toInt)) ∨ (r22.toInt = 1 ∧ (1 : Int32).toInt ≤ r16.toInt ∧ r16.toInt ≤ (10 : Int32).toInt) := h7
      refine ok_eq (fun c8 => ?_) (fun c8 => ?_)
      · refine ok_o2 (fx_X7_refuse rf ) (fun r29 c_t_refusals_29 h9 => ?_)
        have h9 : r29 = (-9 : Int32) ∧ c_t_refusals_29 = rf + (1 : Int32) := h9
        obtain ⟨h9_0, h9_1⟩ := h9
        refine ok_s ?_
        show ok (F_X9_factor sz ac rf th fo ro p0 p1) (fun q => ((0 = 0 ∧ q.2.2.2.2.1.toInt = 0) ∨ (0 = 1 ∧ q.2.2.2.2.1.toInt = 1) ∨ (0 = 2 ∧ q.2.2.2.2.1.toInt = 2)) ∧ (0 = 0 → r29 = q.1) ∧ ac = q.2.2.1 ∧ c_t_refusals_29 = q.2.2.2.1 ∧ sz = q.2.1 ∧ ro = q.2.2.2.2.2 ∧ FA q.2.2.2.2.2 ∧ 0 ≤ q.2.1.toInt ∧ q.2.1.toInt ≤ 12 ∧ 0 ≤ c_t_factors_parts_size.toInt ∧ c_t_factors_parts_size.toInt ≤ 12)
        unfold F_X9_factor
        refine ok_o (sp_X9_isForm p0 ) (fun r2 h10 => ?_)
        have h10 : (r2.toInt = 1 ∧ 0 ≤ p0.toInt ∧ p0.toInt ≤ 5) ∨ (r2.toInt = 0 ∧ (p0.toInt < 0 ∨ 6 ≤ p0.toInt)) := h10
        refine ok_eq (fun c11 => ?_) (fun c11 => ?_)
        · exfalso; omega
        · first | unfold J_X9_factor_13 | skip
          refine ok_lt (fun c12 => ?_) (fun c12 => ?_)
          · exfalso; omega
          · refine ok_le (fun c13 => ?_) (fun c13 => ?_)
            · first | unfold J_X9_factor_27 | skip
              refine ok_o2 (sp_X9_isThrown (0 : Int32) (0 : Int32) ) (fun r27 c_t_thrown_27 h14 => ?_)
              have h14 : (r27.toInt = 0 ∧ c_t_thrown_27.toInt = 0 ∧ (0 : Int32).toInt = 0 ∧ (0 : Int32).toInt = 0) ∨ (r27.toInt = 1 ∧ c_t_thrown_27.toInt = 1 ∧ (0 : Int32).toInt ≠ 0) ∨ (r27.toInt = 1 ∧ c_t_thrown_27.toInt = 2 ∧ (0 : Int32).toInt = 0 ∧ (0 : Int32).toInt ≠ 0) := h14
              refine ok_eq (fun c15 => ?_) (fun c15 => ?_)
              · refine ok_c (ixo (by omega) (by omega)) ?_
                try have a16 := FA_at (f := fo) (by assumption) p0.toNatClampNeg
                refine ok_o (fx_X9_degreeOf (fo p0.toNatClampNeg) ) (fun r41 h17 => ?_)
                have h17 : r41 = DI (fo p0.toNatClampNeg) ∧ r41.toInt = DG (fo p0.toNatClampNeg) ∧ -1 ≤ r41.toInt ∧ r41.toInt ≤ 63 := h17
                obtain ⟨h17_0, h17_1, h17_2, h17_3⟩ := h17
                refine ok_lt (fun c18 => ?_) (fun c18 => ?_)
                · refine ok_o2 (fx_X9_no rf ) (fun r63 c_t_refused_63 h19 => ?_)
                  have h19 : r63 = (-9 : Int32) ∧ c_t_refused_63 = rf + (1 : Int32) := h19
                  obtain ⟨h19_0, h19_1⟩ := h19
                  refine ok_s (show ((0 = 0 ∧ c_t_thrown_27.toInt = 0) ∨ (0 = 1 ∧ c_t_thrown_27.toInt = 1) ∨ (0 = 2 ∧ c_t_thrown_27.toInt = 2)) ∧ (0 = 0 → r29 = r63) ∧ ac = ac ∧ c_t_refusals_29 = c_t_refused_63 ∧ sz = sz ∧ ro = ro ∧ FA ro ∧ 0 ≤ sz.toInt ∧ sz.toInt ≤ 12 ∧ 0 ≤ c_t_factors_parts_size.toInt ∧ c_t_factors_parts_size.toInt ≤ 12 from ?_)
                  first | (exfalso; omega) | (subst_vars; first | (exfalso; omega) | (refine ⟨?_, ?_, ?_, ?_, ?_, ?_, ?_, ?_, ?_, ?_, ?_⟩ <;> (first | assumption | rfl | omega | (intro hx; first | rfl | assumption | (exfalso; omega) | exact Int32.toInt_inj.mp (by omega)) | exact Int32.toInt_inj.mp (by omega) | (rw [uu_a, uu_a]) | (first | exact hfr _ rfl))))
                · refine ok_c (ixo (by omega) (by omega)) ?_
                  try have a20 := FA_at (f := fo) (by assumption) p0.toNatClampNeg
                  refine ok_o (fx_X9_degreeOf (fo p0.toNatClampNeg) ) (fun r54 h21 => ?_)
                  have h21 : r54 = DI (fo p0.toNatClampNeg) ∧ r54.toInt = DG (fo p0.toNatClampNeg) ∧ -1 ≤ r54.toInt ∧ r54.toInt ≤ 63 := h21
                  obtain ⟨h21_0, h21_1, h21_2, h21_3⟩ := h21
                  refine ok_le (fun c22 => ?_) (fun c22 => ?_)
                  · exfalso; omega
                  · refine ok_o2 (fx_X9_no rf ) (fun r63_2 c_t_refused_63_2 h23 => ?_)
                    have h23 : r63_2 = (-9 : Int32) ∧ c_t_refused_63_2 = rf + (1 : Int32) := h23
                    obtain ⟨h23_0, h23_1⟩ := h23
                    refine ok_s (show ((0 = 0 ∧ c_t_thrown_27.toInt = 0) ∨ (0 = 1 ∧ c_t_thrown_27.toInt = 1) ∨ (0 = 2 ∧ c_t_thrown_27.toInt = 2)) ∧ (0 = 0 → r29 = r63_2) ∧ ac = ac ∧ c_t_refusals_29 = c_t_refused_63_2 ∧ sz = sz ∧ ro = ro ∧ FA ro ∧ 0 ≤ sz.toInt ∧ sz.toInt ≤ 12 ∧ 0 ≤ c_t_factors_parts_size.toInt ∧ c_t_factors_parts_size.toInt ≤ 12 from ?_)
                    first | (exfalso; omega) | (subst_vars; first | (exfalso; omega) | (refine ⟨?_, ?_, ?_, ?_, ?_, ?_, ?_, ?_, ?_, ?_, ?_⟩ <;> (first | assumption | rfl | omega | (intro hx; first | rfl | assumption | (exfalso; omega) | exact Int32.toInt_inj.mp (by omega)) | exact Int32.toInt_inj.mp (by omega) | (rw [uu_a, uu_a]) | (first | exact hfr _ rfl))))
              · exfalso; omega
            · exfalso; omega
      · refine ok_eq (fun c24 => ?_) (fun c24 => ?_)
        · refine ok_c (ixo (by omega) (by omega)) ?_
          try have a25 := FA_at (f := fo) (by assumption) p0.toNatClampNeg
          refine ok_o2 (fy_X1_findByTrying ro (fo p0.toNatClampNeg) (by first | omega | assumption | trivial | exact wt_of (by assumption) (by omega)) (by first | omega | assumption | trivial | exact wt_of (by assumption) (by omega))) (fun c_t_roll_size_51 f_t_roll_held_51 h26 => ?_)
          have h26 : c_t_roll_size_51 = fN (fo p0.toNatClampNeg) ∧ f_t_roll_held_51 = fA ro (fo p0.toNatClampNeg) ∧ 1 ≤ c_t_roll_size_51.toInt ∧ c_t_roll_size_51.toInt ≤ 11 := h26
          obtain ⟨h26_0, h26_1, h26_2, h26_3⟩ := h26
          first | unfold J_X7_factor_83 | skip
          refine ok_o2 (fx_X7_done ac c_t_roll_size_51 ) (fun r91 c_t_acts_91 h27 => ?_)
          have h27 : r91 = c_t_roll_size_51 ∧ c_t_acts_91 = ac + (1 : Int32) := h27
          obtain ⟨h27_0, h27_1⟩ := h27
          refine ok_s ?_
          show ok (F_X9_factor sz ac rf th fo ro p0 p1) (fun q => ((0 = 0 ∧ q.2.2.2.2.1.toInt = 0) ∨ (0 = 1 ∧ q.2.2.2.2.1.toInt = 1) ∨ (0 = 2 ∧ q.2.2.2.2.1.toInt = 2)) ∧ (0 = 0 → r91 = q.1) ∧ c_t_acts_91 = q.2.2.1 ∧ rf = q.2.2.2.1 ∧ c_t_roll_size_51 = q.2.1 ∧ f_t_roll_held_51 = q.2.2.2.2.2 ∧ FA q.2.2.2.2.2 ∧ 0 ≤ q.2.1.toInt ∧ q.2.1.toInt ≤ 12 ∧ 0 ≤ c_t_factors_parts_size.toInt ∧ c_t_factors_parts_size.toInt ≤ 12)
          unfold F_X9_factor
          refine ok_o (sp_X9_isForm p0 ) (fun r2_2 h28 => ?_)
          have h28 : (r2_2.toInt = 1 ∧ 0 ≤ p0.toInt ∧ p0.toInt ≤ 5) ∨ (r2_2.toInt = 0 ∧ (p0.toInt < 0 ∨ 6 ≤ p0.toInt)) := h28
          refine ok_eq (fun c29 => ?_) (fun c29 => ?_)
          · exfalso; omega
          · first | unfold J_X9_factor_13 | skip
            refine ok_lt (fun c30 => ?_) (fun c30 => ?_)
            · exfalso; omega
            · refine ok_le (fun c31 => ?_) (fun c31 => ?_)
              · first | unfold J_X9_factor_27 | skip
                refine ok_o2 (sp_X9_isThrown (0 : Int32) (0 : Int32) ) (fun r27_2 c_t_thrown_27_2 h32 => ?_)
                have h32 : (r27_2.toInt = 0 ∧ c_t_thrown_27_2.toInt = 0 ∧ (0 : Int32).toInt = 0 ∧ (0 : Int32).toInt = 0) ∨ (r27_2.toInt = 1 ∧ c_t_thrown_27_2.toInt = 1 ∧ (0 : Int32).toInt ≠ 0) ∨ (r27_2.toInt = 1 ∧ c_t_thrown_27_2.toInt = 2 ∧ (0 : Int32).toInt = 0 ∧ (0 : Int32).toInt ≠ 0) := h32
                refine ok_eq (fun c33 => ?_) (fun c33 => ?_)
                · refine ok_c (ixo (by omega) (by omega)) ?_
                  try have a34 := FA_at (f := fo) (by assumption) p0.toNatClampNeg
                  refine ok_o (fx_X9_degreeOf (fo p0.toNatClampNeg) ) (fun r41_2 h35 => ?_)
                  have h35 : r41_2 = DI (fo p0.toNatClampNeg) ∧ r41_2.toInt = DG (fo p0.toNatClampNeg) ∧ -1 ≤ r41_2.toInt ∧ r41_2.toInt ≤ 63 := h35
                  obtain ⟨h35_0, h35_1, h35_2, h35_3⟩ := h35
                  refine ok_lt (fun c36 => ?_) (fun c36 => ?_)
                  · exfalso; omega
                  · refine ok_c (ixo (by omega) (by omega)) ?_
                    try have a37 := FA_at (f := fo) (by assumption) p0.toNatClampNeg
                    refine ok_o (fx_X9_degreeOf (fo p0.toNatClampNeg) ) (fun r54_2 h38 => ?_)
                    have h38 : r54_2 = DI (fo p0.toNatClampNeg) ∧ r54_2.toInt = DG (fo p0.toNatClampNeg) ∧ -1 ≤ r54_2.toInt ∧ r54_2.toInt ≤ 63 := h38
                    obtain ⟨h38_0, h38_1, h38_2, h38_3⟩ := h38
                    refine ok_le (fun c39 => ?_) (fun c39 => ?_)
                    · refine ok_c (ixo (by omega) (by omega)) ?_
                      try have a40 := FA_at (f := fo) (by assumption) p0.toNatClampNeg
                      refine ok_bx (fun x3_78 e_x3_78 => ?_)
                      try have q_x3_78 : DG x3_78 = DG (fo p0.toNatClampNeg) := by rw [e_x3_78]
                      try have d_x3_78 : -1 ≤ DG x3_78 ∧ DG x3_78 ≤ 39 := by rw [e_x3_78]; exact FA_at (by assumption) _
                      refine l9_loop _ ro x3_78 (by assumption) (by omega) (by omega) (fun c_t_many_79_125 f_t_roll_79_125 hI41 => ?_)
                      obtain ⟨hl1, hl2, hl3, hl4, hl5⟩ := hI41
                      refine ok_eq (fun c42 => ?_) (fun c42 => ?_)
                      · exfalso; omega
                      · refine ok_o2 (fx_X9_done ac c_t_many_79_125 ) (fun r197 c_t_acts_197 h43 => ?_)
                        have h43 : r197 = c_t_many_79_125 ∧ c_t_acts_197 = ac + (1 : Int32) := h43
                        obtain ⟨h43_0, h43_1⟩ := h43
                        refine ok_s (show ((0 = 0 ∧ c_t_thrown_27_2.toInt = 0) ∨ (0 = 1 ∧ c_t_thrown_27_2.toInt = 1) ∨ (0 = 2 ∧ c_t_thrown_27_2.toInt = 2)) ∧ (0 = 0 → r91 = r197) ∧ c_t_acts_91 = c_t_acts_197 ∧ rf = rf ∧ c_t_roll_size_51 = c_t_many_79_125 ∧ f_t_roll_held_51 = f_t_roll_79_125 ∧ FA f_t_roll_79_125 ∧ 0 ≤ c_t_many_79_125.toInt ∧ c_t_many_79_125.toInt ≤ 12 ∧ 0 ≤ c_t_factors_parts_size.toInt ∧ c_t_factors_parts_size.toInt ≤ 12 from ?_)
                        first | (exfalso; omega) | (subst_vars; first | (exfalso; omega) | (refine ⟨?_, ?_, ?_, ?_, ?_, ?_, ?_, ?_, ?_, ?_, ?_⟩ <;> (first | assumption | rfl | omega | (intro hx; first | rfl | assumption | (exfalso; omega) | exact Int32.toInt_inj.mp (by omega)) | exact Int32.toInt_inj.mp (by omega) | (rw [uu_a, uu_a]) | (first | exact hfr _ rfl))))
                    · exfalso; omega
                · exfalso; omega
              · exfalso; omega
        · refine ok_c (ixo (by omega) (by omega)) ?_
          try have a44 := FA_at (f := fo) (by assumption) p0.toNatClampNeg
          refine ok_o4 (fy_X1_findByDegrees c_t_factors_parts_size f_t_factors_parts_held ro (fo p0.toNatClampNeg) (by first | omega | assumption | trivial | exact wt_of (by assumption) (by omega)) (by first | omega | assumption | trivial | exact wt_of (by assumption) (by omega)) (by first | omega | assumption | trivial | exact wt_of (by assumption) (by omega)) (by first | omega | assumption | trivial | exact wt_of (by assumption) (by omega))) (fun c_t_factors_parts_size_71 f_t_factors_parts_held_71 c_t_roll_size_71 f_t_roll_held_71 h45 => ?_)
          have h45 : c_t_roll_size_71 = fN (fo p0.toNatClampNeg) ∧ f_t_roll_held_71 = upl ro (fB (fo p0.toNatClampNeg)) ∧ 0 ≤ c_t_factors_parts_size_71.toInt ∧ c_t_factors_parts_size_71.toInt ≤ 12 ∧ 1 ≤ c_t_roll_size_71.toInt ∧ c_t_roll_size_71.toInt ≤ 11 := h45
          obtain ⟨h45_0, h45_1, h45_2, h45_3, h45_4, h45_5⟩ := h45
          have hfr : ∀ m : Int32, m = fN (fo p0.toNatClampNeg) → SRT (1 : Int32) (upl ro (fB (fo p0.toNatClampNeg))) m.toInt.toNat = fR ro (fo p0.toNatClampNeg) := fun m hm => by rw [hm, (fN_b (by omega) (by omega)).2.2]; exact (fac_row 0 ro (by omega) (by omega)).1
          refine ok_o3 (fx_X3_arrange c_t_roll_size_71 f_t_roll_held_71 f_t_roll_before (1 : Int32) (by first | omega | assumption | trivial | exact wt_of (by assumption) (by omega)) (by first | omega | assumption | trivial | exact wt_of (by assumption) (by omega))) (fun r79 f_t_roll_held_79 f_t_roll_before_79 h46 => ?_)
          have h46 : r79 = nI (oc (SRT (1 : Int32) f_t_roll_held_71 c_t_roll_size_71.toInt.toNat) f_t_roll_held_71 c_t_roll_size_71.toInt.toNat) ∧ f_t_roll_held_79 = SRT (1 : Int32) f_t_roll_held_71 c_t_roll_size_71.toInt.toNat := h46
          obtain ⟨h46_0, h46_1⟩ := h46
          first | unfold J_X7_factor_83 | skip
          refine ok_o2 (fx_X7_done ac c_t_roll_size_71 ) (fun r91_2 c_t_acts_91_2 h47 => ?_)
          have h47 : r91_2 = c_t_roll_size_71 ∧ c_t_acts_91_2 = ac + (1 : Int32) := h47
          obtain ⟨h47_0, h47_1⟩ := h47
          refine ok_s ?_
          show ok (F_X9_factor sz ac rf th fo ro p0 p1) (fun q => ((0 = 0 ∧ q.2.2.2.2.1.toInt = 0) ∨ (0 = 1 ∧ q.2.2.2.2.1.toInt = 1) ∨ (0 = 2 ∧ q.2.2.2.2.1.toInt = 2)) ∧ (0 = 0 → r91_2 = q.1) ∧ c_t_acts_91_2 = q.2.2.1 ∧ rf = q.2.2.2.1 ∧ c_t_roll_size_71 = q.2.1 ∧ f_t_roll_held_79 = q.2.2.2.2.2 ∧ FA q.2.2.2.2.2 ∧ 0 ≤ q.2.1.toInt ∧ q.2.1.toInt ≤ 12 ∧ 0 ≤ c_t_factors_parts_size_71.toInt ∧ c_t_factors_parts_size_71.toInt ≤ 12)
          unfold F_X9_factor
          refine ok_o (sp_X9_isForm p0 ) (fun r2_3 h48 => ?_)
          have h48 : (r2_3.toInt = 1 ∧ 0 ≤ p0.toInt ∧ p0.toInt ≤ 5) ∨ (r2_3.toInt = 0 ∧ (p0.toInt < 0 ∨ 6 ≤ p0.toInt)) := h48
          refine ok_eq (fun c49 => ?_) (fun c49 => ?_)
          · exfalso; omega
          · first | unfold J_X9_factor_13 | skip
            refine ok_lt (fun c50 => ?_) (fun c50 => ?_)
            · exfalso; omega
            · refine ok_le (fun c51 => ?_) (fun c51 => ?_)
              · first | unfold J_X9_factor_27 | skip
                refine ok_o2 (sp_X9_isThrown (0 : Int32) (0 : Int32) ) (fun r27_3 c_t_thrown_27_3 h52 => ?_)
                have h52 : (r27_3.toInt = 0 ∧ c_t_thrown_27_3.toInt = 0 ∧ (0 : Int32).toInt = 0 ∧ (0 : Int32).toInt = 0) ∨ (r27_3.toInt = 1 ∧ c_t_thrown_27_3.toInt = 1 ∧ (0 : Int32).toInt ≠ 0) ∨ (r27_3.toInt = 1 ∧ c_t_thrown_27_3.toInt = 2 ∧ (0 : Int32).toInt = 0 ∧ (0 : Int32).toInt ≠ 0) := h52
                refine ok_eq (fun c53 => ?_) (fun c53 => ?_)
                · refine ok_c (ixo (by omega) (by omega)) ?_
                  try have a54 := FA_at (f := fo) (by assumption) p0.toNatClampNeg
                  refine ok_o (fx_X9_degreeOf (fo p0.toNatClampNeg) ) (fun r41_3 h55 => ?_)
                  have h55 : r41_3 = DI (fo p0.toNatClampNeg) ∧ r41_3.toInt = DG (fo p0.toNatClampNeg) ∧ -1 ≤ r41_3.toInt ∧ r41_3.toInt ≤ 63 := h55
                  obtain ⟨h55_0, h55_1, h55_2, h55_3⟩ := h55
                  refine ok_lt (fun c56 => ?_) (fun c56 => ?_)
                  · exfalso; omega
                  · refine ok_c (ixo (by omega) (by omega)) ?_
                    try have a57 := FA_at (f := fo) (by assumption) p0.toNatClampNeg
                    refine ok_o (fx_X9_degreeOf (fo p0.toNatClampNeg) ) (fun r54_3 h58 => ?_)
                    have h58 : r54_3 = DI (fo p0.toNatClampNeg) ∧ r54_3.toInt = DG (fo p0.toNatClampNeg) ∧ -1 ≤ r54_3.toInt ∧ r54_3.toInt ≤ 63 := h58
                    obtain ⟨h58_0, h58_1, h58_2, h58_3⟩ := h58
                    refine ok_le (fun c59 => ?_) (fun c59 => ?_)
                    · refine ok_c (ixo (by omega) (by omega)) ?_
                      try have a60 := FA_at (f := fo) (by assumption) p0.toNatClampNeg
                      refine ok_bx (fun x3_78_2 e_x3_78_2 => ?_)
                      try have q_x3_78_2 : DG x3_78_2 = DG (fo p0.toNatClampNeg) := by rw [e_x3_78_2]
                      try have d_x3_78_2 : -1 ≤ DG x3_78_2 ∧ DG x3_78_2 ≤ 39 := by rw [e_x3_78_2]; exact FA_at (by assumption) _
                      refine l9_loop _ ro x3_78_2 (by assumption) (by omega) (by omega) (fun c_t_many_79_125_2 f_t_roll_79_125_2 hI61 => ?_)
                      obtain ⟨hl1, hl2, hl3, hl4, hl5⟩ := hI61
                      refine ok_eq (fun c62 => ?_) (fun c62 => ?_)
                      · refine l9_rev _ ro _ _ x3_78_2 (by assumption) (by omega) (by omega) hl1 hl2 (fun f_t_roll_132_192 hrv => ?_)
                        obtain ⟨hv1, hv2⟩ := hrv
                        refine ok_o2 (fx_X9_done ac c_t_many_79_125_2 ) (fun r197_2 c_t_acts_197_2 h64 => ?_)
                        have h64 : r197_2 = c_t_many_79_125_2 ∧ c_t_acts_197_2 = ac + (1 : Int32) := h64
                        obtain ⟨h64_0, h64_1⟩ := h64
                        refine ok_s (show ((0 = 0 ∧ c_t_thrown_27_3.toInt = 0) ∨ (0 = 1 ∧ c_t_thrown_27_3.toInt = 1) ∨ (0 = 2 ∧ c_t_thrown_27_3.toInt = 2)) ∧ (0 = 0 → r91_2 = r197_2) ∧ c_t_acts_91_2 = c_t_acts_197_2 ∧ rf = rf ∧ c_t_roll_size_71 = c_t_many_79_125_2 ∧ f_t_roll_held_79 = f_t_roll_132_192 ∧ FA f_t_roll_132_192 ∧ 0 ≤ c_t_many_79_125_2.toInt ∧ c_t_many_79_125_2.toInt ≤ 12 ∧ 0 ≤ c_t_factors_parts_size_71.toInt ∧ c_t_factors_parts_size_71.toInt ≤ 12 from ?_)
                        first | (exfalso; omega) | (subst_vars; first | (exfalso; omega) | (refine ⟨?_, ?_, ?_, ?_, ?_, ?_, ?_, ?_, ?_, ?_, ?_⟩ <;> (first | assumption | rfl | omega | (intro hx; first | rfl | assumption | (exfalso; omega) | exact Int32.toInt_inj.mp (by omega)) | exact Int32.toInt_inj.mp (by omega) | (rw [uu_a, uu_a]) | (first | exact hfr _ rfl))))
                      · refine ok_o2 (fx_X9_done ac c_t_many_79_125_2 ) (fun r197_3 c_t_acts_197_3 h65 => ?_)
                        have h65 : r197_3 = c_t_many_79_125_2 ∧ c_t_acts_197_3 = ac + (1 : Int32) := h65
                        obtain ⟨h65_0, h65_1⟩ := h65
                        refine ok_s (show ((0 = 0 ∧ c_t_thrown_27_3.toInt = 0) ∨ (0 = 1 ∧ c_t_thrown_27_3.toInt = 1) ∨ (0 = 2 ∧ c_t_thrown_27_3.toInt = 2)) ∧ (0 = 0 → r91_2 = r197_3) ∧ c_t_acts_91_2 = c_t_acts_197_3 ∧ rf = rf ∧ c_t_roll_size_71 = c_t_many_79_125_2 ∧ f_t_roll_held_79 = f_t_roll_79_125_2 ∧ FA f_t_roll_79_125_2 ∧ 0 ≤ c_t_many_79_125_2.toInt ∧ c_t_many_79_125_2.toInt ≤ 12 ∧ 0 ≤ c_t_factors_parts_size_71.toInt ∧ c_t_factors_parts_size_71.toInt ≤ 12 from ?_)
                        first | (exfalso; omega) | (subst_vars; first | (exfalso; omega) | (refine ⟨?_, ?_, ?_, ?_, ?_, ?_, ?_, ?_, ?_, ?_, ?_⟩ <;> (first | assumption | rfl | omega | (intro hx; first | rfl | assumption | (exfalso; omega) | exact Int32.toInt_inj.mp (by omega)) | exact Int32.toInt_inj.mp (by omega) | (rw [uu_a, uu_a]) | (first | exact hfr _ rfl))))
                    · exfalso; omega
                · exfalso; omega
              · exfalso; omega
    · refine ok_s ?_
      show ok (F_X9_factor sz ac rf th fo ro p0 p1) (fun q => ((xc7 = 0 ∧ q.2.2.2.2.1.toInt = 0) ∨ (xc7 = 1 ∧ q.2.2.2.2.1.toInt = 1) ∨ (xc7 = 2 ∧ q.2.2.2.2.1.toInt = 2)) ∧ (xc7 = 0 → (0 : Int32) = q.1) ∧ ac = q.2.2.1 ∧ rf = q.2.2.2.1 ∧ sz = q.2.1 ∧ ro = q.2.2.2.2.2 ∧ FA q.2.2.2.2.2 ∧ 0 ≤ q.2.1.toInt ∧ q.2.1.toInt ≤ 12 ∧ 0 ≤ c_t_factors_parts_size.toInt ∧ c_t_factors_parts_size.toInt ≤ 12)
      unfold F_X9_factor
      refine ok_o (sp_X9_isForm p0 ) (fun r2_4 h66 => ?_)
      have h66 : (r2_4.toInt = 1 ∧ 0 ≤ p0.toInt ∧ p0.toInt ≤ 5) ∨ (r2_4.toInt = 0 ∧ (p0.toInt < 0 ∨ 6 ≤ p0.toInt)) := h66
      refine ok_eq (fun c67 => ?_) (fun c67 => ?_)
      · exfalso; omega
      · first | unfold J_X9_factor_13 | skip
        refine ok_lt (fun c68 => ?_) (fun c68 => ?_)
        · first | unfold J_X9_factor_22 | skip
          first | unfold J_X9_factor_27 | skip
          refine ok_o2 (sp_X9_isThrown (0 : Int32) (1 : Int32) ) (fun r27_4 c_t_thrown_27_4 h69 => ?_)
          have h69 : (r27_4.toInt = 0 ∧ c_t_thrown_27_4.toInt = 0 ∧ (0 : Int32).toInt = 0 ∧ (1 : Int32).toInt = 0) ∨ (r27_4.toInt = 1 ∧ c_t_thrown_27_4.toInt = 1 ∧ (0 : Int32).toInt ≠ 0) ∨ (r27_4.toInt = 1 ∧ c_t_thrown_27_4.toInt = 2 ∧ (0 : Int32).toInt = 0 ∧ (1 : Int32).toInt ≠ 0) := h69
          refine ok_eq (fun c70 => ?_) (fun c70 => ?_)
          · exfalso; omega
          · refine ok_s (show ((xc7 = 0 ∧ c_t_thrown_27_4.toInt = 0) ∨ (xc7 = 1 ∧ c_t_thrown_27_4.toInt = 1) ∨ (xc7 = 2 ∧ c_t_thrown_27_4.toInt = 2)) ∧ (xc7 = 0 → (0 : Int32) = (0 : Int32)) ∧ ac = ac ∧ rf = rf ∧ sz = sz ∧ ro = ro ∧ FA ro ∧ 0 ≤ sz.toInt ∧ sz.toInt ≤ 12 ∧ 0 ≤ c_t_factors_parts_size.toInt ∧ c_t_factors_parts_size.toInt ≤ 12 from ?_)
            first | (exfalso; omega) | (subst_vars; first | (exfalso; omega) | (refine ⟨?_, ?_, ?_, ?_, ?_, ?_, ?_, ?_, ?_, ?_, ?_⟩ <;> (first | assumption | rfl | omega | (intro hx; first | rfl | assumption | (exfalso; omega) | exact Int32.toInt_inj.mp (by omega)) | exact Int32.toInt_inj.mp (by omega) | (rw [uu_a, uu_a]) | (first | exact hfr _ rfl))))
        · refine ok_le (fun c71 => ?_) (fun c71 => ?_)
          · exfalso; omega
          · first | unfold J_X9_factor_22 | skip
            first | unfold J_X9_factor_27 | skip
            refine ok_o2 (sp_X9_isThrown (0 : Int32) (1 : Int32) ) (fun r27_5 c_t_thrown_27_5 h72 => ?_)
            have h72 : (r27_5.toInt = 0 ∧ c_t_thrown_27_5.toInt = 0 ∧ (0 : Int32).toInt = 0 ∧ (1 : Int32).toInt = 0) ∨ (r27_5.toInt = 1 ∧ c_t_thrown_27_5.toInt = 1 ∧ (0 : Int32).toInt ≠ 0) ∨ (r27_5.toInt = 1 ∧ c_t_thrown_27_5.toInt = 2 ∧ (0 : Int32).toInt = 0 ∧ (1 : Int32).toInt ≠ 0) := h72
            refine ok_eq (fun c73 => ?_) (fun c73 => ?_)
            · exfalso; omega
            · refine ok_s (show ((xc7 = 0 ∧ c_t_thrown_27_5.toInt = 0) ∨ (xc7 = 1 ∧ c_t_thrown_27_5.toInt = 1) ∨ (xc7 = 2 ∧ c_t_thrown_27_5.toInt = 2)) ∧ (xc7 = 0 → (0 : Int32) = (0 : Int32)) ∧ ac = ac ∧ rf = rf ∧ sz = sz ∧ ro = ro ∧ FA ro ∧ 0 ≤ sz.toInt ∧ sz.toInt ≤ 12 ∧ 0 ≤ c_t_factors_parts_size.toInt ∧ c_t_factors_parts_size.toInt ≤ 12 from ?_)
              first | (exfalso; omega) | (subst_vars; first | (exfalso; omega) | (refine ⟨?_, ?_, ?_, ?_, ?_, ?_, ?_, ?_, ?_, ?_, ?_⟩ <;> (first | assumption | rfl | omega | (intro hx; first | rfl | assumption | (exfalso; omega) | exact Int32.toInt_inj.mp (by omega)) | exact Int32.toInt_inj.mp (by omega) | (rw [uu_a, uu_a]) | (first | exact hfr _ rfl))))
  · refine ok_s ?_
    show ok (F_X9_factor sz ac rf th fo ro p0 p1) (fun q => ((xc1 = 0 ∧ q.2.2.2.2.1.toInt = 0) ∨ (xc1 = 1 ∧ q.2.2.2.2.1.toInt = 1) ∨ (xc1 = 2 ∧ q.2.2.2.2.1.toInt = 2)) ∧ (xc1 = 0 → (0 : Int32) = q.1) ∧ ac = q.2.2.1 ∧ rf = q.2.2.2.1 ∧ sz = q.2.1 ∧ ro = q.2.2.2.2.2 ∧ FA q.2.2.2.2.2 ∧ 0 ≤ q.2.1.toInt ∧ q.2.1.toInt ≤ 12 ∧ 0 ≤ c_t_factors_parts_size.toInt ∧ c_t_factors_parts_size.toInt ≤ 12)
    unfold F_X9_factor
    refine ok_o (sp_X9_isForm p0 ) (fun r2_5 h74 => ?_)
    have h74 : (r2_5.toInt = 1 ∧ 0 ≤ p0.toInt ∧ p0.toInt ≤ 5) ∨ (r2_5.toInt = 0 ∧ (p0.toInt < 0 ∨ 6 ≤ p0.toInt)) := h74
    refine ok_eq (fun c75 => ?_) (fun c75 => ?_)
    · first | unfold J_X9_factor_13 | skip
      refine ok_lt (fun c76 => ?_) (fun c76 => ?_)
      · first | unfold J_X9_factor_22 | skip
        first | unfold J_X9_factor_27 | skip
        refine ok_o2 (sp_X9_isThrown (1 : Int32) (1 : Int32) ) (fun r27_6 c_t_thrown_27_6 h77 => ?_)
        have h77 : (r27_6.toInt = 0 ∧ c_t_thrown_27_6.toInt = 0 ∧ (1 : Int32).toInt = 0 ∧ (1 : Int32).toInt = 0) ∨ (r27_6.toInt = 1 ∧ c_t_thrown_27_6.toInt = 1 ∧ (1 : Int32).toInt ≠ 0) ∨ (r27_6.toInt = 1 ∧ c_t_thrown_27_6.toInt = 2 ∧ (1 : Int32).toInt = 0 ∧ (1 : Int32).toInt ≠ 0) := h77
        refine ok_eq (fun c78 => ?_) (fun c78 => ?_)
        · exfalso; omega
        · refine ok_s (show ((xc1 = 0 ∧ c_t_thrown_27_6.toInt = 0) ∨ (xc1 = 1 ∧ c_t_thrown_27_6.toInt = 1) ∨ (xc1 = 2 ∧ c_t_thrown_27_6.toInt = 2)) ∧ (xc1 = 0 → (0 : Int32) = (0 : Int32)) ∧ ac = ac ∧ rf = rf ∧ sz = sz ∧ ro = ro ∧ FA ro ∧ 0 ≤ sz.toInt ∧ sz.toInt ≤ 12 ∧ 0 ≤ c_t_factors_parts_size.toInt ∧ c_t_factors_parts_size.toInt ≤ 12 from ?_)
          first | (exfalso; omega) | (subst_vars; first | (exfalso; omega) | (refine ⟨?_, ?_, ?_, ?_, ?_, ?_, ?_, ?_, ?_, ?_, ?_⟩ <;> (first | assumption | rfl | omega | (intro hx; first | rfl | assumption | (exfalso; omega) | exact Int32.toInt_inj.mp (by omega)) | exact Int32.toInt_inj.mp (by omega) | (rw [uu_a, uu_a]) | (first | exact hfr _ rfl))))
      · refine ok_le (fun c79 => ?_) (fun c79 => ?_)
        · first | unfold J_X9_factor_27 | skip
          refine ok_o2 (sp_X9_isThrown (1 : Int32) (0 : Int32) ) (fun r27_7 c_t_thrown_27_7 h80 => ?_)
          have h80 : (r27_7.toInt = 0 ∧ c_t_thrown_27_7.toInt = 0 ∧ (1 : Int32).toInt = 0 ∧ (0 : Int32).toInt = 0) ∨ (r27_7.toInt = 1 ∧ c_t_thrown_27_7.toInt = 1 ∧ (1 : Int32).toInt ≠ 0) ∨ (r27_7.toInt = 1 ∧ c_t_thrown_27_7.toInt = 2 ∧ (1 : Int32).toInt = 0 ∧ (0 : Int32).toInt ≠ 0) := h80
          refine ok_eq (fun c81 => ?_) (fun c81 => ?_)
          · exfalso; omega
          · refine ok_s (show ((xc1 = 0 ∧ c_t_thrown_27_7.toInt = 0) ∨ (xc1 = 1 ∧ c_t_thrown_27_7.toInt = 1) ∨ (xc1 = 2 ∧ c_t_thrown_27_7.toInt = 2)) ∧ (xc1 = 0 → (0 : Int32) = (0 : Int32)) ∧ ac = ac ∧ rf = rf ∧ sz = sz ∧ ro = ro ∧ FA ro ∧ 0 ≤ sz.toInt ∧ sz.toInt ≤ 12 ∧ 0 ≤ c_t_factors_parts_size.toInt ∧ c_t_factors_parts_size.toInt ≤ 12 from ?_)
            first | (exfalso; omega) | (subst_vars; first | (exfalso; omega) | (refine ⟨?_, ?_, ?_, ?_, ?_, ?_, ?_, ?_, ?_, ?_, ?_⟩ <;> (first | assumption | rfl | omega | (intro hx; first | rfl | assumption | (exfalso; omega) | exact Int32.toInt_inj.mp (by omega)) | exact Int32.toInt_inj.mp (by omega) | (rw [uu_a, uu_a]) | (first | exact hfr _ rfl))))
        · first | unfold J_X9_factor_22 | skip
          first | unfold J_X9_factor_27 | skip
          refine ok_o2 (sp_X9_isThrown (1 : Int32) (1 : Int32) ) (fun r27_8 c_t_thrown_27_8 h82 => ?_)
          have h82 : (r27_8.toInt = 0 ∧ c_t_thrown_27_8.toInt = 0 ∧ (1 : Int32).toInt = 0 ∧ (1 : Int32).toInt = 0) ∨ (r27_8.toInt = 1 ∧ c_t_thrown_27_8.toInt = 1 ∧ (1 : Int32).toInt ≠ 0) ∨ (r27_8.toInt = 1 ∧ c_t_thrown_27_8.toInt = 2 ∧ (1 : Int32).toInt = 0 ∧ (1 : Int32).toInt ≠ 0) := h82
          refine ok_eq (fun c83 => ?_) (fun c83 => ?_)
          · exfalso; omega
          · refine ok_s (show ((xc1 = 0 ∧ c_t_thrown_27_8.toInt = 0) ∨ (xc1 = 1 ∧ c_t_thrown_27_8.toInt = 1) ∨ (xc1 = 2 ∧ c_t_thrown_27_8.toInt = 2)) ∧ (xc1 = 0 → (0 : Int32) = (0 : Int32)) ∧ ac = ac ∧ rf = rf ∧ sz = sz ∧ ro = ro ∧ FA ro ∧ 0 ≤ sz.toInt ∧ sz.toInt ≤ 12 ∧ 0 ≤ c_t_factors_parts_size.toInt ∧ c_t_factors_parts_size.toInt ≤ 12 from ?_)
            first | (exfalso; omega) | (subst_vars; first | (exfalso; omega) | (refine ⟨?_, ?_, ?_, ?_, ?_, ?_, ?_, ?_, ?_, ?_, ?_⟩ <;> (first | assumption | rfl | omega | (intro hx; first | rfl | assumption | (exfalso; omega) | exact Int32.toInt_inj.mp (by omega)) | exact Int32.toInt_inj.mp (by omega) | (rw [uu_a, uu_a]) | (first | exact hfr _ rfl))))
    · exfalso; omega
set_option maxHeartbeats 1000000 in
theorem s7_enroll (ac : Int32) (rf : Int32) (sz : Int32) (fo : Nat → Int64) (ro : Nat → Int64) (p0 : Int32) (hp0 : FA fo) (hp1 : FA ro) (hp2 : 0 ≤ sz.toInt) (hp3 : sz.toInt ≤ 12) : ok (F_X7_enroll ac rf fo sz ro p0) (fun r => ok (F_X9_enroll sz ac rf fo ro p0) (fun q => ((r.1 = 0 ∧ q.2.2.2.2.1.toInt = 0) ∨ (r.1 = 1 ∧ q.2.2.2.2.1.toInt = 1)) ∧ (r.1 = 0 → r.2.1 = q.1) ∧ r.2.2.1 = q.2.2.1 ∧ r.2.2.2.1 = q.2.2.2.1 ∧ r.2.2.2.2.1 = q.2.1 ∧ r.2.2.2.2.2 = q.2.2.2.2.2 ∧ FA q.2.2.2.2.2 ∧ 0 ≤ q.2.1.toInt ∧ q.2.1.toInt ≤ 12)) := by
  have l032 : (0 : Int32).toInt = 0 := by decide
  have l132 : (1 : Int32).toInt = 1 := by decide
  have l1232 : (12 : Int32).toInt = 12 := by decide
  unfold F_X7_enroll
  refine ok_o (fx_X7_testForm p0 ) (fun xc1 h1 => ?_)
  have h1 : (xc1 = 0 ∧ 0 ≤ p0.toInt ∧ p0.toInt ≤ 5) ∨ (xc1 = 1 ∧ (p0.toInt < 0 ∨ 5 < p0.toInt)) := h1
  refine ok_i (fun c2 => ?_) (fun c2 => ?_)
  · refine ok_lt (fun c3 => ?_) (fun c3 => ?_)
    · refine ok_c (ixo (by omega) (by omega)) ?_
      try have a4 := FA_at (f := fo) (by assumption) p0.toNatClampNeg
      refine ok_o2 (fx_X3_append sz ro (fo p0.toNatClampNeg) (by first | omega | assumption | trivial | exact wt_of (by assumption) (by omega)) (by first | omega | assumption | trivial | exact wt_of (by assumption) (by omega))) (fun c_t_roll_size_31 f_t_roll_held_31 h5 => ?_)
      have h5 : c_t_roll_size_31 = sz + (1 : Int32) ∧ f_t_roll_held_31 = vp_updL ro sz.toNatClampNeg (fo p0.toNatClampNeg) := h5
      obtain ⟨h5_0, h5_1⟩ := h5
      refine ok_o2 (fx_X7_done ac c_t_roll_size_31 ) (fun r42 c_t_acts_42 h6 => ?_)
      have h6 : r42 = c_t_roll_size_31 ∧ c_t_acts_42 = ac + (1 : Int32) := h6
      obtain ⟨h6_0, h6_1⟩ := h6
      refine ok_s ?_
      show ok (F_X9_enroll sz ac rf fo ro p0) (fun q => ((0 = 0 ∧ q.2.2.2.2.1.toInt = 0) ∨ (0 = 1 ∧ q.2.2.2.2.1.toInt = 1)) ∧ (0 = 0 → r42 = q.1) ∧ c_t_acts_42 = q.2.2.1 ∧ rf = q.2.2.2.1 ∧ c_t_roll_size_31 = q.2.1 ∧ f_t_roll_held_31 = q.2.2.2.2.2 ∧ FA q.2.2.2.2.2 ∧ 0 ≤ q.2.1.toInt ∧ q.2.1.toInt ≤ 12)
      unfold F_X9_enroll
      refine ok_o (sp_X9_isForm p0 ) (fun r2 h7 => ?_)
      have h7 : (r2.toInt = 1 ∧ 0 ≤ p0.toInt ∧ p0.toInt ≤ 5) ∨ (r2.toInt = 0 ∧ (p0.toInt < 0 ∨ 6 ≤ p0.toInt)) := h7
      refine ok_eq (fun c8 => ?_) (fun c8 => ?_)
      · exfalso; omega
      · refine ok_o2 (sp_X9_isThrown_ (0 : Int32) ) (fun r13 c_t_thrown_13 h9 => ?_)
        have h9 : (r13.toInt = 0 ∧ c_t_thrown_13.toInt = 0 ∧ (0 : Int32).toInt = 0) ∨ (r13.toInt = 1 ∧ c_t_thrown_13.toInt = 1 ∧ (0 : Int32).toInt ≠ 0) := h9
        refine ok_eq (fun c10 => ?_) (fun c10 => ?_)
        · refine ok_eq (fun c11 => ?_) (fun c11 => ?_)
          · exfalso; omega
          · refine ok_bx (fun c_t_many_47 e_c_t_many_47 => ?_)
            try have t_c_t_many_47 : c_t_many_47.toInt = sz.toInt + 1 := by rw [e_c_t_many_47]; exact addT1 (show (1 : Int32).toInt = 1 from by decide) (by omega) (by omega)
            refine ok_c (ixo (by omega) (by omega)) ?_
            refine ok_c (ixo (by omega) (by omega)) ?_
            try have a12 := FA_at (f := fo) (by assumption) p0.toNatClampNeg
            refine ok_bx (fun f_t_roll_56 e_f_t_roll_56 => ?_)
            try have t_f_t_roll_56 : FA f_t_roll_56 := by rw [e_f_t_roll_56]; exact FA_upd (by first | assumption | exact FA_0) _ (by first | omega | assumption | trivial)
            refine ok_o2 (fx_X9_done ac c_t_many_47 ) (fun r62 c_t_acts_62 h13 => ?_)
            have h13 : r62 = c_t_many_47 ∧ c_t_acts_62 = ac + (1 : Int32) := h13
            obtain ⟨h13_0, h13_1⟩ := h13
            refine ok_s (show ((0 = 0 ∧ c_t_thrown_13.toInt = 0) ∨ (0 = 1 ∧ c_t_thrown_13.toInt = 1)) ∧ (0 = 0 → r42 = r62) ∧ c_t_acts_42 = c_t_acts_62 ∧ rf = rf ∧ c_t_roll_size_31 = c_t_many_47 ∧ f_t_roll_held_31 = f_t_roll_56 ∧ FA f_t_roll_56 ∧ 0 ≤ c_t_many_47.toInt ∧ c_t_many_47.toInt ≤ 12 from ?_)
            first | (exfalso; omega) | (subst_vars; first | (exfalso; omega) | (refine ⟨?_, ?_, ?_, ?_, ?_, ?_, ?_, ?_, ?_⟩ <;> (first | assumption | rfl | omega | (intro hx; first | rfl | assumption | (exfalso; omega) | exact Int32.toInt_inj.mp (by omega)) | exact Int32.toInt_inj.mp (by omega) | (rw [uu_a, uu_a]))))
        · exfalso; omega
    · refine ok_o2 (fx_X7_refuse rf ) (fun r17 c_t_refusals_17 h14 => ?_)
      have h14 : r17 = (-9 : Int32) ∧ c_t_refusals_17 = rf + (1 : Int32) := h14
      obtain ⟨h14_0, h14_1⟩ := h14
      refine ok_s ?_
      show ok (F_X9_enroll sz ac rf fo ro p0) (fun q => ((0 = 0 ∧ q.2.2.2.2.1.toInt = 0) ∨ (0 = 1 ∧ q.2.2.2.2.1.toInt = 1)) ∧ (0 = 0 → r17 = q.1) ∧ ac = q.2.2.1 ∧ c_t_refusals_17 = q.2.2.2.1 ∧ sz = q.2.1 ∧ ro = q.2.2.2.2.2 ∧ FA q.2.2.2.2.2 ∧ 0 ≤ q.2.1.toInt ∧ q.2.1.toInt ≤ 12)
      unfold F_X9_enroll
      refine ok_o (sp_X9_isForm p0 ) (fun r2_2 h15 => ?_)
      have h15 : (r2_2.toInt = 1 ∧ 0 ≤ p0.toInt ∧ p0.toInt ≤ 5) ∨ (r2_2.toInt = 0 ∧ (p0.toInt < 0 ∨ 6 ≤ p0.toInt)) := h15
      refine ok_eq (fun c16 => ?_) (fun c16 => ?_)
      · exfalso; omega
      · refine ok_o2 (sp_X9_isThrown_ (0 : Int32) ) (fun r13_2 c_t_thrown_13_2 h17 => ?_)
        have h17 : (r13_2.toInt = 0 ∧ c_t_thrown_13_2.toInt = 0 ∧ (0 : Int32).toInt = 0) ∨ (r13_2.toInt = 1 ∧ c_t_thrown_13_2.toInt = 1 ∧ (0 : Int32).toInt ≠ 0) := h17
        refine ok_eq (fun c18 => ?_) (fun c18 => ?_)
        · refine ok_eq (fun c19 => ?_) (fun c19 => ?_)
          · refine ok_o2 (fx_X9_no rf ) (fun r31 c_t_refused_31 h20 => ?_)
            have h20 : r31 = (-9 : Int32) ∧ c_t_refused_31 = rf + (1 : Int32) := h20
            obtain ⟨h20_0, h20_1⟩ := h20
            refine ok_s (show ((0 = 0 ∧ c_t_thrown_13_2.toInt = 0) ∨ (0 = 1 ∧ c_t_thrown_13_2.toInt = 1)) ∧ (0 = 0 → r17 = r31) ∧ ac = ac ∧ c_t_refusals_17 = c_t_refused_31 ∧ sz = sz ∧ ro = ro ∧ FA ro ∧ 0 ≤ sz.toInt ∧ sz.toInt ≤ 12 from ?_)
            first | (exfalso; omega) | (subst_vars; first | (exfalso; omega) | (refine ⟨?_, ?_, ?_, ?_, ?_, ?_, ?_, ?_, ?_⟩ <;> (first | assumption | rfl | omega | (intro hx; first | rfl | assumption | (exfalso; omega) | exact Int32.toInt_inj.mp (by omega)) | exact Int32.toInt_inj.mp (by omega) | (rw [uu_a, uu_a]))))
          · exfalso; omega
        · exfalso; omega
  · refine ok_s ?_
    show ok (F_X9_enroll sz ac rf fo ro p0) (fun q => ((xc1 = 0 ∧ q.2.2.2.2.1.toInt = 0) ∨ (xc1 = 1 ∧ q.2.2.2.2.1.toInt = 1)) ∧ (xc1 = 0 → (0 : Int32) = q.1) ∧ ac = q.2.2.1 ∧ rf = q.2.2.2.1 ∧ sz = q.2.1 ∧ ro = q.2.2.2.2.2 ∧ FA q.2.2.2.2.2 ∧ 0 ≤ q.2.1.toInt ∧ q.2.1.toInt ≤ 12)
    unfold F_X9_enroll
    refine ok_o (sp_X9_isForm p0 ) (fun r2_3 h21 => ?_)
    have h21 : (r2_3.toInt = 1 ∧ 0 ≤ p0.toInt ∧ p0.toInt ≤ 5) ∨ (r2_3.toInt = 0 ∧ (p0.toInt < 0 ∨ 6 ≤ p0.toInt)) := h21
    refine ok_eq (fun c22 => ?_) (fun c22 => ?_)
    · refine ok_o2 (sp_X9_isThrown_ (1 : Int32) ) (fun r13_3 c_t_thrown_13_3 h23 => ?_)
      have h23 : (r13_3.toInt = 0 ∧ c_t_thrown_13_3.toInt = 0 ∧ (1 : Int32).toInt = 0) ∨ (r13_3.toInt = 1 ∧ c_t_thrown_13_3.toInt = 1 ∧ (1 : Int32).toInt ≠ 0) := h23
      refine ok_eq (fun c24 => ?_) (fun c24 => ?_)
      · exfalso; omega
      · refine ok_s (show ((xc1 = 0 ∧ c_t_thrown_13_3.toInt = 0) ∨ (xc1 = 1 ∧ c_t_thrown_13_3.toInt = 1)) ∧ (xc1 = 0 → (0 : Int32) = (0 : Int32)) ∧ ac = ac ∧ rf = rf ∧ sz = sz ∧ ro = ro ∧ FA ro ∧ 0 ≤ sz.toInt ∧ sz.toInt ≤ 12 from ?_)
        first | (exfalso; omega) | (subst_vars; first | (exfalso; omega) | (refine ⟨?_, ?_, ?_, ?_, ?_, ?_, ?_, ?_, ?_⟩ <;> (first | assumption | rfl | omega | (intro hx; first | rfl | assumption | (exfalso; omega) | exact Int32.toInt_inj.mp (by omega)) | exact Int32.toInt_inj.mp (by omega) | (rw [uu_a, uu_a]))))
    · exfalso; omega
set_option maxHeartbeats 1000000 in
theorem s7_strike (ac : Int32) (sz : Int32) (ro : Nat → Int64) (th : Int32) (p0 : Int32) (hp0 : FA ro) (hp1 : 0 ≤ sz.toInt) (hp2 : sz.toInt ≤ 12) : ok (F_X7_strike ac sz ro p0) (fun r => ok (F_X9_strike sz ac th ro p0) (fun q => ((r.1 = 0 ∧ q.2.2.2.1.toInt = 0) ∨ (r.1 = 1 ∧ q.2.2.2.1.toInt = 1)) ∧ (r.1 = 0 → r.2.1 = q.1) ∧ r.2.2.1 = q.2.2.1 ∧ r.2.2.2.1 = q.2.1 ∧ r.2.2.2.2 = q.2.2.2.2 ∧ FA q.2.2.2.2 ∧ 0 ≤ q.2.1.toInt ∧ q.2.1.toInt ≤ 12)) := by
  have l032 : (0 : Int32).toInt = 0 := by decide
  have l132 : (1 : Int32).toInt = 1 := by decide
  unfold F_X7_strike
  refine ok_o (fx_X7_testRolled sz p0 (by first | omega | assumption | trivial | exact wt_of (by assumption) (by omega)) (by first | omega | assumption | trivial | exact wt_of (by assumption) (by omega))) (fun xc2 h1 => ?_)
  have h1 : (xc2 = 0 ∧ 0 ≤ p0.toInt ∧ p0.toInt ≤ sz.toInt - 1) ∨ (xc2 = 1 ∧ (p0.toInt < 0 ∨ sz.toInt ≤ p0.toInt)) := h1
  refine ok_i (fun c2 => ?_) (fun c2 => ?_)
  · refine ok_o (fx_X3_at sz ro p0 (by first | omega | assumption | trivial | exact wt_of (by assumption) (by omega)) (by first | omega | assumption | trivial | exact wt_of (by assumption) (by omega)) (by first | omega | assumption | trivial | exact wt_of (by assumption) (by omega))) (fun r10 h3 => ?_)
    have h3 : r10 = ro p0.toNatClampNeg := h3
    refine ok_o2 (fx_X3_removeAt sz ro p0 (by first | omega | assumption | trivial | exact wt_of (by assumption) (by omega)) (by first | omega | assumption | trivial | exact wt_of (by assumption) (by omega)) (by first | omega | assumption | trivial | exact wt_of (by assumption) (by omega))) (fun c_t_roll_size_19 f_t_roll_held_19 h4 => ?_)
    have h4 : c_t_roll_size_19 = sz - (1 : Int32) ∧ f_t_roll_held_19 = rmA ro p0.toInt.toNat (sz.toInt.toNat - 1) := h4
    obtain ⟨h4_0, h4_1⟩ := h4
    refine ok_o (fx_X0_degreeOf r10 ) (fun r24 h5 => ?_)
    have h5 : r24 = DI r10 ∧ r24.toInt = DG r10 ∧ -1 ≤ r24.toInt ∧ r24.toInt ≤ 63 := h5
    obtain ⟨h5_0, h5_1, h5_2, h5_3⟩ := h5
    refine ok_o2 (fx_X7_done ac r24 ) (fun r27 c_t_acts_27 h6 => ?_)
    have h6 : r27 = r24 ∧ c_t_acts_27 = ac + (1 : Int32) := h6
    obtain ⟨h6_0, h6_1⟩ := h6
    refine ok_s ?_
    show ok (F_X9_strike sz ac th ro p0) (fun q => ((0 = 0 ∧ q.2.2.2.1.toInt = 0) ∨ (0 = 1 ∧ q.2.2.2.1.toInt = 1)) ∧ (0 = 0 → r27 = q.1) ∧ c_t_acts_27 = q.2.2.1 ∧ c_t_roll_size_19 = q.2.1 ∧ f_t_roll_held_19 = q.2.2.2.2 ∧ FA q.2.2.2.2 ∧ 0 ≤ q.2.1.toInt ∧ q.2.1.toInt ≤ 12)
    unfold F_X9_strike
    refine ok_lt (fun c7 => ?_) (fun c7 => ?_)
    · exfalso; omega
    · refine ok_lt (fun c8 => ?_) (fun c8 => ?_)
      · first | unfold J_X9_strike_18 | skip
        refine ok_o2 (sp_X9_isThrown_ (0 : Int32) ) (fun r18 c_t_thrown_18 h9 => ?_)
        have h9 : (r18.toInt = 0 ∧ c_t_thrown_18.toInt = 0 ∧ (0 : Int32).toInt = 0) ∨ (r18.toInt = 1 ∧ c_t_thrown_18.toInt = 1 ∧ (0 : Int32).toInt ≠ 0) := h9
        refine ok_eq (fun c10 => ?_) (fun c10 => ?_)
        · refine ok_c (ixo (by omega) (by omega)) ?_
          try have a11 := FA_at (f := ro) (by assumption) p0.toNatClampNeg
          refine ok_o (fx_X9_degreeOf (ro p0.toNatClampNeg) ) (fun r32 h12 => ?_)
          have h12 : r32 = DI (ro p0.toNatClampNeg) ∧ r32.toInt = DG (ro p0.toNatClampNeg) ∧ -1 ≤ r32.toInt ∧ r32.toInt ≤ 63 := h12
          obtain ⟨h12_0, h12_1, h12_2, h12_3⟩ := h12
          refine ok_bx (fun c_t_many_43 e_c_t_many_43 => ?_)
          try have t_c_t_many_43 : c_t_many_43.toInt = sz.toInt - 1 := by rw [e_c_t_many_43]; exact subT1 (show (1 : Int32).toInt = 1 from by decide) (by omega) (by omega)
          refine st_loop _ c_t_many_43 p0 ro (by assumption) (by omega) (by omega) (by omega) (fun f_t_roll_48_76 hI13 hst => ?_)
          have hrm : rmA ro p0.toInt.toNat (sz.toInt.toNat - 1) = rmA ro p0.toInt.toNat c_t_many_43.toInt.toNat := by congr 1; omega
          refine ok_o2 (fx_X9_done ac r32 ) (fun r78 c_t_acts_78 h14 => ?_)
          have h14 : r78 = r32 ∧ c_t_acts_78 = ac + (1 : Int32) := h14
          obtain ⟨h14_0, h14_1⟩ := h14
          refine ok_s (show ((0 = 0 ∧ c_t_thrown_18.toInt = 0) ∨ (0 = 1 ∧ c_t_thrown_18.toInt = 1)) ∧ (0 = 0 → r27 = r78) ∧ c_t_acts_27 = c_t_acts_78 ∧ c_t_roll_size_19 = c_t_many_43 ∧ f_t_roll_held_19 = f_t_roll_48_76 ∧ FA f_t_roll_48_76 ∧ 0 ≤ c_t_many_43.toInt ∧ c_t_many_43.toInt ≤ 12 from ?_)
          first | (exfalso; omega) | (subst_vars; first | (exfalso; omega) | (refine ⟨?_, ?_, ?_, ?_, ?_, ?_, ?_, ?_⟩ <;> (first | assumption | rfl | omega | (intro hx; first | rfl | assumption | (exfalso; omega) | exact Int32.toInt_inj.mp (by omega)) | exact Int32.toInt_inj.mp (by omega) | (rw [uu_a, uu_a]))))
        · exfalso; omega
      · exfalso; omega
  · refine ok_s ?_
    show ok (F_X9_strike sz ac th ro p0) (fun q => ((xc2 = 0 ∧ q.2.2.2.1.toInt = 0) ∨ (xc2 = 1 ∧ q.2.2.2.1.toInt = 1)) ∧ (xc2 = 0 → (0 : Int32) = q.1) ∧ ac = q.2.2.1 ∧ sz = q.2.1 ∧ ro = q.2.2.2.2 ∧ FA q.2.2.2.2 ∧ 0 ≤ q.2.1.toInt ∧ q.2.1.toInt ≤ 12)
    unfold F_X9_strike
    refine ok_lt (fun c15 => ?_) (fun c15 => ?_)
    · first | unfold J_X9_strike_13 | skip
      first | unfold J_X9_strike_18 | skip
      refine ok_o2 (sp_X9_isThrown_ (1 : Int32) ) (fun r18_2 c_t_thrown_18_2 h16 => ?_)
      have h16 : (r18_2.toInt = 0 ∧ c_t_thrown_18_2.toInt = 0 ∧ (1 : Int32).toInt = 0) ∨ (r18_2.toInt = 1 ∧ c_t_thrown_18_2.toInt = 1 ∧ (1 : Int32).toInt ≠ 0) := h16
      refine ok_eq (fun c17 => ?_) (fun c17 => ?_)
      · exfalso; omega
      · refine ok_s (show ((xc2 = 0 ∧ c_t_thrown_18_2.toInt = 0) ∨ (xc2 = 1 ∧ c_t_thrown_18_2.toInt = 1)) ∧ (xc2 = 0 → (0 : Int32) = (0 : Int32)) ∧ ac = ac ∧ sz = sz ∧ ro = ro ∧ FA ro ∧ 0 ≤ sz.toInt ∧ sz.toInt ≤ 12 from ?_)
        first | (exfalso; omega) | (subst_vars; first | (exfalso; omega) | (refine ⟨?_, ?_, ?_, ?_, ?_, ?_, ?_, ?_⟩ <;> (first | assumption | rfl | omega | (intro hx; first | rfl | assumption | (exfalso; omega) | exact Int32.toInt_inj.mp (by omega)) | exact Int32.toInt_inj.mp (by omega) | (rw [uu_a, uu_a]))))
    · refine ok_lt (fun c18 => ?_) (fun c18 => ?_)
      · exfalso; omega
      · first | unfold J_X9_strike_13 | skip
        first | unfold J_X9_strike_18 | skip
        refine ok_o2 (sp_X9_isThrown_ (1 : Int32) ) (fun r18_3 c_t_thrown_18_3 h19 => ?_)
        have h19 : (r18_3.toInt = 0 ∧ c_t_thrown_18_3.toInt = 0 ∧ (1 : Int32).toInt = 0) ∨ (r18_3.toInt = 1 ∧ c_t_thrown_18_3.toInt = 1 ∧ (1 : Int32).toInt ≠ 0) := h19
        refine ok_eq (fun c20 => ?_) (fun c20 => ?_)
        · exfalso; omega
        · refine ok_s (show ((xc2 = 0 ∧ c_t_thrown_18_3.toInt = 0) ∨ (xc2 = 1 ∧ c_t_thrown_18_3.toInt = 1)) ∧ (xc2 = 0 → (0 : Int32) = (0 : Int32)) ∧ ac = ac ∧ sz = sz ∧ ro = ro ∧ FA ro ∧ 0 ≤ sz.toInt ∧ sz.toInt ≤ 12 from ?_)
          first | (exfalso; omega) | (subst_vars; first | (exfalso; omega) | (refine ⟨?_, ?_, ?_, ?_, ?_, ?_, ?_, ?_⟩ <;> (first | assumption | rfl | omega | (intro hx; first | rfl | assumption | (exfalso; omega) | exact Int32.toInt_inj.mp (by omega)) | exact Int32.toInt_inj.mp (by omega) | (rw [uu_a, uu_a]))))
set_option maxHeartbeats 1000000 in
theorem s7_turnAll (ac : Int32) (sz : Int32) (ro : Nat → Int64) (f_t_roll_before : Nat → Int64) (hp0 : FA ro) (hp1 : 0 ≤ sz.toInt) (hp2 : sz.toInt ≤ 12) : ok (F_X7_turnAll ac sz ro f_t_roll_before) (fun r => ok (F_X9_turnAll sz ac ro) (fun q => r.1 = q.1 ∧ r.2.1 = q.2.1 ∧ r.2.2.1 = q.2.2.2 ∧ FA q.2.2.2)) := by
  have l032 : (0 : Int32).toInt = 0 := by decide
  have l132 : (1 : Int32).toInt = 1 := by decide
  unfold F_X7_turnAll
  refine ok_o3 (fx_X3_turnEach sz ro f_t_roll_before (by first | omega | assumption | trivial | exact wt_of (by assumption) (by omega)) (by first | omega | assumption | trivial | exact wt_of (by assumption) (by omega)) (by first | omega | assumption | trivial | exact wt_of (by assumption) (by omega))) (fun r5 f_t_roll_held_5 f_t_roll_before_5 h1 => ?_)
  have h1 : r5 = nI (oc (tuA ro sz.toInt.toNat) ro sz.toInt.toNat) ∧ f_t_roll_held_5 = tuA ro sz.toInt.toNat := h1
  obtain ⟨h1_0, h1_1⟩ := h1
  refine ok_o2 (fx_X7_done ac r5 ) (fun r8 c_t_acts_8 h2 => ?_)
  have h2 : r8 = r5 ∧ c_t_acts_8 = ac + (1 : Int32) := h2
  obtain ⟨h2_0, h2_1⟩ := h2
  refine ok_s ?_
  show ok (F_X9_turnAll sz ac ro) (fun q => r8 = q.1 ∧ c_t_acts_8 = q.2.1 ∧ f_t_roll_held_5 = q.2.2.2 ∧ FA q.2.2.2)
  unfold F_X9_turnAll
  refine tu_loop _ sz ro (by assumption) (by omega) (by omega) (fun y1_9_59 f_t_roll_9_59 hI3 => ?_)
  obtain ⟨htu1, htu2, htu3⟩ := hI3
  refine ok_o2 (fx_X9_done ac y1_9_59 ) (fun r61 c_t_acts_61 h4 => ?_)
  have h4 : r61 = y1_9_59 ∧ c_t_acts_61 = ac + (1 : Int32) := h4
  obtain ⟨h4_0, h4_1⟩ := h4
  refine ok_s (show r8 = r61 ∧ c_t_acts_8 = c_t_acts_61 ∧ f_t_roll_held_5 = f_t_roll_9_59 ∧ FA f_t_roll_9_59 from ?_)
  first | (exfalso; omega) | (subst_vars; first | (exfalso; omega) | (refine ⟨?_, ?_, ?_, ?_⟩ <;> (first | assumption | rfl | omega | (intro hx; first | rfl | assumption | (exfalso; omega) | exact Int32.toInt_inj.mp (by omega)) | exact Int32.toInt_inj.mp (by omega) | (rw [uu_a, uu_a]))))
set_option maxHeartbeats 1000000 in
theorem s7_take (ac : Int32) (sz : Int32) (fo : Nat → Int64) (ro : Nat → Int64) (p0 : Int32) (p1 : Int32) (hp0 : FA fo) (hp1 : FA ro) (hp2 : 0 ≤ sz.toInt) (hp3 : sz.toInt ≤ 12) : ok (F_X7_take ac fo sz ro p0 p1) (fun r => ok (F_X9_take sz ac fo ro p0 p1) (fun q => ((r.1 = 0 ∧ q.2.2.1.toInt = 0) ∨ (r.1 = 1 ∧ q.2.2.1.toInt = 1)) ∧ (r.1 = 0 → r.2.1 = q.1) ∧ r.2.2.1 = q.2.1 ∧ r.2.2.2 = q.2.2.2 ∧ FA q.2.2.2)) := by
  have l032 : (0 : Int32).toInt = 0 := by decide
  have l132 : (1 : Int32).toInt = 1 := by decide
  unfold F_X7_take
  refine ok_o (fx_X7_testRolled sz p0 (by first | omega | assumption | trivial | exact wt_of (by assumption) (by omega)) (by first | omega | assumption | trivial | exact wt_of (by assumption) (by omega))) (fun xc2 h1 => ?_)
  have h1 : (xc2 = 0 ∧ 0 ≤ p0.toInt ∧ p0.toInt ≤ sz.toInt - 1) ∨ (xc2 = 1 ∧ (p0.toInt < 0 ∨ sz.toInt ≤ p0.toInt)) := h1
  refine ok_i (fun c2 => ?_) (fun c2 => ?_)
  · refine ok_o (fx_X7_testForm p1 ) (fun xc6 h3 => ?_)
    have h3 : (xc6 = 0 ∧ 0 ≤ p1.toInt ∧ p1.toInt ≤ 5) ∨ (xc6 = 1 ∧ (p1.toInt < 0 ∨ 5 < p1.toInt)) := h3
    refine ok_i (fun c4 => ?_) (fun c4 => ?_)
    · refine ok_o (fx_X3_at sz ro p0 (by first | omega | assumption | trivial | exact wt_of (by assumption) (by omega)) (by first | omega | assumption | trivial | exact wt_of (by assumption) (by omega)) (by first | omega | assumption | trivial | exact wt_of (by assumption) (by omega))) (fun r16 h5 => ?_)
      have h5 : r16 = ro p0.toNatClampNeg := h5
      refine ok_o3 (fx_X7_become ac fo p1 r16 (by first | omega | assumption | trivial | exact wt_of (by assumption) (by omega)) (by first | omega | assumption | trivial | exact wt_of (by assumption) (by omega))) (fun r19 c_t_acts_19 f_t_forms_19 h6 => ?_)
      have h6 : r19 = DI r16 ∧ c_t_acts_19 = ac + (1 : Int32) ∧ f_t_forms_19 = vp_updL fo p1.toNatClampNeg r16 := h6
      obtain ⟨h6_0, h6_1, h6_2⟩ := h6
      refine ok_s ?_
      show ok (F_X9_take sz ac fo ro p0 p1) (fun q => ((0 = 0 ∧ q.2.2.1.toInt = 0) ∨ (0 = 1 ∧ q.2.2.1.toInt = 1)) ∧ (0 = 0 → r19 = q.1) ∧ c_t_acts_19 = q.2.1 ∧ f_t_forms_19 = q.2.2.2 ∧ FA q.2.2.2)
      unfold F_X9_take
      refine ok_lt (fun c7 => ?_) (fun c7 => ?_)
      · exfalso; omega
      · refine ok_le (fun c8 => ?_) (fun c8 => ?_)
        · exfalso; omega
        · refine ok_o (sp_X9_isForm p1 ) (fun r14 h9 => ?_)
          have h9 : (r14.toInt = 1 ∧ 0 ≤ p1.toInt ∧ p1.toInt ≤ 5) ∨ (r14.toInt = 0 ∧ (p1.toInt < 0 ∨ 6 ≤ p1.toInt)) := h9
          refine ok_eq (fun c10 => ?_) (fun c10 => ?_)
          · exfalso; omega
          · refine ok_o2 (sp_X9_isThrown_ (0 : Int32) ) (fun r25 c_t_thrown_25 h11 => ?_)
            have h11 : (r25.toInt = 0 ∧ c_t_thrown_25.toInt = 0 ∧ (0 : Int32).toInt = 0) ∨ (r25.toInt = 1 ∧ c_t_thrown_25.toInt = 1 ∧ (0 : Int32).toInt ≠ 0) := h11
            refine ok_eq (fun c12 => ?_) (fun c12 => ?_)
            · refine ok_c (ixo (by omega) (by omega)) ?_
              try have a13 := FA_at (f := ro) (by assumption) p0.toNatClampNeg
              refine ok_o3 (fx_X9_give ac fo p1 (ro p0.toNatClampNeg) (by first | omega | assumption | trivial | exact wt_of (by assumption) (by omega)) (by first | omega | assumption | trivial | exact wt_of (by assumption) (by omega)) (by first | omega | assumption | trivial | exact wt_of (by assumption) (by omega)) (by first | omega | assumption | trivial | exact wt_of (by assumption) (by omega))) (fun r43 c_t_acts_43 f_t_forms_43 h14 => ?_)
              have h14 : r43 = DI (ro p0.toNatClampNeg) ∧ c_t_acts_43 = ac + (1 : Int32) ∧ f_t_forms_43 = vp_updL fo p1.toNatClampNeg (ro p0.toNatClampNeg) ∧ FA f_t_forms_43 := h14
              obtain ⟨h14_0, h14_1, h14_2, h14_3⟩ := h14
              refine ok_s (show ((0 = 0 ∧ c_t_thrown_25.toInt = 0) ∨ (0 = 1 ∧ c_t_thrown_25.toInt = 1)) ∧ (0 = 0 → r19 = r43) ∧ c_t_acts_19 = c_t_acts_43 ∧ f_t_forms_19 = f_t_forms_43 ∧ FA f_t_forms_43 from ?_)
              first | (exfalso; omega) | (subst_vars; first | (exfalso; omega) | (refine ⟨?_, ?_, ?_, ?_, ?_⟩ <;> (first | assumption | rfl | omega | (intro hx; first | rfl | assumption | (exfalso; omega) | exact Int32.toInt_inj.mp (by omega)) | exact Int32.toInt_inj.mp (by omega) | (rw [uu_a, uu_a]))))
            · exfalso; omega
    · refine ok_s ?_
      show ok (F_X9_take sz ac fo ro p0 p1) (fun q => ((xc6 = 0 ∧ q.2.2.1.toInt = 0) ∨ (xc6 = 1 ∧ q.2.2.1.toInt = 1)) ∧ (xc6 = 0 → (0 : Int32) = q.1) ∧ ac = q.2.1 ∧ fo = q.2.2.2 ∧ FA q.2.2.2)
      unfold F_X9_take
      refine ok_lt (fun c15 => ?_) (fun c15 => ?_)
      · exfalso; omega
      · refine ok_le (fun c16 => ?_) (fun c16 => ?_)
        · exfalso; omega
        · refine ok_o (sp_X9_isForm p1 ) (fun r14_2 h17 => ?_)
          have h17 : (r14_2.toInt = 1 ∧ 0 ≤ p1.toInt ∧ p1.toInt ≤ 5) ∨ (r14_2.toInt = 0 ∧ (p1.toInt < 0 ∨ 6 ≤ p1.toInt)) := h17
          refine ok_eq (fun c18 => ?_) (fun c18 => ?_)
          · refine ok_o2 (sp_X9_isThrown_ (1 : Int32) ) (fun r25_2 c_t_thrown_25_2 h19 => ?_)
            have h19 : (r25_2.toInt = 0 ∧ c_t_thrown_25_2.toInt = 0 ∧ (1 : Int32).toInt = 0) ∨ (r25_2.toInt = 1 ∧ c_t_thrown_25_2.toInt = 1 ∧ (1 : Int32).toInt ≠ 0) := h19
            refine ok_eq (fun c20 => ?_) (fun c20 => ?_)
            · exfalso; omega
            · refine ok_s (show ((xc6 = 0 ∧ c_t_thrown_25_2.toInt = 0) ∨ (xc6 = 1 ∧ c_t_thrown_25_2.toInt = 1)) ∧ (xc6 = 0 → (0 : Int32) = (0 : Int32)) ∧ ac = ac ∧ fo = fo ∧ FA fo from ?_)
              first | (exfalso; omega) | (subst_vars; first | (exfalso; omega) | (refine ⟨?_, ?_, ?_, ?_, ?_⟩ <;> (first | assumption | rfl | omega | (intro hx; first | rfl | assumption | (exfalso; omega) | exact Int32.toInt_inj.mp (by omega)) | exact Int32.toInt_inj.mp (by omega) | (rw [uu_a, uu_a]))))
          · exfalso; omega
  · refine ok_s ?_
    show ok (F_X9_take sz ac fo ro p0 p1) (fun q => ((xc2 = 0 ∧ q.2.2.1.toInt = 0) ∨ (xc2 = 1 ∧ q.2.2.1.toInt = 1)) ∧ (xc2 = 0 → (0 : Int32) = q.1) ∧ ac = q.2.1 ∧ fo = q.2.2.2 ∧ FA q.2.2.2)
    unfold F_X9_take
    refine ok_lt (fun c21 => ?_) (fun c21 => ?_)
    · refine ok_o2 (sp_X9_isThrown_ (1 : Int32) ) (fun r25_3 c_t_thrown_25_3 h22 => ?_)
      have h22 : (r25_3.toInt = 0 ∧ c_t_thrown_25_3.toInt = 0 ∧ (1 : Int32).toInt = 0) ∨ (r25_3.toInt = 1 ∧ c_t_thrown_25_3.toInt = 1 ∧ (1 : Int32).toInt ≠ 0) := h22
      refine ok_eq (fun c23 => ?_) (fun c23 => ?_)
      · exfalso; omega
      · refine ok_s (show ((xc2 = 0 ∧ c_t_thrown_25_3.toInt = 0) ∨ (xc2 = 1 ∧ c_t_thrown_25_3.toInt = 1)) ∧ (xc2 = 0 → (0 : Int32) = (0 : Int32)) ∧ ac = ac ∧ fo = fo ∧ FA fo from ?_)
        first | (exfalso; omega) | (subst_vars; first | (exfalso; omega) | (refine ⟨?_, ?_, ?_, ?_, ?_⟩ <;> (first | assumption | rfl | omega | (intro hx; first | rfl | assumption | (exfalso; omega) | exact Int32.toInt_inj.mp (by omega)) | exact Int32.toInt_inj.mp (by omega) | (rw [uu_a, uu_a]))))
    · refine ok_le (fun c24 => ?_) (fun c24 => ?_)
      · refine ok_o2 (sp_X9_isThrown_ (1 : Int32) ) (fun r25_4 c_t_thrown_25_4 h25 => ?_)
        have h25 : (r25_4.toInt = 0 ∧ c_t_thrown_25_4.toInt = 0 ∧ (1 : Int32).toInt = 0) ∨ (r25_4.toInt = 1 ∧ c_t_thrown_25_4.toInt = 1 ∧ (1 : Int32).toInt ≠ 0) := h25
        refine ok_eq (fun c26 => ?_) (fun c26 => ?_)
        · exfalso; omega
        · refine ok_s (show ((xc2 = 0 ∧ c_t_thrown_25_4.toInt = 0) ∨ (xc2 = 1 ∧ c_t_thrown_25_4.toInt = 1)) ∧ (xc2 = 0 → (0 : Int32) = (0 : Int32)) ∧ ac = ac ∧ fo = fo ∧ FA fo from ?_)
          first | (exfalso; omega) | (subst_vars; first | (exfalso; omega) | (refine ⟨?_, ?_, ?_, ?_, ?_⟩ <;> (first | assumption | rfl | omega | (intro hx; first | rfl | assumption | (exfalso; omega) | exact Int32.toInt_inj.mp (by omega)) | exact Int32.toInt_inj.mp (by omega) | (rw [uu_a, uu_a]))))
      · exfalso; omega
set_option maxHeartbeats 1000000 in
theorem s7_start (ac : Int32) (rf : Int32) (ce : Int32) (fo : Nat → Int64) (ta : Int64) (p0 : Int32) (hp0 : FA fo) (hp1 : CT ta ce) : ok (F_X7_start ac rf fo ta (ce.toInt64) p0) (fun r => ok (F_X9_start ta ce ac rf fo p0) (fun q => ((r.1 = 0 ∧ q.2.2.2.2.2.toInt = 0) ∨ (r.1 = 1 ∧ q.2.2.2.2.2.toInt = 1)) ∧ (r.1 = 0 → r.2.1 = q.1) ∧ r.2.2.1 = q.2.2.2.1 ∧ r.2.2.2.1 = q.2.2.2.2.1 ∧ r.2.2.2.2.1 = q.2.1 ∧ r.2.2.2.2.2 = q.2.2.1.toInt64 ∧ CT q.2.1 q.2.2.1)) := by
  have l032 : (0 : Int32).toInt = 0 := by decide
  have l132 : (1 : Int32).toInt = 1 := by decide
  have hct := CT_g hp1
  unfold F_X7_start
  refine ok_o (fx_X7_testForm p0 ) (fun xc1 h1 => ?_)
  have h1 : (xc1 = 0 ∧ 0 ≤ p0.toInt ∧ p0.toInt ≤ 5) ∨ (xc1 = 1 ∧ (p0.toInt < 0 ∨ 5 < p0.toInt)) := h1
  refine ok_i (fun c2 => ?_) (fun c2 => ?_)
  · refine ok_c (ixo (by omega) (by omega)) ?_
    try have a3 := FA_at (f := fo) (by assumption) p0.toNatClampNeg
    refine ok_o (fx_X6_isWheel (fo p0.toNatClampNeg) (by first | omega | assumption | trivial | exact wt_of (by assumption) (by omega))) (fun r10 h4 => ?_)
    have h4 : (r10.toInt = 0 ∨ r10.toInt = 1) ∧ (r10.toInt ≠ 0 → WT (fo p0.toNatClampNeg)) ∧ r10 = WB (fo p0.toNatClampNeg) := h4
    obtain ⟨h4_0, h4_1, h4_2⟩ := h4
    refine ok_eq (fun c5 => ?_) (fun c5 => ?_)
    · refine ok_o2 (fx_X7_refuse rf ) (fun r17 c_t_refusals_17 h6 => ?_)
      have h6 : r17 = (-9 : Int32) ∧ c_t_refusals_17 = rf + (1 : Int32) := h6
      obtain ⟨h6_0, h6_1⟩ := h6
      refine ok_s ?_
      show ok (F_X9_start ta ce ac rf fo p0) (fun q => ((0 = 0 ∧ q.2.2.2.2.2.toInt = 0) ∨ (0 = 1 ∧ q.2.2.2.2.2.toInt = 1)) ∧ (0 = 0 → r17 = q.1) ∧ ac = q.2.2.2.1 ∧ c_t_refusals_17 = q.2.2.2.2.1 ∧ ta = q.2.1 ∧ (ce.toInt64) = q.2.2.1.toInt64 ∧ CT q.2.1 q.2.2.1)
      unfold F_X9_start
      refine ok_o (sp_X9_isForm p0 ) (fun r2 h7 => ?_)
      have h7 : (r2.toInt = 1 ∧ 0 ≤ p0.toInt ∧ p0.toInt ≤ 5) ∨ (r2.toInt = 0 ∧ (p0.toInt < 0 ∨ 6 ≤ p0.toInt)) := h7
      refine ok_eq (fun c8 => ?_) (fun c8 => ?_)
      · exfalso; omega
      · refine ok_o2 (sp_X9_isThrown_ (0 : Int32) ) (fun r13 c_t_thrown_13 h9 => ?_)
        have h9 : (r13.toInt = 0 ∧ c_t_thrown_13.toInt = 0 ∧ (0 : Int32).toInt = 0) ∨ (r13.toInt = 1 ∧ c_t_thrown_13.toInt = 1 ∧ (0 : Int32).toInt ≠ 0) := h9
        refine ok_eq (fun c10 => ?_) (fun c10 => ?_)
        · refine ok_c (ixo (by omega) (by omega)) ?_
          try have a11 := FA_at (f := fo) (by assumption) p0.toNatClampNeg
          refine ok_o (fx_X9_isWheel (fo p0.toNatClampNeg) ) (fun r27 h12 => ?_)
          have h12 : (r27.toInt = 0 ∨ r27.toInt = 1) ∧ (r27.toInt ≠ 0 → WT (fo p0.toNatClampNeg)) ∧ r27 = WB (fo p0.toNatClampNeg) := h12
          obtain ⟨h12_0, h12_1, h12_2⟩ := h12
          refine ok_eq (fun c13 => ?_) (fun c13 => ?_)
          · refine ok_o2 (fx_X9_no rf ) (fun r34 c_t_refused_34 h14 => ?_)
            have h14 : r34 = (-9 : Int32) ∧ c_t_refused_34 = rf + (1 : Int32) := h14
            obtain ⟨h14_0, h14_1⟩ := h14
            refine ok_s (show ((0 = 0 ∧ c_t_thrown_13.toInt = 0) ∨ (0 = 1 ∧ c_t_thrown_13.toInt = 1)) ∧ (0 = 0 → r17 = r34) ∧ ac = ac ∧ c_t_refusals_17 = c_t_refused_34 ∧ ta = ta ∧ (ce.toInt64) = ce.toInt64 ∧ CT ta ce from ?_)
            first | (exfalso; omega) | (subst_vars; first | (exfalso; omega) | (refine ⟨?_, ?_, ?_, ?_, ?_, ?_, ?_⟩ <;> (first | assumption | rfl | omega | (intro hx; first | rfl | assumption | (exfalso; omega) | exact Int32.toInt_inj.mp (by omega)) | exact Int32.toInt_inj.mp (by omega) | (rw [uu_a, uu_a]) | (first | exact hcb hww | exact hcw hww))))
          · refine ok_c (ixo (by omega) (by omega)) ?_
            try have a15 := FA_at (f := fo) (by assumption) p0.toNatClampNeg
            refine ok_bx (fun c_t_taps_45 e_c_t_taps_45 => ?_)
            try have q_c_t_taps_45 : DG c_t_taps_45 = DG (fo p0.toNatClampNeg) := by rw [e_c_t_taps_45]
            try have d_c_t_taps_45 : -1 ≤ DG c_t_taps_45 ∧ DG c_t_taps_45 ≤ 39 := by rw [e_c_t_taps_45]; exact FA_at (by assumption) _
            refine ok_o (fx_X9_degreeOf c_t_taps_45 ) (fun r54 h16 => ?_)
            have h16 : r54 = DI c_t_taps_45 ∧ r54.toInt = DG c_t_taps_45 ∧ -1 ≤ r54.toInt ∧ r54.toInt ≤ 63 := h16
            obtain ⟨h16_0, h16_1, h16_2, h16_3⟩ := h16
            refine ok_bx (fun c_t_cells_60 e_c_t_cells_60 => ?_)
            have hcb : WT c_t_taps_45 → CBL c_t_taps_45 = c_t_cells_60.toInt64 := fun hw => by rw [e_c_t_cells_60]; exact cb_eq hw (by omega)
            have hcw : WT c_t_taps_45 → CT c_t_taps_45 c_t_cells_60 := fun hw => by rw [e_c_t_cells_60]; exact CT_begin hw (by omega)
            have hww : WT c_t_taps_45 := by rw [e_c_t_taps_45]; first | exact wt_of (by assumption) (by omega) | (exfalso; omega)
            refine ok_o (fx_X9_degreeOf c_t_taps_45 ) (fun r68 h17 => ?_)
            have h17 : r68 = DI c_t_taps_45 ∧ r68.toInt = DG c_t_taps_45 ∧ -1 ≤ r68.toInt ∧ r68.toInt ≤ 63 := h17
            obtain ⟨h17_0, h17_1, h17_2, h17_3⟩ := h17
            refine ok_o2 (fx_X9_done ac r68 ) (fun r71 c_t_acts_71 h18 => ?_)
            have h18 : r71 = r68 ∧ c_t_acts_71 = ac + (1 : Int32) := h18
            obtain ⟨h18_0, h18_1⟩ := h18
            refine ok_s (show ((0 = 0 ∧ c_t_thrown_13.toInt = 0) ∨ (0 = 1 ∧ c_t_thrown_13.toInt = 1)) ∧ (0 = 0 → r17 = r71) ∧ ac = c_t_acts_71 ∧ c_t_refusals_17 = rf ∧ ta = c_t_taps_45 ∧ (ce.toInt64) = c_t_cells_60.toInt64 ∧ CT c_t_taps_45 c_t_cells_60 from ?_)
            first | (exfalso; omega) | (subst_vars; first | (exfalso; omega) | (refine ⟨?_, ?_, ?_, ?_, ?_, ?_, ?_⟩ <;> (first | assumption | rfl | omega | (intro hx; first | rfl | assumption | (exfalso; omega) | exact Int32.toInt_inj.mp (by omega)) | exact Int32.toInt_inj.mp (by omega) | (rw [uu_a, uu_a]) | (first | exact hcb hww | exact hcw hww))))
        · exfalso; omega
    · refine ok_c (ixo (by omega) (by omega)) ?_
      try have a19 := FA_at (f := fo) (by assumption) p0.toNatClampNeg
      refine ok_o2 (fx_X5_beginAnew (fo p0.toNatClampNeg) ) (fun c_t_row_taps_31 c_t_row_cells_31 h20 => ?_)
      have h20 : c_t_row_taps_31 = (fo p0.toNatClampNeg) ∧ c_t_row_cells_31 = CBL (fo p0.toNatClampNeg) := h20
      obtain ⟨h20_0, h20_1⟩ := h20
      refine ok_o (fx_X0_degreeOf c_t_row_taps_31 ) (fun r42 h21 => ?_)
      have h21 : r42 = DI c_t_row_taps_31 ∧ r42.toInt = DG c_t_row_taps_31 ∧ -1 ≤ r42.toInt ∧ r42.toInt ≤ 63 := h21
      obtain ⟨h21_0, h21_1, h21_2, h21_3⟩ := h21
      refine ok_o2 (fx_X7_done ac r42 ) (fun r45 c_t_acts_45 h22 => ?_)
      have h22 : r45 = r42 ∧ c_t_acts_45 = ac + (1 : Int32) := h22
      obtain ⟨h22_0, h22_1⟩ := h22
      refine ok_s ?_
      show ok (F_X9_start ta ce ac rf fo p0) (fun q => ((0 = 0 ∧ q.2.2.2.2.2.toInt = 0) ∨ (0 = 1 ∧ q.2.2.2.2.2.toInt = 1)) ∧ (0 = 0 → r45 = q.1) ∧ c_t_acts_45 = q.2.2.2.1 ∧ rf = q.2.2.2.2.1 ∧ c_t_row_taps_31 = q.2.1 ∧ c_t_row_cells_31 = q.2.2.1.toInt64 ∧ CT q.2.1 q.2.2.1)
      unfold F_X9_start
      refine ok_o (sp_X9_isForm p0 ) (fun r2_2 h23 => ?_)
      have h23 : (r2_2.toInt = 1 ∧ 0 ≤ p0.toInt ∧ p0.toInt ≤ 5) ∨ (r2_2.toInt = 0 ∧ (p0.toInt < 0 ∨ 6 ≤ p0.toInt)) := h23
      refine ok_eq (fun c24 => ?_) (fun c24 => ?_)
      · exfalso; omega
      · refine ok_o2 (sp_X9_isThrown_ (0 : Int32) ) (fun r13_2 c_t_thrown_13_2 h25 => ?_)
        have h25 : (r13_2.toInt = 0 ∧ c_t_thrown_13_2.toInt = 0 ∧ (0 : Int32).toInt = 0) ∨ (r13_2.toInt = 1 ∧ c_t_thrown_13_2.toInt = 1 ∧ (0 : Int32).toInt ≠ 0) := h25
        refine ok_eq (fun c26 => ?_) (fun c26 => ?_)
        · refine ok_c (ixo (by omega) (by omega)) ?_
          try have a27 := FA_at (f := fo) (by assumption) p0.toNatClampNeg
          refine ok_o (fx_X9_isWheel (fo p0.toNatClampNeg) ) (fun r27_2 h28 => ?_)
          have h28 : (r27_2.toInt = 0 ∨ r27_2.toInt = 1) ∧ (r27_2.toInt ≠ 0 → WT (fo p0.toNatClampNeg)) ∧ r27_2 = WB (fo p0.toNatClampNeg) := h28
          obtain ⟨h28_0, h28_1, h28_2⟩ := h28
          refine ok_eq (fun c29 => ?_) (fun c29 => ?_)
          · refine ok_o2 (fx_X9_no rf ) (fun r34_2 c_t_refused_34_2 h30 => ?_)
            have h30 : r34_2 = (-9 : Int32) ∧ c_t_refused_34_2 = rf + (1 : Int32) := h30
            obtain ⟨h30_0, h30_1⟩ := h30
            refine ok_s (show ((0 = 0 ∧ c_t_thrown_13_2.toInt = 0) ∨ (0 = 1 ∧ c_t_thrown_13_2.toInt = 1)) ∧ (0 = 0 → r45 = r34_2) ∧ c_t_acts_45 = ac ∧ rf = c_t_refused_34_2 ∧ c_t_row_taps_31 = ta ∧ c_t_row_cells_31 = ce.toInt64 ∧ CT ta ce from ?_)
            first | (exfalso; omega) | (subst_vars; first | (exfalso; omega) | (refine ⟨?_, ?_, ?_, ?_, ?_, ?_, ?_⟩ <;> (first | assumption | rfl | omega | (intro hx; first | rfl | assumption | (exfalso; omega) | exact Int32.toInt_inj.mp (by omega)) | exact Int32.toInt_inj.mp (by omega) | (rw [uu_a, uu_a]) | (first | exact hcb hww | exact hcw hww))))
          · refine ok_c (ixo (by omega) (by omega)) ?_
            try have a31 := FA_at (f := fo) (by assumption) p0.toNatClampNeg
            refine ok_bx (fun c_t_taps_45_2 e_c_t_taps_45_2 => ?_)
            try have q_c_t_taps_45_2 : DG c_t_taps_45_2 = DG (fo p0.toNatClampNeg) := by rw [e_c_t_taps_45_2]
            try have d_c_t_taps_45_2 : -1 ≤ DG c_t_taps_45_2 ∧ DG c_t_taps_45_2 ≤ 39 := by rw [e_c_t_taps_45_2]; exact FA_at (by assumption) _
            refine ok_o (fx_X9_degreeOf c_t_taps_45_2 ) (fun r54_2 h32 => ?_)
            have h32 : r54_2 = DI c_t_taps_45_2 ∧ r54_2.toInt = DG c_t_taps_45_2 ∧ -1 ≤ r54_2.toInt ∧ r54_2.toInt ≤ 63 := h32
            obtain ⟨h32_0, h32_1, h32_2, h32_3⟩ := h32
            refine ok_bx (fun c_t_cells_60_2 e_c_t_cells_60_2 => ?_)
            have hcb : WT c_t_taps_45_2 → CBL c_t_taps_45_2 = c_t_cells_60_2.toInt64 := fun hw => by rw [e_c_t_cells_60_2]; exact cb_eq hw (by omega)
            have hcw : WT c_t_taps_45_2 → CT c_t_taps_45_2 c_t_cells_60_2 := fun hw => by rw [e_c_t_cells_60_2]; exact CT_begin hw (by omega)
            have hww : WT c_t_taps_45_2 := by rw [e_c_t_taps_45_2]; first | exact wt_of (by assumption) (by omega) | (exfalso; omega)
            refine ok_o (fx_X9_degreeOf c_t_taps_45_2 ) (fun r68_2 h33 => ?_)
            have h33 : r68_2 = DI c_t_taps_45_2 ∧ r68_2.toInt = DG c_t_taps_45_2 ∧ -1 ≤ r68_2.toInt ∧ r68_2.toInt ≤ 63 := h33
            obtain ⟨h33_0, h33_1, h33_2, h33_3⟩ := h33
            refine ok_o2 (fx_X9_done ac r68_2 ) (fun r71_2 c_t_acts_71_2 h34 => ?_)
            have h34 : r71_2 = r68_2 ∧ c_t_acts_71_2 = ac + (1 : Int32) := h34
            obtain ⟨h34_0, h34_1⟩ := h34
            refine ok_s (show ((0 = 0 ∧ c_t_thrown_13_2.toInt = 0) ∨ (0 = 1 ∧ c_t_thrown_13_2.toInt = 1)) ∧ (0 = 0 → r45 = r71_2) ∧ c_t_acts_45 = c_t_acts_71_2 ∧ rf = rf ∧ c_t_row_taps_31 = c_t_taps_45_2 ∧ c_t_row_cells_31 = c_t_cells_60_2.toInt64 ∧ CT c_t_taps_45_2 c_t_cells_60_2 from ?_)
            first | (exfalso; omega) | (subst_vars; first | (exfalso; omega) | (refine ⟨?_, ?_, ?_, ?_, ?_, ?_, ?_⟩ <;> (first | assumption | rfl | omega | (intro hx; first | rfl | assumption | (exfalso; omega) | exact Int32.toInt_inj.mp (by omega)) | exact Int32.toInt_inj.mp (by omega) | (rw [uu_a, uu_a]) | (first | exact hcb hww | exact hcw hww))))
        · exfalso; omega
  · refine ok_s ?_
    show ok (F_X9_start ta ce ac rf fo p0) (fun q => ((xc1 = 0 ∧ q.2.2.2.2.2.toInt = 0) ∨ (xc1 = 1 ∧ q.2.2.2.2.2.toInt = 1)) ∧ (xc1 = 0 → (0 : Int32) = q.1) ∧ ac = q.2.2.2.1 ∧ rf = q.2.2.2.2.1 ∧ ta = q.2.1 ∧ (ce.toInt64) = q.2.2.1.toInt64 ∧ CT q.2.1 q.2.2.1)
    unfold F_X9_start
    refine ok_o (sp_X9_isForm p0 ) (fun r2_3 h35 => ?_)
    have h35 : (r2_3.toInt = 1 ∧ 0 ≤ p0.toInt ∧ p0.toInt ≤ 5) ∨ (r2_3.toInt = 0 ∧ (p0.toInt < 0 ∨ 6 ≤ p0.toInt)) := h35
    refine ok_eq (fun c36 => ?_) (fun c36 => ?_)
    · refine ok_o2 (sp_X9_isThrown_ (1 : Int32) ) (fun r13_3 c_t_thrown_13_3 h37 => ?_)
      have h37 : (r13_3.toInt = 0 ∧ c_t_thrown_13_3.toInt = 0 ∧ (1 : Int32).toInt = 0) ∨ (r13_3.toInt = 1 ∧ c_t_thrown_13_3.toInt = 1 ∧ (1 : Int32).toInt ≠ 0) := h37
      refine ok_eq (fun c38 => ?_) (fun c38 => ?_)
      · exfalso; omega
      · refine ok_s (show ((xc1 = 0 ∧ c_t_thrown_13_3.toInt = 0) ∨ (xc1 = 1 ∧ c_t_thrown_13_3.toInt = 1)) ∧ (xc1 = 0 → (0 : Int32) = (0 : Int32)) ∧ ac = ac ∧ rf = rf ∧ ta = ta ∧ (ce.toInt64) = ce.toInt64 ∧ CT ta ce from ?_)
        first | (exfalso; omega) | (subst_vars; first | (exfalso; omega) | (refine ⟨?_, ?_, ?_, ?_, ?_, ?_, ?_⟩ <;> (first | assumption | rfl | omega | (intro hx; first | rfl | assumption | (exfalso; omega) | exact Int32.toInt_inj.mp (by omega)) | exact Int32.toInt_inj.mp (by omega) | (rw [uu_a, uu_a]) | (first | exact hcb hww | exact hcw hww))))
    · exfalso; omega
set_option maxHeartbeats 1000000 in
theorem s7_step (ac : Int32) (ce : Int32) (ta : Int64) (p0 : Int32) (hp0 : CT ta ce) : ok (F_X7_step ac ta (ce.toInt64) p0) (fun r => ok (F_X9_step ta ce ac p0) (fun q => ((r.1 = 0 ∧ q.2.2.2.toInt = 0) ∨ (r.1 = 2 ∧ q.2.2.2.toInt = 1)) ∧ (r.1 = 0 → r.2.1 = q.1) ∧ r.2.2.1 = q.2.2.1 ∧ r.2.2.2 = q.2.1.toInt64 ∧ CT ta q.2.1)) := by
  have l032 : (0 : Int32).toInt = 0 := by decide
  have l132 : (1 : Int32).toInt = 1 := by decide
  have l25532 : (255 : Int32).toInt = 255 := by decide
  have hct := CT_g hp0
  have hct2 : CT ta (ce.toInt64).toInt32 := by rw [i64_i]; exact hp0
  have hce : (ce.toInt64) = (ce.toInt64).toInt32.toInt64 := by rw [i64_i]
  unfold F_X7_step
  refine ok_o (sp_X7_testRange p0 (0 : Int32) (255 : Int32) ) (fun xc5 h1 => ?_)
  have h1 : (xc5 = 0 ∧ (0 : Int32).toInt ≤ p0.toInt ∧ p0.toInt ≤ (255 : Int32).toInt) ∨ (xc5 = 2 ∧ (p0.toInt < (0 : Int32).toInt ∨ (255 : Int32).toInt < p0.toInt)) := h1
  refine ok_i (fun c2 => ?_) (fun c2 => ?_)
  · refine ok_o2 (fx_X5_goOn ta (ce.toInt64) p0 (by first | omega | assumption | trivial | exact wt_of (by assumption) (by omega)) (by first | omega | assumption | trivial | exact wt_of (by assumption) (by omega)) (by first | omega | assumption | trivial | exact wt_of (by assumption) (by omega)) (by first | omega | assumption | trivial | exact wt_of (by assumption) (by omega))) (fun r14 c_t_row_cells_14 h3 => ?_)
    have h3 : r14 = GS ta (ce.toInt64) p0 ∧ c_t_row_cells_14 = ITL ta (ce.toInt64) p0 := h3
    obtain ⟨h3_0, h3_1⟩ := h3
    refine ok_o2 (fx_X7_done ac r14 ) (fun r17 c_t_acts_17 h4 => ?_)
    have h4 : r17 = r14 ∧ c_t_acts_17 = ac + (1 : Int32) := h4
    obtain ⟨h4_0, h4_1⟩ := h4
    refine ok_s ?_
    show ok (F_X9_step ta ce ac p0) (fun q => ((0 = 0 ∧ q.2.2.2.toInt = 0) ∨ (0 = 2 ∧ q.2.2.2.toInt = 1)) ∧ (0 = 0 → r17 = q.1) ∧ c_t_acts_17 = q.2.2.1 ∧ c_t_row_cells_14 = q.2.1.toInt64 ∧ CT ta q.2.1)
    unfold F_X9_step
    refine ok_lt (fun c5 => ?_) (fun c5 => ?_)
    · exfalso; omega
    · refine ok_le (fun c6 => ?_) (fun c6 => ?_)
      · refine ok_o2 (sp_X9_isThrown_ (0 : Int32) ) (fun r17_2 c_t_thrown_17 h7 => ?_)
        have h7 : (r17_2.toInt = 0 ∧ c_t_thrown_17.toInt = 0 ∧ (0 : Int32).toInt = 0) ∨ (r17_2.toInt = 1 ∧ c_t_thrown_17.toInt = 1 ∧ (0 : Int32).toInt ≠ 0) := h7
        refine ok_eq (fun c8 => ?_) (fun c8 => ?_)
        · refine go_loop _ ta ce p0 (by assumption) (by omega) (by omega) (fun y2_29_61 c_t_cells_29_61 hI9 => ?_)
          obtain ⟨hg1, hg2, hg3⟩ := hI9
          refine ok_o2 (fx_X9_done ac y2_29_61 ) (fun r63 c_t_acts_63 h10 => ?_)
          have h10 : r63 = y2_29_61 ∧ c_t_acts_63 = ac + (1 : Int32) := h10
          obtain ⟨h10_0, h10_1⟩ := h10
          refine ok_s (show ((0 = 0 ∧ c_t_thrown_17.toInt = 0) ∨ (0 = 2 ∧ c_t_thrown_17.toInt = 1)) ∧ (0 = 0 → r17 = r63) ∧ c_t_acts_17 = c_t_acts_63 ∧ c_t_row_cells_14 = c_t_cells_29_61.toInt64 ∧ CT ta c_t_cells_29_61 from ?_)
          first | (exfalso; omega) | (subst_vars; first | (exfalso; omega) | (refine ⟨?_, ?_, ?_, ?_, ?_⟩ <;> (first | assumption | rfl | omega | (intro hx; first | rfl | assumption | (exfalso; omega) | exact Int32.toInt_inj.mp (by omega)) | exact Int32.toInt_inj.mp (by omega) | (rw [uu_a, uu_a]))))
        · exfalso; omega
      · exfalso; omega
  · refine ok_s ?_
    show ok (F_X9_step ta ce ac p0) (fun q => ((xc5 = 0 ∧ q.2.2.2.toInt = 0) ∨ (xc5 = 2 ∧ q.2.2.2.toInt = 1)) ∧ (xc5 = 0 → (0 : Int32) = q.1) ∧ ac = q.2.2.1 ∧ (ce.toInt64) = q.2.1.toInt64 ∧ CT ta q.2.1)
    unfold F_X9_step
    refine ok_lt (fun c11 => ?_) (fun c11 => ?_)
    · refine ok_o2 (sp_X9_isThrown_ (1 : Int32) ) (fun r17_3 c_t_thrown_17_2 h12 => ?_)
      have h12 : (r17_3.toInt = 0 ∧ c_t_thrown_17_2.toInt = 0 ∧ (1 : Int32).toInt = 0) ∨ (r17_3.toInt = 1 ∧ c_t_thrown_17_2.toInt = 1 ∧ (1 : Int32).toInt ≠ 0) := h12
      refine ok_eq (fun c13 => ?_) (fun c13 => ?_)
      · exfalso; omega
      · refine ok_s (show ((xc5 = 0 ∧ c_t_thrown_17_2.toInt = 0) ∨ (xc5 = 2 ∧ c_t_thrown_17_2.toInt = 1)) ∧ (xc5 = 0 → (0 : Int32) = (0 : Int32)) ∧ ac = ac ∧ (ce.toInt64) = ce.toInt64 ∧ CT ta ce from ?_)
        first | (exfalso; omega) | (subst_vars; first | (exfalso; omega) | (refine ⟨?_, ?_, ?_, ?_, ?_⟩ <;> (first | assumption | rfl | omega | (intro hx; first | rfl | assumption | (exfalso; omega) | exact Int32.toInt_inj.mp (by omega)) | exact Int32.toInt_inj.mp (by omega) | (rw [uu_a, uu_a]))))
    · refine ok_le (fun c14 => ?_) (fun c14 => ?_)
      · exfalso; omega
      · refine ok_o2 (sp_X9_isThrown_ (1 : Int32) ) (fun r17_4 c_t_thrown_17_3 h15 => ?_)
        have h15 : (r17_4.toInt = 0 ∧ c_t_thrown_17_3.toInt = 0 ∧ (1 : Int32).toInt = 0) ∨ (r17_4.toInt = 1 ∧ c_t_thrown_17_3.toInt = 1 ∧ (1 : Int32).toInt ≠ 0) := h15
        refine ok_eq (fun c16 => ?_) (fun c16 => ?_)
        · exfalso; omega
        · refine ok_s (show ((xc5 = 0 ∧ c_t_thrown_17_3.toInt = 0) ∨ (xc5 = 2 ∧ c_t_thrown_17_3.toInt = 1)) ∧ (xc5 = 0 → (0 : Int32) = (0 : Int32)) ∧ ac = ac ∧ (ce.toInt64) = ce.toInt64 ∧ CT ta ce from ?_)
          first | (exfalso; omega) | (subst_vars; first | (exfalso; omega) | (refine ⟨?_, ?_, ?_, ?_, ?_⟩ <;> (first | assumption | rfl | omega | (intro hx; first | rfl | assumption | (exfalso; omega) | exact Int32.toInt_inj.mp (by omega)) | exact Int32.toInt_inj.mp (by omega) | (rw [uu_a, uu_a]))))
set_option maxHeartbeats 1000000 in
theorem s7_load (ac : Int32) (rf : Int32) (ce : Int32) (ta : Int64) (p0 : Int32) (hp0 : CT ta ce) : ok (F_X7_load ac rf ta (ce.toInt64) p0) (fun r => ok (F_X9_load ta ce ac rf p0) (fun q => ((r.1 = 0 ∧ q.2.2.2.2.toInt = 0) ∨ (r.1 = 2 ∧ q.2.2.2.2.toInt = 1)) ∧ (r.1 = 0 → r.2.1 = q.1) ∧ r.2.2.1 = q.2.2.1 ∧ r.2.2.2.1 = q.2.2.2.1 ∧ r.2.2.2.2 = q.2.1.toInt64 ∧ CT ta q.2.1)) := by
  have l032 : (0 : Int32).toInt = 0 := by decide
  have l132 : (1 : Int32).toInt = 1 := by decide
  have l25532 : (255 : Int32).toInt = 255 := by decide
  have hct := CT_g hp0
  have hct := CT_g hp0
  unfold F_X7_load
  refine ok_o (sp_X7_testRange p0 (0 : Int32) (255 : Int32) ) (fun xc5 h1 => ?_)
  have h1 : (xc5 = 0 ∧ (0 : Int32).toInt ≤ p0.toInt ∧ p0.toInt ≤ (255 : Int32).toInt) ∨ (xc5 = 2 ∧ (p0.toInt < (0 : Int32).toInt ∨ (255 : Int32).toInt < p0.toInt)) := h1
  refine ok_i (fun c2 => ?_) (fun c2 => ?_)
  · refine ok_o (fx_X0_degreeOf p0.toInt64 ) (fun r10 h3 => ?_)
    have h3 : r10 = DI p0.toInt64 ∧ r10.toInt = DG p0.toInt64 ∧ -1 ≤ r10.toInt ∧ r10.toInt ≤ 63 := h3
    obtain ⟨h3_0, h3_1, h3_2, h3_3⟩ := h3
    refine ok_o (fx_X0_degreeOf ta ) (fun r20 h4 => ?_)
    have h4 : r20 = DI ta ∧ r20.toInt = DG ta ∧ -1 ≤ r20.toInt ∧ r20.toInt ≤ 63 := h4
    obtain ⟨h4_0, h4_1, h4_2, h4_3⟩ := h4
    refine ok_lt (fun c5 => ?_) (fun c5 => ?_)
    · refine ok_o (fx_X0_onesOf ((ce.toInt64) ^^^ p0.toInt64) ) (fun r41 h6 => ?_)
      have h6 : r41 = BC ((ce.toInt64) ^^^ p0.toInt64) := h6
      refine ok_bx (fun c_t_row_cells_51 e_c_t_row_cells_51 => ?_)
      have t_c_t_row_cells_51 : c_t_row_cells_51.toInt = p0.toInt64.toInt := by rw [e_c_t_row_cells_51]
      refine ok_o2 (fx_X7_done ac r41 ) (fun r56 c_t_acts_56 h7 => ?_)
      have h7 : r56 = r41 ∧ c_t_acts_56 = ac + (1 : Int32) := h7
      obtain ⟨h7_0, h7_1⟩ := h7
      refine ok_s ?_
      show ok (F_X9_load ta ce ac rf p0) (fun q => ((0 = 0 ∧ q.2.2.2.2.toInt = 0) ∨ (0 = 2 ∧ q.2.2.2.2.toInt = 1)) ∧ (0 = 0 → r56 = q.1) ∧ c_t_acts_56 = q.2.2.1 ∧ rf = q.2.2.2.1 ∧ c_t_row_cells_51 = q.2.1.toInt64 ∧ CT ta q.2.1)
      unfold F_X9_load
      refine ok_lt (fun c8 => ?_) (fun c8 => ?_)
      · exfalso; omega
      · refine ok_le (fun c9 => ?_) (fun c9 => ?_)
        · refine ok_o2 (sp_X9_isThrown_ (0 : Int32) ) (fun r17 c_t_thrown_17 h10 => ?_)
          have h10 : (r17.toInt = 0 ∧ c_t_thrown_17.toInt = 0 ∧ (0 : Int32).toInt = 0) ∨ (r17.toInt = 1 ∧ c_t_thrown_17.toInt = 1 ∧ (0 : Int32).toInt ≠ 0) := h10
          refine ok_eq (fun c11 => ?_) (fun c11 => ?_)
          · refine ok_o (fx_X9_degreeOf ta ) (fun r30 h12 => ?_)
            have h12 : r30 = DI ta ∧ r30.toInt = DG ta ∧ -1 ≤ r30.toInt ∧ r30.toInt ≤ 63 := h12
            obtain ⟨h12_0, h12_1, h12_2, h12_3⟩ := h12
            have hld := ld_c (p := p0) (d := r30) (t := ta) (by omega) (by omega) (by omega) (by omega) (by omega)
            refine ok_le (fun c13 => ?_) (fun c13 => ?_)
            · have hbx : BC ((ce.toInt64) ^^^ p0.toInt64) = BC ((ce ^^^ p0).toInt64) := by rw [Int32.toInt64_xor]
              have hcl : CT ta p0 := by first | exact CT_load hp0 (by assumption) (by omega) (by omega) (by omega) | (exfalso; omega)
              refine ok_o (fx_X9_onesOf ((ce ^^^ p0).toInt64) ) (fun r49 h14 => ?_)
              have h14 : 0 ≤ r49.toInt ∧ r49.toInt ≤ 127 ∧ r49 = BC ((ce ^^^ p0).toInt64) := h14
              obtain ⟨h14_0, h14_1, h14_2⟩ := h14
              refine ok_o2 (fx_X9_done ac r49 ) (fun r60 c_t_acts_60 h15 => ?_)
              have h15 : r60 = r49 ∧ c_t_acts_60 = ac + (1 : Int32) := h15
              obtain ⟨h15_0, h15_1⟩ := h15
              refine ok_s (show ((0 = 0 ∧ c_t_thrown_17.toInt = 0) ∨ (0 = 2 ∧ c_t_thrown_17.toInt = 1)) ∧ (0 = 0 → r56 = r60) ∧ c_t_acts_56 = c_t_acts_60 ∧ rf = rf ∧ c_t_row_cells_51 = p0.toInt64 ∧ CT ta p0 from ?_)
              first | (exfalso; omega) | (subst_vars; first | (exfalso; omega) | (refine ⟨?_, ?_, ?_, ?_, ?_, ?_⟩ <;> (first | assumption | rfl | omega | (intro hx; first | rfl | assumption | (exfalso; omega) | exact Int32.toInt_inj.mp (by omega)) | exact Int32.toInt_inj.mp (by omega) | (rw [uu_a, uu_a]))))
            · refine ok_o2 (fx_X9_no rf ) (fun r38 c_t_refused_38 h16 => ?_)
              have h16 : r38 = (-9 : Int32) ∧ c_t_refused_38 = rf + (1 : Int32) := h16
              obtain ⟨h16_0, h16_1⟩ := h16
              refine ok_s (show ((0 = 0 ∧ c_t_thrown_17.toInt = 0) ∨ (0 = 2 ∧ c_t_thrown_17.toInt = 1)) ∧ (0 = 0 → r56 = r38) ∧ c_t_acts_56 = ac ∧ rf = c_t_refused_38 ∧ c_t_row_cells_51 = ce.toInt64 ∧ CT ta ce from ?_)
              first | (exfalso; omega) | (subst_vars; first | (exfalso; omega) | (refine ⟨?_, ?_, ?_, ?_, ?_, ?_⟩ <;> (first | assumption | rfl | omega | (intro hx; first | rfl | assumption | (exfalso; omega) | exact Int32.toInt_inj.mp (by omega)) | exact Int32.toInt_inj.mp (by omega) | (rw [uu_a, uu_a]))))
          · exfalso; omega
        · exfalso; omega
    · refine ok_o2 (fx_X7_refuse rf ) (fun r27 c_t_refusals_27 h17 => ?_)
      have h17 : r27 = (-9 : Int32) ∧ c_t_refusals_27 = rf + (1 : Int32) := h17
      obtain ⟨h17_0, h17_1⟩ := h17
      refine ok_s ?_
      show ok (F_X9_load ta ce ac rf p0) (fun q => ((0 = 0 ∧ q.2.2.2.2.toInt = 0) ∨ (0 = 2 ∧ q.2.2.2.2.toInt = 1)) ∧ (0 = 0 → r27 = q.1) ∧ ac = q.2.2.1 ∧ c_t_refusals_27 = q.2.2.2.1 ∧ (ce.toInt64) = q.2.1.toInt64 ∧ CT ta q.2.1)
      unfold F_X9_load
      refine ok_lt (fun c18 => ?_) (fun c18 => ?_)
      · exfalso; omega
      · refine ok_le (fun c19 => ?_) (fun c19 => ?_)
        · refine ok_o2 (sp_X9_isThrown_ (0 : Int32) ) (fun r17_2 c_t_thrown_17_2 h20 => ?_)
          have h20 : (r17_2.toInt = 0 ∧ c_t_thrown_17_2.toInt = 0 ∧ (0 : Int32).toInt = 0) ∨ (r17_2.toInt = 1 ∧ c_t_thrown_17_2.toInt = 1 ∧ (0 : Int32).toInt ≠ 0) := h20
          refine ok_eq (fun c21 => ?_) (fun c21 => ?_)
          · refine ok_o (fx_X9_degreeOf ta ) (fun r30_2 h22 => ?_)
            have h22 : r30_2 = DI ta ∧ r30_2.toInt = DG ta ∧ -1 ≤ r30_2.toInt ∧ r30_2.toInt ≤ 63 := h22
            obtain ⟨h22_0, h22_1, h22_2, h22_3⟩ := h22
            have hld := ld_c (p := p0) (d := r30_2) (t := ta) (by omega) (by omega) (by omega) (by omega) (by omega)
            refine ok_le (fun c23 => ?_) (fun c23 => ?_)
            · have hbx : BC ((ce.toInt64) ^^^ p0.toInt64) = BC ((ce ^^^ p0).toInt64) := by rw [Int32.toInt64_xor]
              have hcl : CT ta p0 := by first | exact CT_load hp0 (by assumption) (by omega) (by omega) (by omega) | (exfalso; omega)
              refine ok_o (fx_X9_onesOf ((ce ^^^ p0).toInt64) ) (fun r49_2 h24 => ?_)
              have h24 : 0 ≤ r49_2.toInt ∧ r49_2.toInt ≤ 127 ∧ r49_2 = BC ((ce ^^^ p0).toInt64) := h24
              obtain ⟨h24_0, h24_1, h24_2⟩ := h24
              refine ok_o2 (fx_X9_done ac r49_2 ) (fun r60_2 c_t_acts_60_2 h25 => ?_)
              have h25 : r60_2 = r49_2 ∧ c_t_acts_60_2 = ac + (1 : Int32) := h25
              obtain ⟨h25_0, h25_1⟩ := h25
              refine ok_s (show ((0 = 0 ∧ c_t_thrown_17_2.toInt = 0) ∨ (0 = 2 ∧ c_t_thrown_17_2.toInt = 1)) ∧ (0 = 0 → r27 = r60_2) ∧ ac = c_t_acts_60_2 ∧ c_t_refusals_27 = rf ∧ (ce.toInt64) = p0.toInt64 ∧ CT ta p0 from ?_)
              first | (exfalso; omega) | (subst_vars; first | (exfalso; omega) | (refine ⟨?_, ?_, ?_, ?_, ?_, ?_⟩ <;> (first | assumption | rfl | omega | (intro hx; first | rfl | assumption | (exfalso; omega) | exact Int32.toInt_inj.mp (by omega)) | exact Int32.toInt_inj.mp (by omega) | (rw [uu_a, uu_a]))))
            · refine ok_o2 (fx_X9_no rf ) (fun r38_2 c_t_refused_38_2 h26 => ?_)
              have h26 : r38_2 = (-9 : Int32) ∧ c_t_refused_38_2 = rf + (1 : Int32) := h26
              obtain ⟨h26_0, h26_1⟩ := h26
              refine ok_s (show ((0 = 0 ∧ c_t_thrown_17_2.toInt = 0) ∨ (0 = 2 ∧ c_t_thrown_17_2.toInt = 1)) ∧ (0 = 0 → r27 = r38_2) ∧ ac = ac ∧ c_t_refusals_27 = c_t_refused_38_2 ∧ (ce.toInt64) = ce.toInt64 ∧ CT ta ce from ?_)
              first | (exfalso; omega) | (subst_vars; first | (exfalso; omega) | (refine ⟨?_, ?_, ?_, ?_, ?_, ?_⟩ <;> (first | assumption | rfl | omega | (intro hx; first | rfl | assumption | (exfalso; omega) | exact Int32.toInt_inj.mp (by omega)) | exact Int32.toInt_inj.mp (by omega) | (rw [uu_a, uu_a]))))
          · exfalso; omega
        · exfalso; omega
  · refine ok_s ?_
    show ok (F_X9_load ta ce ac rf p0) (fun q => ((xc5 = 0 ∧ q.2.2.2.2.toInt = 0) ∨ (xc5 = 2 ∧ q.2.2.2.2.toInt = 1)) ∧ (xc5 = 0 → (0 : Int32) = q.1) ∧ ac = q.2.2.1 ∧ rf = q.2.2.2.1 ∧ (ce.toInt64) = q.2.1.toInt64 ∧ CT ta q.2.1)
    unfold F_X9_load
    refine ok_lt (fun c27 => ?_) (fun c27 => ?_)
    · refine ok_o2 (sp_X9_isThrown_ (1 : Int32) ) (fun r17_3 c_t_thrown_17_3 h28 => ?_)
      have h28 : (r17_3.toInt = 0 ∧ c_t_thrown_17_3.toInt = 0 ∧ (1 : Int32).toInt = 0) ∨ (r17_3.toInt = 1 ∧ c_t_thrown_17_3.toInt = 1 ∧ (1 : Int32).toInt ≠ 0) := h28
      refine ok_eq (fun c29 => ?_) (fun c29 => ?_)
      · exfalso; omega
      · refine ok_s (show ((xc5 = 0 ∧ c_t_thrown_17_3.toInt = 0) ∨ (xc5 = 2 ∧ c_t_thrown_17_3.toInt = 1)) ∧ (xc5 = 0 → (0 : Int32) = (0 : Int32)) ∧ ac = ac ∧ rf = rf ∧ (ce.toInt64) = ce.toInt64 ∧ CT ta ce from ?_)
        first | (exfalso; omega) | (subst_vars; first | (exfalso; omega) | (refine ⟨?_, ?_, ?_, ?_, ?_, ?_⟩ <;> (first | assumption | rfl | omega | (intro hx; first | rfl | assumption | (exfalso; omega) | exact Int32.toInt_inj.mp (by omega)) | exact Int32.toInt_inj.mp (by omega) | (rw [uu_a, uu_a]))))
    · refine ok_le (fun c30 => ?_) (fun c30 => ?_)
      · exfalso; omega
      · refine ok_o2 (sp_X9_isThrown_ (1 : Int32) ) (fun r17_4 c_t_thrown_17_4 h31 => ?_)
        have h31 : (r17_4.toInt = 0 ∧ c_t_thrown_17_4.toInt = 0 ∧ (1 : Int32).toInt = 0) ∨ (r17_4.toInt = 1 ∧ c_t_thrown_17_4.toInt = 1 ∧ (1 : Int32).toInt ≠ 0) := h31
        refine ok_eq (fun c32 => ?_) (fun c32 => ?_)
        · exfalso; omega
        · refine ok_s (show ((xc5 = 0 ∧ c_t_thrown_17_4.toInt = 0) ∨ (xc5 = 2 ∧ c_t_thrown_17_4.toInt = 1)) ∧ (xc5 = 0 → (0 : Int32) = (0 : Int32)) ∧ ac = ac ∧ rf = rf ∧ (ce.toInt64) = ce.toInt64 ∧ CT ta ce from ?_)
          first | (exfalso; omega) | (subst_vars; first | (exfalso; omega) | (refine ⟨?_, ?_, ?_, ?_, ?_, ?_⟩ <;> (first | assumption | rfl | omega | (intro hx; first | rfl | assumption | (exfalso; omega) | exact Int32.toInt_inj.mp (by omega)) | exact Int32.toInt_inj.mp (by omega) | (rw [uu_a, uu_a]))))
