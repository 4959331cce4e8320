set_option maxHeartbeats 1000000 in
theorem s7_order (fo : Nat → Int64) (p0 : Int32) (p1 : Int32) (hp0 : FA fo) : ok (F_X7_order fo p0 p1) (fun r => ok (F_X9_order fo p0 p1) (fun q => ((r.1 = 0 ∧ q.2.toInt = 0) ∨ (r.1 = 1 ∧ q.2.toInt = 1)) ∧ (r.1 = 0 → r.2 = q.1))) := by
  have lm132 : (-1 : Int32).toInt = -1 := by decide
  have l032 : (0 : Int32).toInt = 0 := by decide
  have l132 : (1 : Int32).toInt = 1 := by decide
  unfold F_X7_order
  refine ok_o (fx_X7_testForm p0 ) (fun xc1 h1 => ?_)
  have h1 : (xc1 = 0 ∧ 0 ≤ p0.toInt ∧ p0.toInt ≤ 5) ∨ (xc1 = 1 ∧ (p0.toInt < 0 ∨ 5 < p0.toInt)) := h1
  refine ok_i (fun c2 => ?_) (fun c2 => ?_)
  · refine ok_o (fx_X7_testForm p1 ) (fun xc5 h3 => ?_)
    have h3 : (xc5 = 0 ∧ 0 ≤ p1.toInt ∧ p1.toInt ≤ 5) ∨ (xc5 = 1 ∧ (p1.toInt < 0 ∨ 5 < p1.toInt)) := h3
    refine ok_i (fun c4 => ?_) (fun c4 => ?_)
    · refine ok_c (ixo (by omega) (by omega)) ?_
      refine ok_c (ixo (by omega) (by omega)) ?_
      try have a6 := FA_at (f := fo) (by assumption) p0.toNatClampNeg
      try have a7 := FA_at (f := fo) (by assumption) p1.toNatClampNeg
      refine ok_eqL (fun c5 => ?_) (fun c5 => ?_)
      · refine ok_s ?_
        show ok (F_X9_order fo p0 p1) (fun q => ((0 = 0 ∧ q.2.toInt = 0) ∨ (0 = 1 ∧ q.2.toInt = 1)) ∧ (0 = 0 → (0 : Int32) = q.1))
        unfold F_X9_order
        refine ok_o (sp_X9_isForm p0 ) (fun r2 h8 => ?_)
        have h8 : (r2.toInt = 1 ∧ 0 ≤ p0.toInt ∧ p0.toInt ≤ 5) ∨ (r2.toInt = 0 ∧ (p0.toInt < 0 ∨ 6 ≤ p0.toInt)) := h8
        refine ok_eq (fun c9 => ?_) (fun c9 => ?_)
        · exfalso; omega
        · refine ok_o (sp_X9_isForm p1 ) (fun r9 h10 => ?_)
          have h10 : (r9.toInt = 1 ∧ 0 ≤ p1.toInt ∧ p1.toInt ≤ 5) ∨ (r9.toInt = 0 ∧ (p1.toInt < 0 ∨ 6 ≤ p1.toInt)) := h10
          refine ok_eq (fun c11 => ?_) (fun c11 => ?_)
          · exfalso; omega
          · refine ok_o2 (sp_X9_isThrown_ (0 : Int32) ) (fun r20 c_t_thrown_20 h12 => ?_)
            have h12 : (r20.toInt = 0 ∧ c_t_thrown_20.toInt = 0 ∧ (0 : Int32).toInt = 0) ∨ (r20.toInt = 1 ∧ c_t_thrown_20.toInt = 1 ∧ (0 : Int32).toInt ≠ 0) := h12
            refine ok_eq (fun c13 => ?_) (fun c13 => ?_)
            · refine ok_c (ixo (by omega) (by omega)) ?_
              refine ok_c (ixo (by omega) (by omega)) ?_
              try have a15 := FA_at (f := fo) (by assumption) p1.toNatClampNeg
              try have a16 := FA_at (f := fo) (by assumption) p0.toNatClampNeg
              refine ok_leL (fun c14 => ?_) (fun c14 => ?_)
              · refine ok_c (ixo (by omega) (by omega)) ?_
                refine ok_c (ixo (by omega) (by omega)) ?_
                try have a18 := FA_at (f := fo) (by assumption) p0.toNatClampNeg
                try have a19 := FA_at (f := fo) (by assumption) p1.toNatClampNeg
                refine ok_leL (fun c17 => ?_) (fun c17 => ?_)
                · refine ok_s (show ((0 = 0 ∧ c_t_thrown_20.toInt = 0) ∨ (0 = 1 ∧ c_t_thrown_20.toInt = 1)) ∧ (0 = 0 → (0 : Int32) = (0 : Int32)) from ?_)
                  first | (exfalso; omega) | (subst_vars; first | (exfalso; omega) | (refine ⟨?_, ?_⟩ <;> (first | assumption | rfl | omega | (intro hx; first | rfl | assumption | (exfalso; omega) | exact Int32.toInt_inj.mp (by omega)) | exact Int32.toInt_inj.mp (by omega) | (rw [uu_a, uu_a]))))
                · exfalso; omega
              · exfalso; omega
            · exfalso; omega
      · refine ok_c (ixo (by omega) (by omega)) ?_
        refine ok_c (ixo (by omega) (by omega)) ?_
        try have a21 := FA_at (f := fo) (by assumption) p1.toNatClampNeg
        try have a22 := FA_at (f := fo) (by assumption) p0.toNatClampNeg
        refine ok_leL (fun c20 => ?_) (fun c20 => ?_)
        · refine ok_s ?_
          show ok (F_X9_order fo p0 p1) (fun q => ((0 = 0 ∧ q.2.toInt = 0) ∨ (0 = 1 ∧ q.2.toInt = 1)) ∧ (0 = 0 → (1 : Int32) = q.1))
          unfold F_X9_order
          refine ok_o (sp_X9_isForm p0 ) (fun r2_2 h23 => ?_)
          have h23 : (r2_2.toInt = 1 ∧ 0 ≤ p0.toInt ∧ p0.toInt ≤ 5) ∨ (r2_2.toInt = 0 ∧ (p0.toInt < 0 ∨ 6 ≤ p0.toInt)) := h23
          refine ok_eq (fun c24 => ?_) (fun c24 => ?_)
          · exfalso; omega
          · refine ok_o (sp_X9_isForm p1 ) (fun r9_2 h25 => ?_)
            have h25 : (r9_2.toInt = 1 ∧ 0 ≤ p1.toInt ∧ p1.toInt ≤ 5) ∨ (r9_2.toInt = 0 ∧ (p1.toInt < 0 ∨ 6 ≤ p1.toInt)) := h25
            refine ok_eq (fun c26 => ?_) (fun c26 => ?_)
            · exfalso; omega
            · refine ok_o2 (sp_X9_isThrown_ (0 : Int32) ) (fun r20_2 c_t_thrown_20_2 h27 => ?_)
              have h27 : (r20_2.toInt = 0 ∧ c_t_thrown_20_2.toInt = 0 ∧ (0 : Int32).toInt = 0) ∨ (r20_2.toInt = 1 ∧ c_t_thrown_20_2.toInt = 1 ∧ (0 : Int32).toInt ≠ 0) := h27
              refine ok_eq (fun c28 => ?_) (fun c28 => ?_)
              · refine ok_c (ixo (by omega) (by omega)) ?_
                refine ok_c (ixo (by omega) (by omega)) ?_
                try have a30 := FA_at (f := fo) (by assumption) p1.toNatClampNeg
                try have a31 := FA_at (f := fo) (by assumption) p0.toNatClampNeg
                refine ok_leL (fun c29 => ?_) (fun c29 => ?_)
                · refine ok_c (ixo (by omega) (by omega)) ?_
                  refine ok_c (ixo (by omega) (by omega)) ?_
                  try have a33 := FA_at (f := fo) (by assumption) p0.toNatClampNeg
                  try have a34 := FA_at (f := fo) (by assumption) p1.toNatClampNeg
                  refine ok_leL (fun c32 => ?_) (fun c32 => ?_)
                  · exfalso; omega
                  · refine ok_s (show ((0 = 0 ∧ c_t_thrown_20_2.toInt = 0) ∨ (0 = 1 ∧ c_t_thrown_20_2.toInt = 1)) ∧ (0 = 0 → (1 : Int32) = (1 : Int32)) from ?_)
                    first | (exfalso; omega) | (subst_vars; first | (exfalso; omega) | (refine ⟨?_, ?_⟩ <;> (first | assumption | rfl | omega | (intro hx; first | rfl | assumption | (exfalso; omega) | exact Int32.toInt_inj.mp (by omega)) | exact Int32.toInt_inj.mp (by omega) | (rw [uu_a, uu_a]))))
                · exfalso; omega
              · exfalso; omega
        · refine ok_s ?_
          show ok (F_X9_order fo p0 p1) (fun q => ((0 = 0 ∧ q.2.toInt = 0) ∨ (0 = 1 ∧ q.2.toInt = 1)) ∧ (0 = 0 → (-1 : Int32) = q.1))
          unfold F_X9_order
          refine ok_o (sp_X9_isForm p0 ) (fun r2_3 h35 => ?_)
          have h35 : (r2_3.toInt = 1 ∧ 0 ≤ p0.toInt ∧ p0.toInt ≤ 5) ∨ (r2_3.toInt = 0 ∧ (p0.toInt < 0 ∨ 6 ≤ p0.toInt)) := h35
          refine ok_eq (fun c36 => ?_) (fun c36 => ?_)
          · exfalso; omega
          · refine ok_o (sp_X9_isForm p1 ) (fun r9_3 h37 => ?_)
            have h37 : (r9_3.toInt = 1 ∧ 0 ≤ p1.toInt ∧ p1.toInt ≤ 5) ∨ (r9_3.toInt = 0 ∧ (p1.toInt < 0 ∨ 6 ≤ p1.toInt)) := h37
            refine ok_eq (fun c38 => ?_) (fun c38 => ?_)
            · exfalso; omega
            · refine ok_o2 (sp_X9_isThrown_ (0 : Int32) ) (fun r20_3 c_t_thrown_20_3 h39 => ?_)
              have h39 : (r20_3.toInt = 0 ∧ c_t_thrown_20_3.toInt = 0 ∧ (0 : Int32).toInt = 0) ∨ (r20_3.toInt = 1 ∧ c_t_thrown_20_3.toInt = 1 ∧ (0 : Int32).toInt ≠ 0) := h39
              refine ok_eq (fun c40 => ?_) (fun c40 => ?_)
              · refine ok_c (ixo (by omega) (by omega)) ?_
                refine ok_c (ixo (by omega) (by omega)) ?_
                try have a42 := FA_at (f := fo) (by assumption) p1.toNatClampNeg
                try have a43 := FA_at (f := fo) (by assumption) p0.toNatClampNeg
                refine ok_leL (fun c41 => ?_) (fun c41 => ?_)
                · exfalso; omega
                · refine ok_s (show ((0 = 0 ∧ c_t_thrown_20_3.toInt = 0) ∨ (0 = 1 ∧ c_t_thrown_20_3.toInt = 1)) ∧ (0 = 0 → (-1 : Int32) = (-1 : Int32)) from ?_)
                  first | (exfalso; omega) | (subst_vars; first | (exfalso; omega) | (refine ⟨?_, ?_⟩ <;> (first | assumption | rfl | omega | (intro hx; first | rfl | assumption | (exfalso; omega) | exact Int32.toInt_inj.mp (by omega)) | exact Int32.toInt_inj.mp (by omega) | (rw [uu_a, uu_a]))))
              · exfalso; omega
    · refine ok_s ?_
      show ok (F_X9_order fo p0 p1) (fun q => ((xc5 = 0 ∧ q.2.toInt = 0) ∨ (xc5 = 1 ∧ q.2.toInt = 1)) ∧ (xc5 = 0 → (0 : Int32) = q.1))
      unfold F_X9_order
      refine ok_o (sp_X9_isForm p0 ) (fun r2_4 h44 => ?_)
      have h44 : (r2_4.toInt = 1 ∧ 0 ≤ p0.toInt ∧ p0.toInt ≤ 5) ∨ (r2_4.toInt = 0 ∧ (p0.toInt < 0 ∨ 6 ≤ p0.toInt)) := h44
      refine ok_eq (fun c45 => ?_) (fun c45 => ?_)
      · exfalso; omega
      · refine ok_o (sp_X9_isForm p1 ) (fun r9_4 h46 => ?_)
        have h46 : (r9_4.toInt = 1 ∧ 0 ≤ p1.toInt ∧ p1.toInt ≤ 5) ∨ (r9_4.toInt = 0 ∧ (p1.toInt < 0 ∨ 6 ≤ p1.toInt)) := h46
        refine ok_eq (fun c47 => ?_) (fun c47 => ?_)
        · refine ok_o2 (sp_X9_isThrown_ (1 : Int32) ) (fun r20_4 c_t_thrown_20_4 h48 => ?_)
          have h48 : (r20_4.toInt = 0 ∧ c_t_thrown_20_4.toInt = 0 ∧ (1 : Int32).toInt = 0) ∨ (r20_4.toInt = 1 ∧ c_t_thrown_20_4.toInt = 1 ∧ (1 : Int32).toInt ≠ 0) := h48
          refine ok_eq (fun c49 => ?_) (fun c49 => ?_)
          · exfalso; omega
          · refine ok_s (show ((xc5 = 0 ∧ c_t_thrown_20_4.toInt = 0) ∨ (xc5 = 1 ∧ c_t_thrown_20_4.toInt = 1)) ∧ (xc5 = 0 → (0 : Int32) = (0 : Int32)) from ?_)
            first | (exfalso; omega) | (subst_vars; first | (exfalso; omega) | (refine ⟨?_, ?_⟩ <;> (first | assumption | rfl | omega | (intro hx; first | rfl | assumption | (exfalso; omega) | exact Int32.toInt_inj.mp (by omega)) | exact Int32.toInt_inj.mp (by omega) | (rw [uu_a, uu_a]))))
        · exfalso; omega
  · refine ok_s ?_
    show ok (F_X9_order fo p0 p1) (fun q => ((xc1 = 0 ∧ q.2.toInt = 0) ∨ (xc1 = 1 ∧ q.2.toInt = 1)) ∧ (xc1 = 0 → (0 : Int32) = q.1))
    unfold F_X9_order
    refine ok_o (sp_X9_isForm p0 ) (fun r2_5 h50 => ?_)
    have h50 : (r2_5.toInt = 1 ∧ 0 ≤ p0.toInt ∧ p0.toInt ≤ 5) ∨ (r2_5.toInt = 0 ∧ (p0.toInt < 0 ∨ 6 ≤ p0.toInt)) := h50
    refine ok_eq (fun c51 => ?_) (fun c51 => ?_)
    · refine ok_o2 (sp_X9_isThrown_ (1 : Int32) ) (fun r20_5 c_t_thrown_20_5 h52 => ?_)
      have h52 : (r20_5.toInt = 0 ∧ c_t_thrown_20_5.toInt = 0 ∧ (1 : Int32).toInt = 0) ∨ (r20_5.toInt = 1 ∧ c_t_thrown_20_5.toInt = 1 ∧ (1 : Int32).toInt ≠ 0) := h52
      refine ok_eq (fun c53 => ?_) (fun c53 => ?_)
      · exfalso; omega
      · refine ok_s (show ((xc1 = 0 ∧ c_t_thrown_20_5.toInt = 0) ∨ (xc1 = 1 ∧ c_t_thrown_20_5.toInt = 1)) ∧ (xc1 = 0 → (0 : Int32) = (0 : Int32)) from ?_)
        first | (exfalso; omega) | (subst_vars; first | (exfalso; omega) | (refine ⟨?_, ?_⟩ <;> (first | assumption | rfl | omega | (intro hx; first | rfl | assumption | (exfalso; omega) | exact Int32.toInt_inj.mp (by omega)) | exact Int32.toInt_inj.mp (by omega) | (rw [uu_a, uu_a]))))
    · exfalso; omega
