set_option maxHeartbeats 1000000 in
theorem s7_check (fo : Nat → Int64) (th : Int32) (p0 : Int32) (p1 : Int32) (hp0 : FA fo) : ok (F_X7_check fo p0 p1) (fun r => ok (F_X9_check th fo p0 p1) (fun q => ((r.1 = 0 ∧ q.2.toInt = 0) ∨ (r.1 = 1 ∧ q.2.toInt = 1)) ∧ (r.1 = 0 → r.2 = q.1))) := by
  have lm932 : (-9 : Int32).toInt = -9 := by decide
  have l032 : (0 : Int32).toInt = 0 := by decide
  have l132 : (1 : Int32).toInt = 1 := by decide
  have l3132 : (31 : Int32).toInt = 31 := by decide
  unfold F_X7_check
  refine ok_o (fx_X7_testForm p0 ) (fun xc1 h1 => ?_)
  have h1 : (xc1 = 0 ∧ 0 ≤ p0.toInt ∧ p0.toInt ≤ 5) ∨ (xc1 = 1 ∧ (p0.toInt < 0 ∨ 5 < p0.toInt)) := h1
  refine ok_i (fun c2 => ?_) (fun c2 => ?_)
  · refine ok_o (fx_X7_testForm p1 ) (fun xc5 h3 => ?_)
    have h3 : (xc5 = 0 ∧ 0 ≤ p1.toInt ∧ p1.toInt ≤ 5) ∨ (xc5 = 1 ∧ (p1.toInt < 0 ∨ 5 < p1.toInt)) := h3
    refine ok_i (fun c4 => ?_) (fun c4 => ?_)
    · refine ok_c (ixo (by omega) (by omega)) ?_
      try have a5 := FA_at (f := fo) (by assumption) p1.toNatClampNeg
      refine ok_o (fx_X0_degreeOf (fo p1.toNatClampNeg) ) (fun r14 h6 => ?_)
      have h6 : r14 = DI (fo p1.toNatClampNeg) ∧ r14.toInt = DG (fo p1.toNatClampNeg) ∧ -1 ≤ r14.toInt ∧ r14.toInt ≤ 63 := h6
      obtain ⟨h6_0, h6_1, h6_2, h6_3⟩ := h6
      refine ok_o (sp_X7_isBetween r14 (1 : Int32) (31 : Int32) ) (fun r20 h7 => ?_)
      have h7 : (r20.toInt = 0 ∧ (r14.toInt < (1 : Int32).toInt ∨ (31 : Int32).toInt < r14.toInt)) ∨ (r20.toInt = 1 ∧ (1 : Int32).toInt ≤ r14.toInt ∧ r14.toInt ≤ (31 : Int32).toInt) := h7
      refine ok_eq (fun c8 => ?_) (fun c8 => ?_)
      · refine ok_s ?_
        show ok (F_X9_check th fo p0 p1) (fun q => ((0 = 0 ∧ q.2.toInt = 0) ∨ (0 = 1 ∧ q.2.toInt = 1)) ∧ (0 = 0 → (-9 : Int32) = q.1))
        unfold F_X9_check
        refine ok_o (sp_X9_isForm p0 ) (fun r2 h9 => ?_)
        have h9 : (r2.toInt = 1 ∧ 0 ≤ p0.toInt ∧ p0.toInt ≤ 5) ∨ (r2.toInt = 0 ∧ (p0.toInt < 0 ∨ 6 ≤ p0.toInt)) := h9
        refine ok_eq (fun c10 => ?_) (fun c10 => ?_)
        · exfalso; omega
        · refine ok_o (sp_X9_isForm p1 ) (fun r9 h11 => ?_)
          have h11 : (r9.toInt = 1 ∧ 0 ≤ p1.toInt ∧ p1.toInt ≤ 5) ∨ (r9.toInt = 0 ∧ (p1.toInt < 0 ∨ 6 ≤ p1.toInt)) := h11
          refine ok_eq (fun c12 => ?_) (fun c12 => ?_)
          · exfalso; omega
          · first | unfold J_X9_check_20 | skip
            refine ok_o2 (sp_X9_isThrown_ (0 : Int32) ) (fun r20_2 c_t_thrown_20 h13 => ?_)
            have h13 : (r20_2.toInt = 0 ∧ c_t_thrown_20.toInt = 0 ∧ (0 : Int32).toInt = 0) ∨ (r20_2.toInt = 1 ∧ c_t_thrown_20.toInt = 1 ∧ (0 : Int32).toInt ≠ 0) := h13
            refine ok_eq (fun c14 => ?_) (fun c14 => ?_)
            · refine ok_c (ixo (by omega) (by omega)) ?_
              refine ok_c (ixo (by omega) (by omega)) ?_
              try have a15 := FA_at (f := fo) (by assumption) p0.toNatClampNeg
              try have a16 := FA_at (f := fo) (by assumption) p1.toNatClampNeg
              refine ok_o (fx_X9_isNoSeal (fo p0.toNatClampNeg) (fo p1.toNatClampNeg) (31 : Int32) (by first | omega | assumption | trivial | exact wt_of (by assumption) (by omega)) (by first | omega | assumption | trivial | exact wt_of (by assumption) (by omega))) (fun r42 h17 => ?_)
              have h17 : (r42.toInt = 0 ∧ 1 ≤ DG (fo p1.toNatClampNeg) ∧ DG (fo p1.toNatClampNeg) ≤ (31 : Int32).toInt ∧ DG (fo p0.toNatClampNeg) + DG (fo p1.toNatClampNeg) ≤ 39) ∨ (r42.toInt = 1 ∧ (DG (fo p1.toNatClampNeg) < 1 ∨ (31 : Int32).toInt < DG (fo p1.toNatClampNeg) ∨ 40 ≤ DG (fo p0.toNatClampNeg) + DG (fo p1.toNatClampNeg))) := h17
              refine ok_eq (fun c18 => ?_) (fun c18 => ?_)
              · exfalso; omega
              · refine ok_s (show ((0 = 0 ∧ c_t_thrown_20.toInt = 0) ∨ (0 = 1 ∧ c_t_thrown_20.toInt = 1)) ∧ (0 = 0 → (-9 : Int32) = (-9 : Int32)) from ?_)
                first | (exfalso; omega) | (subst_vars; first | (exfalso; omega) | (refine ⟨?_, ?_⟩ <;> (first | assumption | rfl | omega | (intro hx; first | rfl | assumption | (exfalso; omega) | exact Int32.toInt_inj.mp (by omega)) | exact Int32.toInt_inj.mp (by omega) | (rw [uu_a, uu_a]))))
            · exfalso; omega
      · refine ok_o (fx_X7_canBeSealed fo p0 p1 (by first | omega | assumption | trivial | exact wt_of (by assumption) (by omega)) (by first | omega | assumption | trivial | exact wt_of (by assumption) (by omega)) (by first | omega | assumption | trivial | exact wt_of (by assumption) (by omega)) (by first | omega | assumption | trivial | exact wt_of (by assumption) (by omega)) (by first | omega | assumption | trivial | exact wt_of (by assumption) (by omega))) (fun r29 h19 => ?_)
        have h19 : (r29.toInt = 1 ∧ DG (fo p0.toNatClampNeg) + DG (fo p1.toNatClampNeg) ≤ 39) ∨ (r29.toInt = 0 ∧ 40 ≤ DG (fo p0.toNatClampNeg) + DG (fo p1.toNatClampNeg)) := h19
        refine ok_eq (fun c20 => ?_) (fun c20 => ?_)
        · refine ok_s ?_
          show ok (F_X9_check th fo p0 p1) (fun q => ((0 = 0 ∧ q.2.toInt = 0) ∨ (0 = 1 ∧ q.2.toInt = 1)) ∧ (0 = 0 → (-9 : Int32) = q.1))
          unfold F_X9_check
          refine ok_o (sp_X9_isForm p0 ) (fun r2_2 h21 => ?_)
          have h21 : (r2_2.toInt = 1 ∧ 0 ≤ p0.toInt ∧ p0.toInt ≤ 5) ∨ (r2_2.toInt = 0 ∧ (p0.toInt < 0 ∨ 6 ≤ p0.toInt)) := h21
          refine ok_eq (fun c22 => ?_) (fun c22 => ?_)
          · exfalso; omega
          · refine ok_o (sp_X9_isForm p1 ) (fun r9_2 h23 => ?_)
            have h23 : (r9_2.toInt = 1 ∧ 0 ≤ p1.toInt ∧ p1.toInt ≤ 5) ∨ (r9_2.toInt = 0 ∧ (p1.toInt < 0 ∨ 6 ≤ p1.toInt)) := h23
            refine ok_eq (fun c24 => ?_) (fun c24 => ?_)
            · exfalso; omega
            · first | unfold J_X9_check_20 | skip
              refine ok_o2 (sp_X9_isThrown_ (0 : Int32) ) (fun r20_3 c_t_thrown_20_2 h25 => ?_)
              have h25 : (r20_3.toInt = 0 ∧ c_t_thrown_20_2.toInt = 0 ∧ (0 : Int32).toInt = 0) ∨ (r20_3.toInt = 1 ∧ c_t_thrown_20_2.toInt = 1 ∧ (0 : Int32).toInt ≠ 0) := h25
              refine ok_eq (fun c26 => ?_) (fun c26 => ?_)
              · refine ok_c (ixo (by omega) (by omega)) ?_
                refine ok_c (ixo (by omega) (by omega)) ?_
                try have a27 := FA_at (f := fo) (by assumption) p0.toNatClampNeg
                try have a28 := FA_at (f := fo) (by assumption) p1.toNatClampNeg
                refine ok_o (fx_X9_isNoSeal (fo p0.toNatClampNeg) (fo p1.toNatClampNeg) (31 : Int32) (by first | omega | assumption | trivial | exact wt_of (by assumption) (by omega)) (by first | omega | assumption | trivial | exact wt_of (by assumption) (by omega))) (fun r42_2 h29 => ?_)
                have h29 : (r42_2.toInt = 0 ∧ 1 ≤ DG (fo p1.toNatClampNeg) ∧ DG (fo p1.toNatClampNeg) ≤ (31 : Int32).toInt ∧ DG (fo p0.toNatClampNeg) + DG (fo p1.toNatClampNeg) ≤ 39) ∨ (r42_2.toInt = 1 ∧ (DG (fo p1.toNatClampNeg) < 1 ∨ (31 : Int32).toInt < DG (fo p1.toNatClampNeg) ∨ 40 ≤ DG (fo p0.toNatClampNeg) + DG (fo p1.toNatClampNeg))) := h29
                refine ok_eq (fun c30 => ?_) (fun c30 => ?_)
                · exfalso; omega
                · refine ok_s (show ((0 = 0 ∧ c_t_thrown_20_2.toInt = 0) ∨ (0 = 1 ∧ c_t_thrown_20_2.toInt = 1)) ∧ (0 = 0 → (-9 : Int32) = (-9 : Int32)) from ?_)
                  first | (exfalso; omega) | (subst_vars; first | (exfalso; omega) | (refine ⟨?_, ?_⟩ <;> (first | assumption | rfl | omega | (intro hx; first | rfl | assumption | (exfalso; omega) | exact Int32.toInt_inj.mp (by omega)) | exact Int32.toInt_inj.mp (by omega) | (rw [uu_a, uu_a]))))
              · exfalso; omega
        · refine ok_c (ixo (by omega) (by omega)) ?_
          refine ok_c (ixo (by omega) (by omega)) ?_
          try have a31 := FA_at (f := fo) (by assumption) p0.toNatClampNeg
          try have a32 := FA_at (f := fo) (by assumption) p1.toNatClampNeg
          refine ok_o (fx_X0_checkOf (fo p0.toNatClampNeg) (fo p1.toNatClampNeg) (by first | omega | assumption | trivial | exact wt_of (by assumption) (by omega)) (by first | omega | assumption | trivial | exact wt_of (by assumption) (by omega)) (by first | omega | assumption | trivial | exact wt_of (by assumption) (by omega))) (fun r50 h33 => ?_)
          have h33 : r50 = kL (fo p0.toNatClampNeg) (fo p1.toNatClampNeg) := h33
          refine ok_s ?_
          show ok (F_X9_check th fo p0 p1) (fun q => ((0 = 0 ∧ q.2.toInt = 0) ∨ (0 = 1 ∧ q.2.toInt = 1)) ∧ (0 = 0 → r50.toInt32 = q.1))
          unfold F_X9_check
          refine ok_o (sp_X9_isForm p0 ) (fun r2_3 h34 => ?_)
          have h34 : (r2_3.toInt = 1 ∧ 0 ≤ p0.toInt ∧ p0.toInt ≤ 5) ∨ (r2_3.toInt = 0 ∧ (p0.toInt < 0 ∨ 6 ≤ p0.toInt)) := h34
          refine ok_eq (fun c35 => ?_) (fun c35 => ?_)
          · exfalso; omega
          · refine ok_o (sp_X9_isForm p1 ) (fun r9_3 h36 => ?_)
            have h36 : (r9_3.toInt = 1 ∧ 0 ≤ p1.toInt ∧ p1.toInt ≤ 5) ∨ (r9_3.toInt = 0 ∧ (p1.toInt < 0 ∨ 6 ≤ p1.toInt)) := h36
            refine ok_eq (fun c37 => ?_) (fun c37 => ?_)
            · exfalso; omega
            · first | unfold J_X9_check_20 | skip
              refine ok_o2 (sp_X9_isThrown_ (0 : Int32) ) (fun r20_4 c_t_thrown_20_3 h38 => ?_)
              have h38 : (r20_4.toInt = 0 ∧ c_t_thrown_20_3.toInt = 0 ∧ (0 : Int32).toInt = 0) ∨ (r20_4.toInt = 1 ∧ c_t_thrown_20_3.toInt = 1 ∧ (0 : Int32).toInt ≠ 0) := h38
              refine ok_eq (fun c39 => ?_) (fun c39 => ?_)
              · refine ok_c (ixo (by omega) (by omega)) ?_
                refine ok_c (ixo (by omega) (by omega)) ?_
                try have a40 := FA_at (f := fo) (by assumption) p0.toNatClampNeg
                try have a41 := FA_at (f := fo) (by assumption) p1.toNatClampNeg
                refine ok_o (fx_X9_isNoSeal (fo p0.toNatClampNeg) (fo p1.toNatClampNeg) (31 : Int32) (by first | omega | assumption | trivial | exact wt_of (by assumption) (by omega)) (by first | omega | assumption | trivial | exact wt_of (by assumption) (by omega))) (fun r42_3 h42 => ?_)
                have h42 : (r42_3.toInt = 0 ∧ 1 ≤ DG (fo p1.toNatClampNeg) ∧ DG (fo p1.toNatClampNeg) ≤ (31 : Int32).toInt ∧ DG (fo p0.toNatClampNeg) + DG (fo p1.toNatClampNeg) ≤ 39) ∨ (r42_3.toInt = 1 ∧ (DG (fo p1.toNatClampNeg) < 1 ∨ (31 : Int32).toInt < DG (fo p1.toNatClampNeg) ∨ 40 ≤ DG (fo p0.toNatClampNeg) + DG (fo p1.toNatClampNeg))) := h42
                refine ok_eq (fun c43 => ?_) (fun c43 => ?_)
                · refine ok_c (ixo (by omega) (by omega)) ?_
                  refine ok_c (ixo (by omega) (by omega)) ?_
                  try have a44 := FA_at (f := fo) (by assumption) p0.toNatClampNeg
                  try have a45 := FA_at (f := fo) (by assumption) p1.toNatClampNeg
                  refine ok_o (fx_X9_checkOf (fo p0.toNatClampNeg) (fo p1.toNatClampNeg) (by first | omega | assumption | trivial | exact wt_of (by assumption) (by omega)) (by first | omega | assumption | trivial | exact wt_of (by assumption) (by omega)) (by first | omega | assumption | trivial | exact wt_of (by assumption) (by omega))) (fun r65 h46 => ?_)
                  have h46 : DG r65 ≤ 39 ∧ -1 ≤ DG r65 ∧ DG r65 < DG (fo p1.toNatClampNeg) ∧ r65 = kL (fo p0.toNatClampNeg) (fo p1.toNatClampNeg) := h46
                  obtain ⟨h46_0, h46_1, h46_2, h46_3⟩ := h46
                  refine ok_s (show ((0 = 0 ∧ c_t_thrown_20_3.toInt = 0) ∨ (0 = 1 ∧ c_t_thrown_20_3.toInt = 1)) ∧ (0 = 0 → r50.toInt32 = r65.toInt32) from ?_)
                  first | (exfalso; omega) | (subst_vars; first | (exfalso; omega) | (refine ⟨?_, ?_⟩ <;> (first | assumption | rfl | omega | (intro hx; first | rfl | assumption | (exfalso; omega) | exact Int32.toInt_inj.mp (by omega)) | exact Int32.toInt_inj.mp (by omega) | (rw [uu_a, uu_a]))))
                · exfalso; omega
              · exfalso; omega
    · refine ok_s ?_
      show ok (F_X9_check th fo p0 p1) (fun q => ((xc5 = 0 ∧ q.2.toInt = 0) ∨ (xc5 = 1 ∧ q.2.toInt = 1)) ∧ (xc5 = 0 → (0 : Int32) = q.1))
      unfold F_X9_check
      refine ok_o (sp_X9_isForm p0 ) (fun r2_4 h47 => ?_)
      have h47 : (r2_4.toInt = 1 ∧ 0 ≤ p0.toInt ∧ p0.toInt ≤ 5) ∨ (r2_4.toInt = 0 ∧ (p0.toInt < 0 ∨ 6 ≤ p0.toInt)) := h47
      refine ok_eq (fun c48 => ?_) (fun c48 => ?_)
      · exfalso; omega
      · refine ok_o (sp_X9_isForm p1 ) (fun r9_4 h49 => ?_)
        have h49 : (r9_4.toInt = 1 ∧ 0 ≤ p1.toInt ∧ p1.toInt ≤ 5) ∨ (r9_4.toInt = 0 ∧ (p1.toInt < 0 ∨ 6 ≤ p1.toInt)) := h49
        refine ok_eq (fun c50 => ?_) (fun c50 => ?_)
        · first | unfold J_X9_check_15 | skip
          first | unfold J_X9_check_20 | skip
          refine ok_o2 (sp_X9_isThrown_ (1 : Int32) ) (fun r20_5 c_t_thrown_20_4 h51 => ?_)
          have h51 : (r20_5.toInt = 0 ∧ c_t_thrown_20_4.toInt = 0 ∧ (1 : Int32).toInt = 0) ∨ (r20_5.toInt = 1 ∧ c_t_thrown_20_4.toInt = 1 ∧ (1 : Int32).toInt ≠ 0) := h51
          refine ok_eq (fun c52 => ?_) (fun c52 => ?_)
          · exfalso; omega
          · refine ok_s (show ((xc5 = 0 ∧ c_t_thrown_20_4.toInt = 0) ∨ (xc5 = 1 ∧ c_t_thrown_20_4.toInt = 1)) ∧ (xc5 = 0 → (0 : Int32) = (0 : Int32)) from ?_)
            first | (exfalso; omega) | (subst_vars; first | (exfalso; omega) | (refine ⟨?_, ?_⟩ <;> (first | assumption | rfl | omega | (intro hx; first | rfl | assumption | (exfalso; omega) | exact Int32.toInt_inj.mp (by omega)) | exact Int32.toInt_inj.mp (by omega) | (rw [uu_a, uu_a]))))
        · exfalso; omega
  · refine ok_s ?_
    show ok (F_X9_check th fo p0 p1) (fun q => ((xc1 = 0 ∧ q.2.toInt = 0) ∨ (xc1 = 1 ∧ q.2.toInt = 1)) ∧ (xc1 = 0 → (0 : Int32) = q.1))
    unfold F_X9_check
    refine ok_o (sp_X9_isForm p0 ) (fun r2_5 h53 => ?_)
    have h53 : (r2_5.toInt = 1 ∧ 0 ≤ p0.toInt ∧ p0.toInt ≤ 5) ∨ (r2_5.toInt = 0 ∧ (p0.toInt < 0 ∨ 6 ≤ p0.toInt)) := h53
    refine ok_eq (fun c54 => ?_) (fun c54 => ?_)
    · first | unfold J_X9_check_15 | skip
      first | unfold J_X9_check_20 | skip
      refine ok_o2 (sp_X9_isThrown_ (1 : Int32) ) (fun r20_6 c_t_thrown_20_5 h55 => ?_)
      have h55 : (r20_6.toInt = 0 ∧ c_t_thrown_20_5.toInt = 0 ∧ (1 : Int32).toInt = 0) ∨ (r20_6.toInt = 1 ∧ c_t_thrown_20_5.toInt = 1 ∧ (1 : Int32).toInt ≠ 0) := h55
      refine ok_eq (fun c56 => ?_) (fun c56 => ?_)
      · exfalso; omega
      · refine ok_s (show ((xc1 = 0 ∧ c_t_thrown_20_5.toInt = 0) ∨ (xc1 = 1 ∧ c_t_thrown_20_5.toInt = 1)) ∧ (xc1 = 0 → (0 : Int32) = (0 : Int32)) from ?_)
        first | (exfalso; omega) | (subst_vars; first | (exfalso; omega) | (refine ⟨?_, ?_⟩ <;> (first | assumption | rfl | omega | (intro hx; first | rfl | assumption | (exfalso; omega) | exact Int32.toInt_inj.mp (by omega)) | exact Int32.toInt_inj.mp (by omega) | (rw [uu_a, uu_a]))))
    · exfalso; omega
