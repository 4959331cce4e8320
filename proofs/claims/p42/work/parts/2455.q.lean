set_option maxHeartbeats 1000000 in
theorem s7_primes (p0 : Int32) (p1 : Int32)  : ok (F_X7_primes p0 p1) (fun r => ok (F_X9_primes p0 p1) (fun q => ((r.1 = 0 ∧ q.2.toInt = 0) ∨ (r.1 = 2 ∧ q.2.toInt = 1)) ∧ (r.1 = 0 → r.2 = q.1))) := by
  have l032 : (0 : Int32).toInt = 0 := by decide
  have l132 : (1 : Int32).toInt = 1 := by decide
  have l632 : (6 : Int32).toInt = 6 := by decide
  have l1032 : (10 : Int32).toInt = 10 := by decide
  unfold F_X7_primes
  refine ok_o (sp_X7_testRange p1 (0 : Int32) (1 : Int32) ) (fun xc3 h1 => ?_)
  have h1 : (xc3 = 0 ∧ (0 : Int32).toInt ≤ p1.toInt ∧ p1.toInt ≤ (1 : Int32).toInt) ∨ (xc3 = 2 ∧ (p1.toInt < (0 : Int32).toInt ∨ (1 : Int32).toInt < p1.toInt)) := h1
  refine ok_i (fun c2 => ?_) (fun c2 => ?_)
  · refine ok_eq (fun c3 => ?_) (fun c3 => ?_)
    · refine ok_o (sp_X7_testRange p0 (1 : Int32) (10 : Int32) ) (fun xc19 h4 => ?_)
      have h4 : (xc19 = 0 ∧ (1 : Int32).toInt ≤ p0.toInt ∧ p0.toInt ≤ (10 : Int32).toInt) ∨ (xc19 = 2 ∧ (p0.toInt < (1 : Int32).toInt ∨ (10 : Int32).toInt < p0.toInt)) := h4
      refine ok_i (fun c5 => ?_) (fun c5 => ?_)
      · refine ok_eq (fun c6 => ?_) (fun c6 => ?_)
        · refine ok_o (fx_X2_howManyBySum p0 (by first | omega | assumption | trivial | exact wt_of (by assumption) (by omega)) (by first | omega | assumption | trivial | exact wt_of (by assumption) (by omega))) (fun r27 h7 => ?_)
          have h7 : r27 = PRC p0 := h7
          refine ok_s ?_
          show ok (F_X9_primes p0 p1) (fun q => ((0 = 0 ∧ q.2.toInt = 0) ∨ (0 = 2 ∧ q.2.toInt = 1)) ∧ (0 = 0 → r27 = q.1))
          unfold F_X9_primes
          refine ok_lt (fun c8 => ?_) (fun c8 => ?_)
          · exfalso; omega
          · refine ok_lt (fun c9 => ?_) (fun c9 => ?_)
            · exfalso; omega
            · refine ok_lt (fun c10 => ?_) (fun c10 => ?_)
              · exfalso; omega
              · refine ok_eq (fun c11 => ?_) (fun c11 => ?_)
                · refine ok_le (fun c12 => ?_) (fun c12 => ?_)
                  · refine ok_o2 (sp_X9_isThrown_ (0 : Int32) ) (fun r35 c_t_thrown_35 h13 => ?_)
                    have h13 : (r35.toInt = 0 ∧ c_t_thrown_35.toInt = 0 ∧ (0 : Int32).toInt = 0) ∨ (r35.toInt = 1 ∧ c_t_thrown_35.toInt = 1 ∧ (0 : Int32).toInt ≠ 0) := h13
                    refine ok_eq (fun c14 => ?_) (fun c14 => ?_)
                    · refine ok_o (fx_X9_primesOf p0 (by first | omega | assumption | trivial | exact wt_of (by assumption) (by omega)) (by first | omega | assumption | trivial | exact wt_of (by assumption) (by omega))) (fun r46 h15 => ?_)
                      have h15 : r46 = PRC p0 := h15
                      refine ok_s (show ((0 = 0 ∧ c_t_thrown_35.toInt = 0) ∨ (0 = 2 ∧ c_t_thrown_35.toInt = 1)) ∧ (0 = 0 → r27 = r46) from ?_)
                      first | (exfalso; omega) | (subst_vars; first | (exfalso; omega) | (refine ⟨?_, ?_⟩ <;> (first | assumption | rfl | omega | (intro hx; first | rfl | assumption | (exfalso; omega) | exact Int32.toInt_inj.mp (by omega)) | exact Int32.toInt_inj.mp (by omega) | (rw [uu_a, uu_a]))))
                    · exfalso; omega
                  · exfalso; omega
                · exfalso; omega
        · exfalso; omega
      · refine ok_s ?_
        show ok (F_X9_primes p0 p1) (fun q => ((xc19 = 0 ∧ q.2.toInt = 0) ∨ (xc19 = 2 ∧ q.2.toInt = 1)) ∧ (xc19 = 0 → (0 : Int32) = q.1))
        unfold F_X9_primes
        refine ok_lt (fun c16 => ?_) (fun c16 => ?_)
        · exfalso; omega
        · refine ok_lt (fun c17 => ?_) (fun c17 => ?_)
          · exfalso; omega
          · refine ok_lt (fun c18 => ?_) (fun c18 => ?_)
            · refine ok_o2 (sp_X9_isThrown_ (1 : Int32) ) (fun r35_2 c_t_thrown_35_2 h19 => ?_)
              have h19 : (r35_2.toInt = 0 ∧ c_t_thrown_35_2.toInt = 0 ∧ (1 : Int32).toInt = 0) ∨ (r35_2.toInt = 1 ∧ c_t_thrown_35_2.toInt = 1 ∧ (1 : Int32).toInt ≠ 0) := h19
              refine ok_eq (fun c20 => ?_) (fun c20 => ?_)
              · exfalso; omega
              · refine ok_s (show ((xc19 = 0 ∧ c_t_thrown_35_2.toInt = 0) ∨ (xc19 = 2 ∧ c_t_thrown_35_2.toInt = 1)) ∧ (xc19 = 0 → (0 : Int32) = (0 : Int32)) from ?_)
                first | (exfalso; omega) | (subst_vars; first | (exfalso; omega) | (refine ⟨?_, ?_⟩ <;> (first | assumption | rfl | omega | (intro hx; first | rfl | assumption | (exfalso; omega) | exact Int32.toInt_inj.mp (by omega)) | exact Int32.toInt_inj.mp (by omega) | (rw [uu_a, uu_a]))))
            · refine ok_eq (fun c21 => ?_) (fun c21 => ?_)
              · refine ok_le (fun c22 => ?_) (fun c22 => ?_)
                · exfalso; omega
                · refine ok_o2 (sp_X9_isThrown_ (1 : Int32) ) (fun r35_3 c_t_thrown_35_3 h23 => ?_)
                  have h23 : (r35_3.toInt = 0 ∧ c_t_thrown_35_3.toInt = 0 ∧ (1 : Int32).toInt = 0) ∨ (r35_3.toInt = 1 ∧ c_t_thrown_35_3.toInt = 1 ∧ (1 : Int32).toInt ≠ 0) := h23
                  refine ok_eq (fun c24 => ?_) (fun c24 => ?_)
                  · exfalso; omega
                  · refine ok_s (show ((xc19 = 0 ∧ c_t_thrown_35_3.toInt = 0) ∨ (xc19 = 2 ∧ c_t_thrown_35_3.toInt = 1)) ∧ (xc19 = 0 → (0 : Int32) = (0 : Int32)) from ?_)
                    first | (exfalso; omega) | (subst_vars; first | (exfalso; omega) | (refine ⟨?_, ?_⟩ <;> (first | assumption | rfl | omega | (intro hx; first | rfl | assumption | (exfalso; omega) | exact Int32.toInt_inj.mp (by omega)) | exact Int32.toInt_inj.mp (by omega) | (rw [uu_a, uu_a]))))
              · exfalso; omega
    · refine ok_o (sp_X7_testRange p0 (1 : Int32) (6 : Int32) ) (fun xc19_2 h25 => ?_)
      have h25 : (xc19_2 = 0 ∧ (1 : Int32).toInt ≤ p0.toInt ∧ p0.toInt ≤ (6 : Int32).toInt) ∨ (xc19_2 = 2 ∧ (p0.toInt < (1 : Int32).toInt ∨ (6 : Int32).toInt < p0.toInt)) := h25
      refine ok_i (fun c26 => ?_) (fun c26 => ?_)
      · refine ok_eq (fun c27 => ?_) (fun c27 => ?_)
        · exfalso; omega
        · refine ok_o (fx_X2_howManyByCounting p0 (by first | omega | assumption | trivial | exact wt_of (by assumption) (by omega)) (by first | omega | assumption | trivial | exact wt_of (by assumption) (by omega))) (fun r34 h28 => ?_)
          have h28 : r34 = PRC p0 := h28
          refine ok_s ?_
          show ok (F_X9_primes p0 p1) (fun q => ((0 = 0 ∧ q.2.toInt = 0) ∨ (0 = 2 ∧ q.2.toInt = 1)) ∧ (0 = 0 → r34 = q.1))
          unfold F_X9_primes
          refine ok_lt (fun c29 => ?_) (fun c29 => ?_)
          · exfalso; omega
          · refine ok_lt (fun c30 => ?_) (fun c30 => ?_)
            · exfalso; omega
            · refine ok_lt (fun c31 => ?_) (fun c31 => ?_)
              · exfalso; omega
              · refine ok_eq (fun c32 => ?_) (fun c32 => ?_)
                · exfalso; omega
                · refine ok_le (fun c33 => ?_) (fun c33 => ?_)
                  · refine ok_o2 (sp_X9_isThrown_ (0 : Int32) ) (fun r35_4 c_t_thrown_35_4 h34 => ?_)
                    have h34 : (r35_4.toInt = 0 ∧ c_t_thrown_35_4.toInt = 0 ∧ (0 : Int32).toInt = 0) ∨ (r35_4.toInt = 1 ∧ c_t_thrown_35_4.toInt = 1 ∧ (0 : Int32).toInt ≠ 0) := h34
                    refine ok_eq (fun c35 => ?_) (fun c35 => ?_)
                    · refine ok_o (fx_X9_primesOf p0 (by first | omega | assumption | trivial | exact wt_of (by assumption) (by omega)) (by first | omega | assumption | trivial | exact wt_of (by assumption) (by omega))) (fun r46_2 h36 => ?_)
                      have h36 : r46_2 = PRC p0 := h36
                      refine ok_s (show ((0 = 0 ∧ c_t_thrown_35_4.toInt = 0) ∨ (0 = 2 ∧ c_t_thrown_35_4.toInt = 1)) ∧ (0 = 0 → r34 = r46_2) from ?_)
                      first | (exfalso; omega) | (subst_vars; first | (exfalso; omega) | (refine ⟨?_, ?_⟩ <;> (first | assumption | rfl | omega | (intro hx; first | rfl | assumption | (exfalso; omega) | exact Int32.toInt_inj.mp (by omega)) | exact Int32.toInt_inj.mp (by omega) | (rw [uu_a, uu_a]))))
                    · exfalso; omega
                  · exfalso; omega
      · refine ok_s ?_
        show ok (F_X9_primes p0 p1) (fun q => ((xc19_2 = 0 ∧ q.2.toInt = 0) ∨ (xc19_2 = 2 ∧ q.2.toInt = 1)) ∧ (xc19_2 = 0 → (0 : Int32) = q.1))
        unfold F_X9_primes
        refine ok_lt (fun c37 => ?_) (fun c37 => ?_)
        · exfalso; omega
        · refine ok_lt (fun c38 => ?_) (fun c38 => ?_)
          · exfalso; omega
          · refine ok_lt (fun c39 => ?_) (fun c39 => ?_)
            · refine ok_o2 (sp_X9_isThrown_ (1 : Int32) ) (fun r35_5 c_t_thrown_35_5 h40 => ?_)
              have h40 : (r35_5.toInt = 0 ∧ c_t_thrown_35_5.toInt = 0 ∧ (1 : Int32).toInt = 0) ∨ (r35_5.toInt = 1 ∧ c_t_thrown_35_5.toInt = 1 ∧ (1 : Int32).toInt ≠ 0) := h40
              refine ok_eq (fun c41 => ?_) (fun c41 => ?_)
              · exfalso; omega
              · refine ok_s (show ((xc19_2 = 0 ∧ c_t_thrown_35_5.toInt = 0) ∨ (xc19_2 = 2 ∧ c_t_thrown_35_5.toInt = 1)) ∧ (xc19_2 = 0 → (0 : Int32) = (0 : Int32)) from ?_)
                first | (exfalso; omega) | (subst_vars; first | (exfalso; omega) | (refine ⟨?_, ?_⟩ <;> (first | assumption | rfl | omega | (intro hx; first | rfl | assumption | (exfalso; omega) | exact Int32.toInt_inj.mp (by omega)) | exact Int32.toInt_inj.mp (by omega) | (rw [uu_a, uu_a]))))
            · refine ok_eq (fun c42 => ?_) (fun c42 => ?_)
              · exfalso; omega
              · refine ok_le (fun c43 => ?_) (fun c43 => ?_)
                · exfalso; omega
                · refine ok_o2 (sp_X9_isThrown_ (1 : Int32) ) (fun r35_6 c_t_thrown_35_6 h44 => ?_)
                  have h44 : (r35_6.toInt = 0 ∧ c_t_thrown_35_6.toInt = 0 ∧ (1 : Int32).toInt = 0) ∨ (r35_6.toInt = 1 ∧ c_t_thrown_35_6.toInt = 1 ∧ (1 : Int32).toInt ≠ 0) := h44
                  refine ok_eq (fun c45 => ?_) (fun c45 => ?_)
                  · exfalso; omega
                  · refine ok_s (show ((xc19_2 = 0 ∧ c_t_thrown_35_6.toInt = 0) ∨ (xc19_2 = 2 ∧ c_t_thrown_35_6.toInt = 1)) ∧ (xc19_2 = 0 → (0 : Int32) = (0 : Int32)) from ?_)
                    first | (exfalso; omega) | (subst_vars; first | (exfalso; omega) | (refine ⟨?_, ?_⟩ <;> (first | assumption | rfl | omega | (intro hx; first | rfl | assumption | (exfalso; omega) | exact Int32.toInt_inj.mp (by omega)) | exact Int32.toInt_inj.mp (by omega) | (rw [uu_a, uu_a]))))
  · refine ok_s ?_
    show ok (F_X9_primes p0 p1) (fun q => ((xc3 = 0 ∧ q.2.toInt = 0) ∨ (xc3 = 2 ∧ q.2.toInt = 1)) ∧ (xc3 = 0 → (0 : Int32) = q.1))
    unfold F_X9_primes
    refine ok_lt (fun c46 => ?_) (fun c46 => ?_)
    · refine ok_o2 (sp_X9_isThrown_ (1 : Int32) ) (fun r35_7 c_t_thrown_35_7 h47 => ?_)
      have h47 : (r35_7.toInt = 0 ∧ c_t_thrown_35_7.toInt = 0 ∧ (1 : Int32).toInt = 0) ∨ (r35_7.toInt = 1 ∧ c_t_thrown_35_7.toInt = 1 ∧ (1 : Int32).toInt ≠ 0) := h47
      refine ok_eq (fun c48 => ?_) (fun c48 => ?_)
      · exfalso; omega
      · refine ok_s (show ((xc3 = 0 ∧ c_t_thrown_35_7.toInt = 0) ∨ (xc3 = 2 ∧ c_t_thrown_35_7.toInt = 1)) ∧ (xc3 = 0 → (0 : Int32) = (0 : Int32)) from ?_)
        first | (exfalso; omega) | (subst_vars; first | (exfalso; omega) | (refine ⟨?_, ?_⟩ <;> (first | assumption | rfl | omega | (intro hx; first | rfl | assumption | (exfalso; omega) | exact Int32.toInt_inj.mp (by omega)) | exact Int32.toInt_inj.mp (by omega) | (rw [uu_a, uu_a]))))
    · refine ok_lt (fun c49 => ?_) (fun c49 => ?_)
      · refine ok_o2 (sp_X9_isThrown_ (1 : Int32) ) (fun r35_8 c_t_thrown_35_8 h50 => ?_)
        have h50 : (r35_8.toInt = 0 ∧ c_t_thrown_35_8.toInt = 0 ∧ (1 : Int32).toInt = 0) ∨ (r35_8.toInt = 1 ∧ c_t_thrown_35_8.toInt = 1 ∧ (1 : Int32).toInt ≠ 0) := h50
        refine ok_eq (fun c51 => ?_) (fun c51 => ?_)
        · exfalso; omega
        · refine ok_s (show ((xc3 = 0 ∧ c_t_thrown_35_8.toInt = 0) ∨ (xc3 = 2 ∧ c_t_thrown_35_8.toInt = 1)) ∧ (xc3 = 0 → (0 : Int32) = (0 : Int32)) from ?_)
          first | (exfalso; omega) | (subst_vars; first | (exfalso; omega) | (refine ⟨?_, ?_⟩ <;> (first | assumption | rfl | omega | (intro hx; first | rfl | assumption | (exfalso; omega) | exact Int32.toInt_inj.mp (by omega)) | exact Int32.toInt_inj.mp (by omega) | (rw [uu_a, uu_a]))))
      · exfalso; omega
