set_option maxHeartbeats 1000000 in
theorem s7_primes (p0 : Int32) (p1 : Int32)  : ok (F_X7_primes p0 p1) (fun r => ok (F_X9_primes p0 p1) (fun q => ((r.1 = 0 ∧ q.2.toInt = 0) ∨ (r.1 = 2 ∧ q.2.toInt = 1)) ∧ (r.1 = 0 → r.2 = q.1))) := by
  have l032 : (0 : Int32).toInt = 0 := by decide
  have l132 : (1 : Int32).toInt = 1 := by decide
  have l632 : (6 : Int32).toInt = 6 := by decide
  have l1032 : (10 : Int32).toInt = 10 := by decide
  unfold F_X7_primes
  refine ok_o (sp_X7_testRange p1 (0 : Int32) (1 : Int32) ) (fun xc3 h1 => ?_)
  have h1 : (xc3 = 0 ∧ (0 : Int32).toInt ≤ p1.toInt ∧ p1.toInt ≤ (1 : Int32).toInt) ∨ (xc3 = 2 ∧ (p1.toInt < (0 : Int32).toInt ∨ (1 : Int32).toInt < p1.toInt)) := h1
  refine ok_i (fun c2 => ?_) (fun c2 => ?_)
  · refine ok_eq (fun c3 => ?_) (fun c3 => ?_)
    · refine ok_o (sp_X7_testRange p0 (1 : Int32) (10 : Int32) ) (fun xc19 h4 => ?_)
      have h4 : (xc19 = 0 ∧ (1 : Int32).toInt ≤ p0.toInt ∧ p0.toInt ≤ (10 : Int32).toInt) ∨ (xc19 = 2 ∧ (p0.toInt < (1 : Int32).toInt ∨ (10 : Int32).toInt < p0.toInt)) := h4
      refine ok_i (fun c5 => ?_) (fun c5 => ?_)
      · refine ok_eq (fun c6 => ?_) (fun c6 => ?_)
        · refine ok_o (fx_X2_howManyBySum p0 (by first | omega | assumption | trivial | exact wt_of (by assumption) (by omega)) (by first | omega | assumption | trivial | exact wt_of (by assumption) (by omega))) (fun r27 h7 => ?_)
          have h7 : r27 = PRC p0 := h7
          refine ok_s ?_
          show ok (F_X9_primes p0 p1) (fun q => ((0 = 0 ∧ q.2.toInt = 0) ∨ (0 = 2 ∧ q.2.toInt = 1)) ∧ (0 = 0 → r27 = q.1))
          unfold F_X9_primes
          refine ok_lt (fun c8 => ?_) (fun c8 => ?_)
          · refine ok_o2 (sp_X9_isThrown_ (1 : Int32) ) (fun r35 c_t_thrown_35 h9 => ?_)
            have h9 : (r35.toInt = 0 ∧ c_t_thrown_35.toInt = 0 ∧ (1 : Int32).toInt = 0) ∨ (r35.toInt = 1 ∧ c_t_thrown_35.toInt = 1 ∧ (1 : Int32).toInt ≠ 0) := h9
            refine ok_eq (fun c10 => ?_) (fun c10 => ?_)
            · refine ok_o (fx_X9_primesOf p0 (by first | omega | assumption | trivial | exact wt_of (by assumption) (by omega)) (by first | omega | assumption | trivial | exact wt_of (by assumption) (by omega))) (fun r46 h11 => ?_)
              have h11 : r46 = PRC p0 := h11
              refine ok_s (show ((0 = 0 ∧ c_t_thrown_35.toInt = 0) ∨ (0 = 2 ∧ c_t_thrown_35.toInt = 1)) ∧ (0 = 0 → r27 = r46) from ?_)
              first | (exfalso; omega) | (refine ⟨?_, ?_⟩ <;> first | assumption | omega | rfl | (intro hx; first | (exfalso; omega) | rfl | assumption | exact Int32.toInt_inj.mp (by omega) | (subst_vars; first | rfl | exact Int32.toInt_inj.mp (by omega))) | exact Int32.toInt_inj.mp (by omega) | (subst_vars; first | rfl | assumption | omega | exact Int32.toInt_inj.mp (by omega)))
            · refine ok_s (show ((0 = 0 ∧ c_t_thrown_35.toInt = 0) ∨ (0 = 2 ∧ c_t_thrown_35.toInt = 1)) ∧ (0 = 0 → r27 = (0 : Int32)) from ?_)
              first | (exfalso; omega) | (refine ⟨?_, ?_⟩ <;> first | assumption | omega | rfl | (intro hx; first | (exfalso; omega) | rfl | assumption | exact Int32.toInt_inj.mp (by omega) | (subst_vars; first | rfl | exact Int32.toInt_inj.mp (by omega))) | exact Int32.toInt_inj.mp (by omega) | (subst_vars; first | rfl | assumption | omega | exact Int32.toInt_inj.mp (by omega)))
          · refine ok_lt (fun c12 => ?_) (fun c12 => ?_)
            · refine ok_o2 (sp_X9_isThrown_ (1 : Int32) ) (fun r35_2 c_t_thrown_35_2 h13 => ?_)
              have h13 : (r35_2.toInt = 0 ∧ c_t_thrown_35_2.toInt = 0 ∧ (1 : Int32).toInt = 0) ∨ (r35_2.toInt = 1 ∧ c_t_thrown_35_2.toInt = 1 ∧ (1 : Int32).toInt ≠ 0) := h13
              refine ok_eq (fun c14 => ?_) (fun c14 => ?_)
              · refine ok_o (fx_X9_primesOf p0 (by first | omega | assumption | trivial | exact wt_of (by assumption) (by omega)) (by first | omega | assumption | trivial | exact wt_of (by assumption) (by omega))) (fun r46_2 h15 => ?_)
                have h15 : r46_2 = PRC p0 := h15
                refine ok_s (show ((0 = 0 ∧ c_t_thrown_35_2.toInt = 0) ∨ (0 = 2 ∧ c_t_thrown_35_2.toInt = 1)) ∧ (0 = 0 → r27 = r46_2) from ?_)
                first | (exfalso; omega) | (refine ⟨?_, ?_⟩ <;> first | assumption | omega | rfl | (intro hx; first | (exfalso; omega) | rfl | assumption | exact Int32.toInt_inj.mp (by omega) | (subst_vars; first | rfl | exact Int32.toInt_inj.mp (by omega))) | exact Int32.toInt_inj.mp (by omega) | (subst_vars; first | rfl | assumption | omega | exact Int32.toInt_inj.mp (by omega)))
              · refine ok_s (show ((0 = 0 ∧ c_t_thrown_35_2.toInt = 0) ∨ (0 = 2 ∧ c_t_thrown_35_2.toInt = 1)) ∧ (0 = 0 → r27 = (0 : Int32)) from ?_)
                first | (exfalso; omega) | (refine ⟨?_, ?_⟩ <;> first | assumption | omega | rfl | (intro hx; first | (exfalso; omega) | rfl | assumption | exact Int32.toInt_inj.mp (by omega) | (subst_vars; first | rfl | exact Int32.toInt_inj.mp (by omega))) | exact Int32.toInt_inj.mp (by omega) | (subst_vars; first | rfl | assumption | omega | exact Int32.toInt_inj.mp (by omega)))
            · refine ok_lt (fun c16 => ?_) (fun c16 => ?_)
              · refine ok_o2 (sp_X9_isThrown_ (1 : Int32) ) (fun r35_3 c_t_thrown_35_3 h17 => ?_)
                have h17 : (r35_3.toInt = 0 ∧ c_t_thrown_35_3.toInt = 0 ∧ (1 : Int32).toInt = 0) ∨ (r35_3.toInt = 1 ∧ c_t_thrown_35_3.toInt = 1 ∧ (1 : Int32).toInt ≠ 0) := h17
                refine ok_eq (fun c18 => ?_) (fun c18 => ?_)
                · refine ok_o (fx_X9_primesOf p0 (by first | omega | assumption | trivial | exact wt_of (by assumption) (by omega)) (by first | omega | assumption | trivial | exact wt_of (by assumption) (by omega))) (fun r46_3 h19 => ?_)
                  have h19 : r46_3 = PRC p0 := h19
                  refine ok_s (show ((0 = 0 ∧ c_t_thrown_35_3.toInt = 0) ∨ (0 = 2 ∧ c_t_thrown_35_3.toInt = 1)) ∧ (0 = 0 → r27 = r46_3) from ?_)
                  first | (exfalso; omega) | (refine ⟨?_, ?_⟩ <;> first | assumption | omega | rfl | (intro hx; first | (exfalso; omega) | rfl | assumption | exact Int32.toInt_inj.mp (by omega) | (subst_vars; first | rfl | exact Int32.toInt_inj.mp (by omega))) | exact Int32.toInt_inj.mp (by omega) | (subst_vars; first | rfl | assumption | omega | exact Int32.toInt_inj.mp (by omega)))
                · refine ok_s (show ((0 = 0 ∧ c_t_thrown_35_3.toInt = 0) ∨ (0 = 2 ∧ c_t_thrown_35_3.toInt = 1)) ∧ (0 = 0 → r27 = (0 : Int32)) from ?_)
                  first | (exfalso; omega) | (refine ⟨?_, ?_⟩ <;> first | assumption | omega | rfl | (intro hx; first | (exfalso; omega) | rfl | assumption | exact Int32.toInt_inj.mp (by omega) | (subst_vars; first | rfl | exact Int32.toInt_inj.mp (by omega))) | exact Int32.toInt_inj.mp (by omega) | (subst_vars; first | rfl | assumption | omega | exact Int32.toInt_inj.mp (by omega)))
              · refine ok_eq (fun c20 => ?_) (fun c20 => ?_)
                · refine ok_le (fun c21 => ?_) (fun c21 => ?_)
                  · refine ok_o2 (sp_X9_isThrown_ (0 : Int32) ) (fun r35_4 c_t_thrown_35_4 h22 => ?_)
                    have h22 : (r35_4.toInt = 0 ∧ c_t_thrown_35_4.toInt = 0 ∧ (0 : Int32).toInt = 0) ∨ (r35_4.toInt = 1 ∧ c_t_thrown_35_4.toInt = 1 ∧ (0 : Int32).toInt ≠ 0) := h22
                    refine ok_eq (fun c23 => ?_) (fun c23 => ?_)
                    · refine ok_o (fx_X9_primesOf p0 (by first | omega | assumption | trivial | exact wt_of (by assumption) (by omega)) (by first | omega | assumption | trivial | exact wt_of (by assumption) (by omega))) (fun r46_4 h24 => ?_)
                      have h24 : r46_4 = PRC p0 := h24
                      refine ok_s (show ((0 = 0 ∧ c_t_thrown_35_4.toInt = 0) ∨ (0 = 2 ∧ c_t_thrown_35_4.toInt = 1)) ∧ (0 = 0 → r27 = r46_4) from ?_)
                      first | (exfalso; omega) | (refine ⟨?_, ?_⟩ <;> first | assumption | omega | rfl | (intro hx; first | (exfalso; omega) | rfl | assumption | exact Int32.toInt_inj.mp (by omega) | (subst_vars; first | rfl | exact Int32.toInt_inj.mp (by omega))) | exact Int32.toInt_inj.mp (by omega) | (subst_vars; first | rfl | assumption | omega | exact Int32.toInt_inj.mp (by omega)))
                    · refine ok_s (show ((0 = 0 ∧ c_t_thrown_35_4.toInt = 0) ∨ (0 = 2 ∧ c_t_thrown_35_4.toInt = 1)) ∧ (0 = 0 → r27 = (0 : Int32)) from ?_)
                      first | (exfalso; omega) | (refine ⟨?_, ?_⟩ <;> first | assumption | omega | rfl | (intro hx; first | (exfalso; omega) | rfl | assumption | exact Int32.toInt_inj.mp (by omega) | (subst_vars; first | rfl | exact Int32.toInt_inj.mp (by omega))) | exact Int32.toInt_inj.mp (by omega) | (subst_vars; first | rfl | assumption | omega | exact Int32.toInt_inj.mp (by omega)))
                  · refine ok_o2 (sp_X9_isThrown_ (1 : Int32) ) (fun r35_5 c_t_thrown_35_5 h25 => ?_)
                    have h25 : (r35_5.toInt = 0 ∧ c_t_thrown_35_5.toInt = 0 ∧ (1 : Int32).toInt = 0) ∨ (r35_5.toInt = 1 ∧ c_t_thrown_35_5.toInt = 1 ∧ (1 : Int32).toInt ≠ 0) := h25
                    refine ok_eq (fun c26 => ?_) (fun c26 => ?_)
                    · refine ok_o (fx_X9_primesOf p0 (by first | omega | assumption | trivial | exact wt_of (by assumption) (by omega)) (by first | omega | assumption | trivial | exact wt_of (by assumption) (by omega))) (fun r46_5 h27 => ?_)
                      have h27 : r46_5 = PRC p0 := h27
                      refine ok_s (show ((0 = 0 ∧ c_t_thrown_35_5.toInt = 0) ∨ (0 = 2 ∧ c_t_thrown_35_5.toInt = 1)) ∧ (0 = 0 → r27 = r46_5) from ?_)
                      first | (exfalso; omega) | (refine ⟨?_, ?_⟩ <;> first | assumption | omega | rfl | (intro hx; first | (exfalso; omega) | rfl | assumption | exact Int32.toInt_inj.mp (by omega) | (subst_vars; first | rfl | exact Int32.toInt_inj.mp (by omega))) | exact Int32.toInt_inj.mp (by omega) | (subst_vars; first | rfl | assumption | omega | exact Int32.toInt_inj.mp (by omega)))
                    · refine ok_s (show ((0 = 0 ∧ c_t_thrown_35_5.toInt = 0) ∨ (0 = 2 ∧ c_t_thrown_35_5.toInt = 1)) ∧ (0 = 0 → r27 = (0 : Int32)) from ?_)
                      first | (exfalso; omega) | (refine ⟨?_, ?_⟩ <;> first | assumption | omega | rfl | (intro hx; first | (exfalso; omega) | rfl | assumption | exact Int32.toInt_inj.mp (by omega) | (subst_vars; first | rfl | exact Int32.toInt_inj.mp (by omega))) | exact Int32.toInt_inj.mp (by omega) | (subst_vars; first | rfl | assumption | omega | exact Int32.toInt_inj.mp (by omega)))
                · refine ok_le (fun c28 => ?_) (fun c28 => ?_)
                  · refine ok_o2 (sp_X9_isThrown_ (0 : Int32) ) (fun r35_6 c_t_thrown_35_6 h29 => ?_)
                    have h29 : (r35_6.toInt = 0 ∧ c_t_thrown_35_6.toInt = 0 ∧ (0 : Int32).toInt = 0) ∨ (r35_6.toInt = 1 ∧ c_t_thrown_35_6.toInt = 1 ∧ (0 : Int32).toInt ≠ 0) := h29
                    refine ok_eq (fun c30 => ?_) (fun c30 => ?_)
                    · refine ok_o (fx_X9_primesOf p0 (by first | omega | assumption | trivial | exact wt_of (by assumption) (by omega)) (by first | omega | assumption | trivial | exact wt_of (by assumption) (by omega))) (fun r46_6 h31 => ?_)
                      have h31 : r46_6 = PRC p0 := h31
                      refine ok_s (show ((0 = 0 ∧ c_t_thrown_35_6.toInt = 0) ∨ (0 = 2 ∧ c_t_thrown_35_6.toInt = 1)) ∧ (0 = 0 → r27 = r46_6) from ?_)
                      first | (exfalso; omega) | (refine ⟨?_, ?_⟩ <;> first | assumption | omega | rfl | (intro hx; first | (exfalso; omega) | rfl | assumption | exact Int32.toInt_inj.mp (by omega) | (subst_vars; first | rfl | exact Int32.toInt_inj.mp (by omega))) | exact Int32.toInt_inj.mp (by omega) | (subst_vars; first | rfl | assumption | omega | exact Int32.toInt_inj.mp (by omega)))
                    · refine ok_s (show ((0 = 0 ∧ c_t_thrown_35_6.toInt = 0) ∨ (0 = 2 ∧ c_t_thrown_35_6.toInt = 1)) ∧ (0 = 0 → r27 = (0 : Int32)) from ?_)
                      first | (exfalso; omega) | (refine ⟨?_, ?_⟩ <;> first | assumption | omega | rfl | (intro hx; first | (exfalso; omega) | rfl | assumption | exact Int32.toInt_inj.mp (by omega) | (subst_vars; first | rfl | exact Int32.toInt_inj.mp (by omega))) | exact Int32.toInt_inj.mp (by omega) | (subst_vars; first | rfl | assumption | omega | exact Int32.toInt_inj.mp (by omega)))
                  · refine ok_o2 (sp_X9_isThrown_ (1 : Int32) ) (fun r35_7 c_t_thrown_35_7 h32 => ?_)
                    have h32 : (r35_7.toInt = 0 ∧ c_t_thrown_35_7.toInt = 0 ∧ (1 : Int32).toInt = 0) ∨ (r35_7.toInt = 1 ∧ c_t_thrown_35_7.toInt = 1 ∧ (1 : Int32).toInt ≠ 0) := h32
                    refine ok_eq (fun c33 => ?_) (fun c33 => ?_)
                    · refine ok_o (fx_X9_primesOf p0 (by first | omega | assumption | trivial | exact wt_of (by assumption) (by omega)) (by first | omega | assumption | trivial | exact wt_of (by assumption) (by omega))) (fun r46_7 h34 => ?_)
                      have h34 : r46_7 = PRC p0 := h34
                      refine ok_s (show ((0 = 0 ∧ c_t_thrown_35_7.toInt = 0) ∨ (0 = 2 ∧ c_t_thrown_35_7.toInt = 1)) ∧ (0 = 0 → r27 = r46_7) from ?_)
                      first | (exfalso; omega) | (refine ⟨?_, ?_⟩ <;> first | assumption | omega | rfl | (intro hx; first | (exfalso; omega) | rfl | assumption | exact Int32.toInt_inj.mp (by omega) | (subst_vars; first | rfl | exact Int32.toInt_inj.mp (by omega))) | exact Int32.toInt_inj.mp (by omega) | (subst_vars; first | rfl | assumption | omega | exact Int32.toInt_inj.mp (by omega)))
                    · refine ok_s (show ((0 = 0 ∧ c_t_thrown_35_7.toInt = 0) ∨ (0 = 2 ∧ c_t_thrown_35_7.toInt = 1)) ∧ (0 = 0 → r27 = (0 : Int32)) from ?_)
                      first | (exfalso; omega) | (refine ⟨?_, ?_⟩ <;> first | assumption | omega | rfl | (intro hx; first | (exfalso; omega) | rfl | assumption | exact Int32.toInt_inj.mp (by omega) | (subst_vars; first | rfl | exact Int32.toInt_inj.mp (by omega))) | exact Int32.toInt_inj.mp (by omega) | (subst_vars; first | rfl | assumption | omega | exact Int32.toInt_inj.mp (by omega)))
        · refine ok_o (fx_X2_howManyByCounting p0 (by first | omega | assumption | trivial | exact wt_of (by assumption) (by omega)) (by first | omega | assumption | trivial | exact wt_of (by assumption) (by omega))) (fun r34 h35 => ?_)
          have h35 : r34 = PRC p0 := h35
          refine ok_s ?_
          show ok (F_X9_primes p0 p1) (fun q => ((0 = 0 ∧ q.2.toInt = 0) ∨ (0 = 2 ∧ q.2.toInt = 1)) ∧ (0 = 0 → r34 = q.1))
          unfold F_X9_primes
          refine ok_lt (fun c36 => ?_) (fun c36 => ?_)
          · refine ok_o2 (sp_X9_isThrown_ (1 : Int32) ) (fun r35_8 c_t_thrown_35_8 h37 => ?_)
            have h37 : (r35_8.toInt = 0 ∧ c_t_thrown_35_8.toInt = 0 ∧ (1 : Int32).toInt = 0) ∨ (r35_8.toInt = 1 ∧ c_t_thrown_35_8.toInt = 1 ∧ (1 : Int32).toInt ≠ 0) := h37
            refine ok_eq (fun c38 => ?_) (fun c38 => ?_)
            · refine ok_o (fx_X9_primesOf p0 (by first | omega | assumption | trivial | exact wt_of (by assumption) (by omega)) (by first | omega | assumption | trivial | exact wt_of (by assumption) (by omega))) (fun r46_8 h39 => ?_)
              have h39 : r46_8 = PRC p0 := h39
              refine ok_s (show ((0 = 0 ∧ c_t_thrown_35_8.toInt = 0) ∨ (0 = 2 ∧ c_t_thrown_35_8.toInt = 1)) ∧ (0 = 0 → r34 = r46_8) from ?_)
              first | (exfalso; omega) | (refine ⟨?_, ?_⟩ <;> first | assumption | omega | rfl | (intro hx; first | (exfalso; omega) | rfl | assumption | exact Int32.toInt_inj.mp (by omega) | (subst_vars; first | rfl | exact Int32.toInt_inj.mp (by omega))) | exact Int32.toInt_inj.mp (by omega) | (subst_vars; first | rfl | assumption | omega | exact Int32.toInt_inj.mp (by omega)))
            · refine ok_s (show ((0 = 0 ∧ c_t_thrown_35_8.toInt = 0) ∨ (0 = 2 ∧ c_t_thrown_35_8.toInt = 1)) ∧ (0 = 0 → r34 = (0 : Int32)) from ?_)
              first | (exfalso; omega) | (refine ⟨?_, ?_⟩ <;> first | assumption | omega | rfl | (intro hx; first | (exfalso; omega) | rfl | assumption | exact Int32.toInt_inj.mp (by omega) | (subst_vars; first | rfl | exact Int32.toInt_inj.mp (by omega))) | exact Int32.toInt_inj.mp (by omega) | (subst_vars; first | rfl | assumption | omega | exact Int32.toInt_inj.mp (by omega)))
          · refine ok_lt (fun c40 => ?_) (fun c40 => ?_)
            · refine ok_o2 (sp_X9_isThrown_ (1 : Int32) ) (fun r35_9 c_t_thrown_35_9 h41 => ?_)
              have h41 : (r35_9.toInt = 0 ∧ c_t_thrown_35_9.toInt = 0 ∧ (1 : Int32).toInt = 0) ∨ (r35_9.toInt = 1 ∧ c_t_thrown_35_9.toInt = 1 ∧ (1 : Int32).toInt ≠ 0) := h41
              refine ok_eq (fun c42 => ?_) (fun c42 => ?_)
              · refine ok_o (fx_X9_primesOf p0 (by first | omega | assumption | trivial | exact wt_of (by assumption) (by omega)) (by first | omega | assumption | trivial | exact wt_of (by assumption) (by omega))) (fun r46_9 h43 => ?_)
                have h43 : r46_9 = PRC p0 := h43
                refine ok_s (show ((0 = 0 ∧ c_t_thrown_35_9.toInt = 0) ∨ (0 = 2 ∧ c_t_thrown_35_9.toInt = 1)) ∧ (0 = 0 → r34 = r46_9) from ?_)
                first | (exfalso; omega) | (refine ⟨?_, ?_⟩ <;> first | assumption | omega | rfl | (intro hx; first | (exfalso; omega) | rfl | assumption | exact Int32.toInt_inj.mp (by omega) | (subst_vars; first | rfl | exact Int32.toInt_inj.mp (by omega))) | exact Int32.toInt_inj.mp (by omega) | (subst_vars; first | rfl | assumption | omega | exact Int32.toInt_inj.mp (by omega)))
              · refine ok_s (show ((0 = 0 ∧ c_t_thrown_35_9.toInt = 0) ∨ (0 = 2 ∧ c_t_thrown_35_9.toInt = 1)) ∧ (0 = 0 → r34 = (0 : Int32)) from ?_)
                first | (exfalso; omega) | (refine ⟨?_, ?_⟩ <;> first | assumption | omega | rfl | (intro hx; first | (exfalso; omega) | rfl | assumption | exact Int32.toInt_inj.mp (by omega) | (subst_vars; first | rfl | exact Int32.toInt_inj.mp (by omega))) | exact Int32.toInt_inj.mp (by omega) | (subst_vars; first | rfl | assumption | omega | exact Int32.toInt_inj.mp (by omega)))
            · refine ok_lt (fun c44 => ?_) (fun c44 => ?_)
              · refine ok_o2 (sp_X9_isThrown_ (1 : Int32) ) (fun r35_10 c_t_thrown_35_10 h45 => ?_)
                have h45 : (r35_10.toInt = 0 ∧ c_t_thrown_35_10.toInt = 0 ∧ (1 : Int32).toInt = 0) ∨ (r35_10.toInt = 1 ∧ c_t_thrown_35_10.toInt = 1 ∧ (1 : Int32).toInt ≠ 0) := h45
                refine ok_eq (fun c46 => ?_) (fun c46 => ?_)
                · refine ok_o (fx_X9_primesOf p0 (by first | omega | assumption | trivial | exact wt_of (by assumption) (by omega)) (by first | omega | assumption | trivial | exact wt_of (by assumption) (by omega))) (fun r46_10 h47 => ?_)
                  have h47 : r46_10 = PRC p0 := h47
                  refine ok_s (show ((0 = 0 ∧ c_t_thrown_35_10.toInt = 0) ∨ (0 = 2 ∧ c_t_thrown_35_10.toInt = 1)) ∧ (0 = 0 → r34 = r46_10) from ?_)
                  first | (exfalso; omega) | (refine ⟨?_, ?_⟩ <;> first | assumption | omega | rfl | (intro hx; first | (exfalso; omega) | rfl | assumption | exact Int32.toInt_inj.mp (by omega) | (subst_vars; first | rfl | exact Int32.toInt_inj.mp (by omega))) | exact Int32.toInt_inj.mp (by omega) | (subst_vars; first | rfl | assumption | omega | exact Int32.toInt_inj.mp (by omega)))
                · refine ok_s (show ((0 = 0 ∧ c_t_thrown_35_10.toInt = 0) ∨ (0 = 2 ∧ c_t_thrown_35_10.toInt = 1)) ∧ (0 = 0 → r34 = (0 : Int32)) from ?_)
                  first | (exfalso; omega) | (refine ⟨?_, ?_⟩ <;> first | assumption | omega | rfl | (intro hx; first | (exfalso; omega) | rfl | assumption | exact Int32.toInt_inj.mp (by omega) | (subst_vars; first | rfl | exact Int32.toInt_inj.mp (by omega))) | exact Int32.toInt_inj.mp (by omega) | (subst_vars; first | rfl | assumption | omega | exact Int32.toInt_inj.mp (by omega)))
              · refine ok_eq (fun c48 => ?_) (fun c48 => ?_)
                · refine ok_le (fun c49 => ?_) (fun c49 => ?_)
                  · refine ok_o2 (sp_X9_isThrown_ (0 : Int32) ) (fun r35_11 c_t_thrown_35_11 h50 => ?_)
                    have h50 : (r35_11.toInt = 0 ∧ c_t_thrown_35_11.toInt = 0 ∧ (0 : Int32).toInt = 0) ∨ (r35_11.toInt = 1 ∧ c_t_thrown_35_11.toInt = 1 ∧ (0 : Int32).toInt ≠ 0) := h50
                    refine ok_eq (fun c51 => ?_) (fun c51 => ?_)
                    · refine ok_o (fx_X9_primesOf p0 (by first | omega | assumption | trivial | exact wt_of (by assumption) (by omega)) (by first | omega | assumption | trivial | exact wt_of (by assumption) (by omega))) (fun r46_11 h52 => ?_)
                      have h52 : r46_11 = PRC p0 := h52
                      refine ok_s (show ((0 = 0 ∧ c_t_thrown_35_11.toInt = 0) ∨ (0 = 2 ∧ c_t_thrown_35_11.toInt = 1)) ∧ (0 = 0 → r34 = r46_11) from ?_)
                      first | (exfalso; omega) | (refine ⟨?_, ?_⟩ <;> first | assumption | omega | rfl | (intro hx; first | (exfalso; omega) | rfl | assumption | exact Int32.toInt_inj.mp (by omega) | (subst_vars; first | rfl | exact Int32.toInt_inj.mp (by omega))) | exact Int32.toInt_inj.mp (by omega) | (subst_vars; first | rfl | assumption | omega | exact Int32.toInt_inj.mp (by omega)))
                    · refine ok_s (show ((0 = 0 ∧ c_t_thrown_35_11.toInt = 0) ∨ (0 = 2 ∧ c_t_thrown_35_11.toInt = 1)) ∧ (0 = 0 → r34 = (0 : Int32)) from ?_)
                      first | (exfalso; omega) | (refine ⟨?_, ?_⟩ <;> first | assumption | omega | rfl | (intro hx; first | (exfalso; omega) | rfl | assumption | exact Int32.toInt_inj.mp (by omega) | (subst_vars; first | rfl | exact Int32.toInt_inj.mp (by omega))) | exact Int32.toInt_inj.mp (by omega) | (subst_vars; first | rfl | assumption | omega | exact Int32.toInt_inj.mp (by omega)))
                  · refine ok_o2 (sp_X9_isThrown_ (1 : Int32) ) (fun r35_12 c_t_thrown_35_12 h53 => ?_)
                    have h53 : (r35_12.toInt = 0 ∧ c_t_thrown_35_12.toInt = 0 ∧ (1 : Int32).toInt = 0) ∨ (r35_12.toInt = 1 ∧ c_t_thrown_35_12.toInt = 1 ∧ (1 : Int32).toInt ≠ 0) := h53
                    refine ok_eq (fun c54 => ?_) (fun c54 => ?_)
                    · refine ok_o (fx_X9_primesOf p0 (by first | omega | assumption | trivial | exact wt_of (by assumption) (by omega)) (by first | omega | assumption | trivial | exact wt_of (by assumption) (by omega))) (fun r46_12 h55 => ?_)
                      have h55 : r46_12 = PRC p0 := h55
                      refine ok_s (show ((0 = 0 ∧ c_t_thrown_35_12.toInt = 0) ∨ (0 = 2 ∧ c_t_thrown_35_12.toInt = 1)) ∧ (0 = 0 → r34 = r46_12) from ?_)
                      first | (exfalso; omega) | (refine ⟨?_, ?_⟩ <;> first | assumption | omega | rfl | (intro hx; first | (exfalso; omega) | rfl | assumption | exact Int32.toInt_inj.mp (by omega) | (subst_vars; first | rfl | exact Int32.toInt_inj.mp (by omega))) | exact Int32.toInt_inj.mp (by omega) | (subst_vars; first | rfl | assumption | omega | exact Int32.toInt_inj.mp (by omega)))
                    · refine ok_s (show ((0 = 0 ∧ c_t_thrown_35_12.toInt = 0) ∨ (0 = 2 ∧ c_t_thrown_35_12.toInt = 1)) ∧ (0 = 0 → r34 = (0 : Int32)) from ?_)
                      first | (exfalso; omega) | (refine ⟨?_, ?_⟩ <;> first | assumption | omega | rfl | (intro hx; first | (exfalso; omega) | rfl | assumption | exact Int32.toInt_inj.mp (by omega) | (subst_vars; first | rfl | exact Int32.toInt_inj.mp (by omega))) | exact Int32.toInt_inj.mp (by omega) | (subst_vars; first | rfl | assumption | omega | exact Int32.toInt_inj.mp (by omega)))
                · refine ok_le (fun c56 => ?_) (fun c56 => ?_)
                  · refine ok_o2 (sp_X9_isThrown_ (0 : Int32) ) (fun r35_13 c_t_thrown_35_13 h57 => ?_)
                    have h57 : (r35_13.toInt = 0 ∧ c_t_thrown_35_13.toInt = 0 ∧ (0 : Int32).toInt = 0) ∨ (r35_13.toInt = 1 ∧ c_t_thrown_35_13.toInt = 1 ∧ (0 : Int32).toInt ≠ 0) := h57
                    refine ok_eq (fun c58 => ?_) (fun c58 => ?_)
                    · refine ok_o (fx_X9_primesOf p0 (by first | omega | assumption | trivial | exact wt_of (by assumption) (by omega)) (by first | omega | assumption | trivial | exact wt_of (by assumption) (by omega))) (fun r46_13 h59 => ?_)
                      have h59 : r46_13 = PRC p0 := h59
                      refine ok_s (show ((0 = 0 ∧ c_t_thrown_35_13.toInt = 0) ∨ (0 = 2 ∧ c_t_thrown_35_13.toInt = 1)) ∧ (0 = 0 → r34 = r46_13) from ?_)
                      first | (exfalso; omega) | (refine ⟨?_, ?_⟩ <;> first | assumption | omega | rfl | (intro hx; first | (exfalso; omega) | rfl | assumption | exact Int32.toInt_inj.mp (by omega) | (subst_vars; first | rfl | exact Int32.toInt_inj.mp (by omega))) | exact Int32.toInt_inj.mp (by omega) | (subst_vars; first | rfl | assumption | omega | exact Int32.toInt_inj.mp (by omega)))
                    · refine ok_s (show ((0 = 0 ∧ c_t_thrown_35_13.toInt = 0) ∨ (0 = 2 ∧ c_t_thrown_35_13.toInt = 1)) ∧ (0 = 0 → r34 = (0 : Int32)) from ?_)
                      first | (exfalso; omega) | (refine ⟨?_, ?_⟩ <;> first | assumption | omega | rfl | (intro hx; first | (exfalso; omega) | rfl | assumption | exact Int32.toInt_inj.mp (by omega) | (subst_vars; first | rfl | exact Int32.toInt_inj.mp (by omega))) | exact Int32.toInt_inj.mp (by omega) | (subst_vars; first | rfl | assumption | omega | exact Int32.toInt_inj.mp (by omega)))
                  · refine ok_o2 (sp_X9_isThrown_ (1 : Int32) ) (fun r35_14 c_t_thrown_35_14 h60 => ?_)
                    have h60 : (r35_14.toInt = 0 ∧ c_t_thrown_35_14.toInt = 0 ∧ (1 : Int32).toInt = 0) ∨ (r35_14.toInt = 1 ∧ c_t_thrown_35_14.toInt = 1 ∧ (1 : Int32).toInt ≠ 0) := h60
                    refine ok_eq (fun c61 => ?_) (fun c61 => ?_)
                    · refine ok_o (fx_X9_primesOf p0 (by first | omega | assumption | trivial | exact wt_of (by assumption) (by omega)) (by first | omega | assumption | trivial | exact wt_of (by assumption) (by omega))) (fun r46_14 h62 => ?_)
                      have h62 : r46_14 = PRC p0 := h62
                      refine ok_s (show ((0 = 0 ∧ c_t_thrown_35_14.toInt = 0) ∨ (0 = 2 ∧ c_t_thrown_35_14.toInt = 1)) ∧ (0 = 0 → r34 = r46_14) from ?_)
                      first | (exfalso; omega) | (refine ⟨?_, ?_⟩ <;> first | assumption | omega | rfl | (intro hx; first | (exfalso; omega) | rfl | assumption | exact Int32.toInt_inj.mp (by omega) | (subst_vars; first | rfl | exact Int32.toInt_inj.mp (by omega))) | exact Int32.toInt_inj.mp (by omega) | (subst_vars; first | rfl | assumption | omega | exact Int32.toInt_inj.mp (by omega)))
                    · refine ok_s (show ((0 = 0 ∧ c_t_thrown_35_14.toInt = 0) ∨ (0 = 2 ∧ c_t_thrown_35_14.toInt = 1)) ∧ (0 = 0 → r34 = (0 : Int32)) from ?_)
                      first | (exfalso; omega) | (refine ⟨?_, ?_⟩ <;> first | assumption | omega | rfl | (intro hx; first | (exfalso; omega) | rfl | assumption | exact Int32.toInt_inj.mp (by omega) | (subst_vars; first | rfl | exact Int32.toInt_inj.mp (by omega))) | exact Int32.toInt_inj.mp (by omega) | (subst_vars; first | rfl | assumption | omega | exact Int32.toInt_inj.mp (by omega)))
      · refine ok_s ?_
        show ok (F_X9_primes p0 p1) (fun q => ((xc19 = 0 ∧ q.2.toInt = 0) ∨ (xc19 = 2 ∧ q.2.toInt = 1)) ∧ (xc19 = 0 → (0 : Int32) = q.1))
        unfold F_X9_primes
        refine ok_lt (fun c63 => ?_) (fun c63 => ?_)
        · refine ok_o2 (sp_X9_isThrown_ (1 : Int32) ) (fun r35_15 c_t_thrown_35_15 h64 => ?_)
          have h64 : (r35_15.toInt = 0 ∧ c_t_thrown_35_15.toInt = 0 ∧ (1 : Int32).toInt = 0) ∨ (r35_15.toInt = 1 ∧ c_t_thrown_35_15.toInt = 1 ∧ (1 : Int32).toInt ≠ 0) := h64
          refine ok_eq (fun c65 => ?_) (fun c65 => ?_)
          · refine ok_o (fx_X9_primesOf p0 (by first | omega | assumption | trivial | exact wt_of (by assumption) (by omega)) (by first | omega | assumption | trivial | exact wt_of (by assumption) (by omega))) (fun r46_15 h66 => ?_)
            have h66 : r46_15 = PRC p0 := h66
            refine ok_s (show ((xc19 = 0 ∧ c_t_thrown_35_15.toInt = 0) ∨ (xc19 = 2 ∧ c_t_thrown_35_15.toInt = 1)) ∧ (xc19 = 0 → (0 : Int32) = r46_15) from ?_)
            first | (exfalso; omega) | (refine ⟨?_, ?_⟩ <;> first | assumption | omega | rfl | (intro hx; first | (exfalso; omega) | rfl | assumption | exact Int32.toInt_inj.mp (by omega) | (subst_vars; first | rfl | exact Int32.toInt_inj.mp (by omega))) | exact Int32.toInt_inj.mp (by omega) | (subst_vars; first | rfl | assumption | omega | exact Int32.toInt_inj.mp (by omega)))
          · refine ok_s (show ((xc19 = 0 ∧ c_t_thrown_35_15.toInt = 0) ∨ (xc19 = 2 ∧ c_t_thrown_35_15.toInt = 1)) ∧ (xc19 = 0 → (0 : Int32) = (0 : Int32)) from ?_)
            first | (exfalso; omega) | (refine ⟨?_, ?_⟩ <;> first | assumption | omega | rfl | (intro hx; first | (exfalso; omega) | rfl | assumption | exact Int32.toInt_inj.mp (by omega) | (subst_vars; first | rfl | exact Int32.toInt_inj.mp (by omega))) | exact Int32.toInt_inj.mp (by omega) | (subst_vars; first | rfl | assumption | omega | exact Int32.toInt_inj.mp (by omega)))
        · refine ok_lt (fun c67 => ?_) (fun c67 => ?_)
          · refine ok_o2 (sp_X9_isThrown_ (1 : Int32) ) (fun r35_16 c_t_thrown_35_16 h68 => ?_)
            have h68 : (r35_16.toInt = 0 ∧ c_t_thrown_35_16.toInt = 0 ∧ (1 : Int32).toInt = 0) ∨ (r35_16.toInt = 1 ∧ c_t_thrown_35_16.toInt = 1 ∧ (1 : Int32).toInt ≠ 0) := h68
            refine ok_eq (fun c69 => ?_) (fun c69 => ?_)
            · refine ok_o (fx_X9_primesOf p0 (by first | omega | assumption | trivial | exact wt_of (by assumption) (by omega)) (by first | omega | assumption | trivial | exact wt_of (by assumption) (by omega))) (fun r46_16 h70 => ?_)
              have h70 : r46_16 = PRC p0 := h70
              refine ok_s (show ((xc19 = 0 ∧ c_t_thrown_35_16.toInt = 0) ∨ (xc19 = 2 ∧ c_t_thrown_35_16.toInt = 1)) ∧ (xc19 = 0 → (0 : Int32) = r46_16) from ?_)
              first | (exfalso; omega) | (refine ⟨?_, ?_⟩ <;> first | assumption | omega | rfl | (intro hx; first | (exfalso; omega) | rfl | assumption | exact Int32.toInt_inj.mp (by omega) | (subst_vars; first | rfl | exact Int32.toInt_inj.mp (by omega))) | exact Int32.toInt_inj.mp (by omega) | (subst_vars; first | rfl | assumption | omega | exact Int32.toInt_inj.mp (by omega)))
            · refine ok_s (show ((xc19 = 0 ∧ c_t_thrown_35_16.toInt = 0) ∨ (xc19 = 2 ∧ c_t_thrown_35_16.toInt = 1)) ∧ (xc19 = 0 → (0 : Int32) = (0 : Int32)) from ?_)
              first | (exfalso; omega) | (refine ⟨?_, ?_⟩ <;> first | assumption | omega | rfl | (intro hx; first | (exfalso; omega) | rfl | assumption | exact Int32.toInt_inj.mp (by omega) | (subst_vars; first | rfl | exact Int32.toInt_inj.mp (by omega))) | exact Int32.toInt_inj.mp (by omega) | (subst_vars; first | rfl | assumption | omega | exact Int32.toInt_inj.mp (by omega)))
          · refine ok_lt (fun c71 => ?_) (fun c71 => ?_)
            · refine ok_o2 (sp_X9_isThrown_ (1 : Int32) ) (fun r35_17 c_t_thrown_35_17 h72 => ?_)
              have h72 : (r35_17.toInt = 0 ∧ c_t_thrown_35_17.toInt = 0 ∧ (1 : Int32).toInt = 0) ∨ (r35_17.toInt = 1 ∧ c_t_thrown_35_17.toInt = 1 ∧ (1 : Int32).toInt ≠ 0) := h72
              refine ok_eq (fun c73 => ?_) (fun c73 => ?_)
              · refine ok_o (fx_X9_primesOf p0 (by first | omega | assumption | trivial | exact wt_of (by assumption) (by omega)) (by first | omega | assumption | trivial | exact wt_of (by assumption) (by omega))) (fun r46_17 h74 => ?_)
                have h74 : r46_17 = PRC p0 := h74
                refine ok_s (show ((xc19 = 0 ∧ c_t_thrown_35_17.toInt = 0) ∨ (xc19 = 2 ∧ c_t_thrown_35_17.toInt = 1)) ∧ (xc19 = 0 → (0 : Int32) = r46_17) from ?_)
                first | (exfalso; omega) | (refine ⟨?_, ?_⟩ <;> first | assumption | omega | rfl | (intro hx; first | (exfalso; omega) | rfl | assumption | exact Int32.toInt_inj.mp (by omega) | (subst_vars; first | rfl | exact Int32.toInt_inj.mp (by omega))) | exact Int32.toInt_inj.mp (by omega) | (subst_vars; first | rfl | assumption | omega | exact Int32.toInt_inj.mp (by omega)))
              · refine ok_s (show ((xc19 = 0 ∧ c_t_thrown_35_17.toInt = 0) ∨ (xc19 = 2 ∧ c_t_thrown_35_17.toInt = 1)) ∧ (xc19 = 0 → (0 : Int32) = (0 : Int32)) from ?_)
                first | (exfalso; omega) | (refine ⟨?_, ?_⟩ <;> first | assumption | omega | rfl | (intro hx; first | (exfalso; omega) | rfl | assumption | exact Int32.toInt_inj.mp (by omega) | (subst_vars; first | rfl | exact Int32.toInt_inj.mp (by omega))) | exact Int32.toInt_inj.mp (by omega) | (subst_vars; first | rfl | assumption | omega | exact Int32.toInt_inj.mp (by omega)))
            · refine ok_eq (fun c75 => ?_) (fun c75 => ?_)
              · refine ok_le (fun c76 => ?_) (fun c76 => ?_)
                · refine ok_o2 (sp_X9_isThrown_ (0 : Int32) ) (fun r35_18 c_t_thrown_35_18 h77 => ?_)
                  have h77 : (r35_18.toInt = 0 ∧ c_t_thrown_35_18.toInt = 0 ∧ (0 : Int32).toInt = 0) ∨ (r35_18.toInt = 1 ∧ c_t_thrown_35_18.toInt = 1 ∧ (0 : Int32).toInt ≠ 0) := h77
                  refine ok_eq (fun c78 => ?_) (fun c78 => ?_)
                  · refine ok_o (fx_X9_primesOf p0 (by first | omega | assumption | trivial | exact wt_of (by assumption) (by omega)) (by first | omega | assumption | trivial | exact wt_of (by assumption) (by omega))) (fun r46_18 h79 => ?_)
                    have h79 : r46_18 = PRC p0 := h79
                    refine ok_s (show ((xc19 = 0 ∧ c_t_thrown_35_18.toInt = 0) ∨ (xc19 = 2 ∧ c_t_thrown_35_18.toInt = 1)) ∧ (xc19 = 0 → (0 : Int32) = r46_18) from ?_)
                    first | (exfalso; omega) | (refine ⟨?_, ?_⟩ <;> first | assumption | omega | rfl | (intro hx; first | (exfalso; omega) | rfl | assumption | exact Int32.toInt_inj.mp (by omega) | (subst_vars; first | rfl | exact Int32.toInt_inj.mp (by omega))) | exact Int32.toInt_inj.mp (by omega) | (subst_vars; first | rfl | assumption | omega | exact Int32.toInt_inj.mp (by omega)))
                  · refine ok_s (show ((xc19 = 0 ∧ c_t_thrown_35_18.toInt = 0) ∨ (xc19 = 2 ∧ c_t_thrown_35_18.toInt = 1)) ∧ (xc19 = 0 → (0 : Int32) = (0 : Int32)) from ?_)
                    first | (exfalso; omega) | (refine ⟨?_, ?_⟩ <;> first | assumption | omega | rfl | (intro hx; first | (exfalso; omega) | rfl | assumption | exact Int32.toInt_inj.mp (by omega) | (subst_vars; first | rfl | exact Int32.toInt_inj.mp (by omega))) | exact Int32.toInt_inj.mp (by omega) | (subst_vars; first | rfl | assumption | omega | exact Int32.toInt_inj.mp (by omega)))
                · refine ok_o2 (sp_X9_isThrown_ (1 : Int32) ) (fun r35_19 c_t_thrown_35_19 h80 => ?_)
                  have h80 : (r35_19.toInt = 0 ∧ c_t_thrown_35_19.toInt = 0 ∧ (1 : Int32).toInt = 0) ∨ (r35_19.toInt = 1 ∧ c_t_thrown_35_19.toInt = 1 ∧ (1 : Int32).toInt ≠ 0) := h80
                  refine ok_eq (fun c81 => ?_) (fun c81 => ?_)
                  · refine ok_o (fx_X9_primesOf p0 (by first | omega | assumption | trivial | exact wt_of (by assumption) (by omega)) (by first | omega | assumption | trivial | exact wt_of (by assumption) (by omega))) (fun r46_19 h82 => ?_)
                    have h82 : r46_19 = PRC p0 := h82
                    refine ok_s (show ((xc19 = 0 ∧ c_t_thrown_35_19.toInt = 0) ∨ (xc19 = 2 ∧ c_t_thrown_35_19.toInt = 1)) ∧ (xc19 = 0 → (0 : Int32) = r46_19) from ?_)
                    first | (exfalso; omega) | (refine ⟨?_, ?_⟩ <;> first | assumption | omega | rfl | (intro hx; first | (exfalso; omega) | rfl | assumption | exact Int32.toInt_inj.mp (by omega) | (subst_vars; first | rfl | exact Int32.toInt_inj.mp (by omega))) | exact Int32.toInt_inj.mp (by omega) | (subst_vars; first | rfl | assumption | omega | exact Int32.toInt_inj.mp (by omega)))
                  · refine ok_s (show ((xc19 = 0 ∧ c_t_thrown_35_19.toInt = 0) ∨ (xc19 = 2 ∧ c_t_thrown_35_19.toInt = 1)) ∧ (xc19 = 0 → (0 : Int32) = (0 : Int32)) from ?_)
                    first | (exfalso; omega) | (refine ⟨?_, ?_⟩ <;> first | assumption | omega | rfl | (intro hx; first | (exfalso; omega) | rfl | assumption | exact Int32.toInt_inj.mp (by omega) | (subst_vars; first | rfl | exact Int32.toInt_inj.mp (by omega))) | exact Int32.toInt_inj.mp (by omega) | (subst_vars; first | rfl | assumption | omega | exact Int32.toInt_inj.mp (by omega)))
              · refine ok_le (fun c83 => ?_) (fun c83 => ?_)
                · refine ok_o2 (sp_X9_isThrown_ (0 : Int32) ) (fun r35_20 c_t_thrown_35_20 h84 => ?_)
                  have h84 : (r35_20.toInt = 0 ∧ c_t_thrown_35_20.toInt = 0 ∧ (0 : Int32).toInt = 0) ∨ (r35_20.toInt = 1 ∧ c_t_thrown_35_20.toInt = 1 ∧ (0 : Int32).toInt ≠ 0) := h84
                  refine ok_eq (fun c85 => ?_) (fun c85 => ?_)
                  · refine ok_o (fx_X9_primesOf p0 (by first | omega | assumption | trivial | exact wt_of (by assumption) (by omega)) (by first | omega | assumption | trivial | exact wt_of (by assumption) (by omega))) (fun r46_20 h86 => ?_)
                    have h86 : r46_20 = PRC p0 := h86
                    refine ok_s (show ((xc19 = 0 ∧ c_t_thrown_35_20.toInt = 0) ∨ (xc19 = 2 ∧ c_t_thrown_35_20.toInt = 1)) ∧ (xc19 = 0 → (0 : Int32) = r46_20) from ?_)
                    first | (exfalso; omega) | (refine ⟨?_, ?_⟩ <;> first | assumption | omega | rfl | (intro hx; first | (exfalso; omega) | rfl | assumption | exact Int32.toInt_inj.mp (by omega) | (subst_vars; first | rfl | exact Int32.toInt_inj.mp (by omega))) | exact Int32.toInt_inj.mp (by omega) | (subst_vars; first | rfl | assumption | omega | exact Int32.toInt_inj.mp (by omega)))
                  · refine ok_s (show ((xc19 = 0 ∧ c_t_thrown_35_20.toInt = 0) ∨ (xc19 = 2 ∧ c_t_thrown_35_20.toInt = 1)) ∧ (xc19 = 0 → (0 : Int32) = (0 : Int32)) from ?_)
                    first | (exfalso; omega) | (refine ⟨?_, ?_⟩ <;> first | assumption | omega | rfl | (intro hx; first | (exfalso; omega) | rfl | assumption | exact Int32.toInt_inj.mp (by omega) | (subst_vars; first | rfl | exact Int32.toInt_inj.mp (by omega))) | exact Int32.toInt_inj.mp (by omega) | (subst_vars; first | rfl | assumption | omega | exact Int32.toInt_inj.mp (by omega)))
                · refine ok_o2 (sp_X9_isThrown_ (1 : Int32) ) (fun r35_21 c_t_thrown_35_21 h87 => ?_)
                  have h87 : (r35_21.toInt = 0 ∧ c_t_thrown_35_21.toInt = 0 ∧ (1 : Int32).toInt = 0) ∨ (r35_21.toInt = 1 ∧ c_t_thrown_35_21.toInt = 1 ∧ (1 : Int32).toInt ≠ 0) := h87
                  refine ok_eq (fun c88 => ?_) (fun c88 => ?_)
                  · refine ok_o (fx_X9_primesOf p0 (by first | omega | assumption | trivial | exact wt_of (by assumption) (by omega)) (by first | omega | assumption | trivial | exact wt_of (by assumption) (by omega))) (fun r46_21 h89 => ?_)
                    have h89 : r46_21 = PRC p0 := h89
                    refine ok_s (show ((xc19 = 0 ∧ c_t_thrown_35_21.toInt = 0) ∨ (xc19 = 2 ∧ c_t_thrown_35_21.toInt = 1)) ∧ (xc19 = 0 → (0 : Int32) = r46_21) from ?_)
                    first | (exfalso; omega) | (refine ⟨?_, ?_⟩ <;> first | assumption | omega | rfl | (intro hx; first | (exfalso; omega) | rfl | assumption | exact Int32.toInt_inj.mp (by omega) | (subst_vars; first | rfl | exact Int32.toInt_inj.mp (by omega))) | exact Int32.toInt_inj.mp (by omega) | (subst_vars; first | rfl | assumption | omega | exact Int32.toInt_inj.mp (by omega)))
                  · refine ok_s (show ((xc19 = 0 ∧ c_t_thrown_35_21.toInt = 0) ∨ (xc19 = 2 ∧ c_t_thrown_35_21.toInt = 1)) ∧ (xc19 = 0 → (0 : Int32) = (0 : Int32)) from ?_)
                    first | (exfalso; omega) | (refine ⟨?_, ?_⟩ <;> first | assumption | omega | rfl | (intro hx; first | (exfalso; omega) | rfl | assumption | exact Int32.toInt_inj.mp (by omega) | (subst_vars; first | rfl | exact Int32.toInt_inj.mp (by omega))) | exact Int32.toInt_inj.mp (by omega) | (subst_vars; first | rfl | assumption | omega | exact Int32.toInt_inj.mp (by omega)))
    · refine ok_o (sp_X7_testRange p0 (1 : Int32) (6 : Int32) ) (fun xc19_2 h90 => ?_)
      have h90 : (xc19_2 = 0 ∧ (1 : Int32).toInt ≤ p0.toInt ∧ p0.toInt ≤ (6 : Int32).toInt) ∨ (xc19_2 = 2 ∧ (p0.toInt < (1 : Int32).toInt ∨ (6 : Int32).toInt < p0.toInt)) := h90
      refine ok_i (fun c91 => ?_) (fun c91 => ?_)
      · refine ok_eq (fun c92 => ?_) (fun c92 => ?_)
        · refine ok_o (fx_X2_howManyBySum p0 (by first | omega | assumption | trivial | exact wt_of (by assumption) (by omega)) (by first | omega | assumption | trivial | exact wt_of (by assumption) (by omega))) (fun r27_2 h93 => ?_)
          have h93 : r27_2 = PRC p0 := h93
          refine ok_s ?_
          show ok (F_X9_primes p0 p1) (fun q => ((0 = 0 ∧ q.2.toInt = 0) ∨ (0 = 2 ∧ q.2.toInt = 1)) ∧ (0 = 0 → r27_2 = q.1))
          unfold F_X9_primes
          refine ok_lt (fun c94 => ?_) (fun c94 => ?_)
          · refine ok_o2 (sp_X9_isThrown_ (1 : Int32) ) (fun r35_22 c_t_thrown_35_22 h95 => ?_)
            have h95 : (r35_22.toInt = 0 ∧ c_t_thrown_35_22.toInt = 0 ∧ (1 : Int32).toInt = 0) ∨ (r35_22.toInt = 1 ∧ c_t_thrown_35_22.toInt = 1 ∧ (1 : Int32).toInt ≠ 0) := h95
            refine ok_eq (fun c96 => ?_) (fun c96 => ?_)
            · refine ok_o (fx_X9_primesOf p0 (by first | omega | assumption | trivial | exact wt_of (by assumption) (by omega)) (by first | omega | assumption | trivial | exact wt_of (by assumption) (by omega))) (fun r46_22 h97 => ?_)
              have h97 : r46_22 = PRC p0 := h97
              refine ok_s (show ((0 = 0 ∧ c_t_thrown_35_22.toInt = 0) ∨ (0 = 2 ∧ c_t_thrown_35_22.toInt = 1)) ∧ (0 = 0 → r27_2 = r46_22) from ?_)
              first | (exfalso; omega) | (refine ⟨?_, ?_⟩ <;> first | assumption | omega | rfl | (intro hx; first | (exfalso; omega) | rfl | assumption | exact Int32.toInt_inj.mp (by omega) | (subst_vars; first | rfl | exact Int32.toInt_inj.mp (by omega))) | exact Int32.toInt_inj.mp (by omega) | (subst_vars; first | rfl | assumption | omega | exact Int32.toInt_inj.mp (by omega)))
            · refine ok_s (show ((0 = 0 ∧ c_t_thrown_35_22.toInt = 0) ∨ (0 = 2 ∧ c_t_thrown_35_22.toInt = 1)) ∧ (0 = 0 → r27_2 = (0 : Int32)) from ?_)
              first | (exfalso; omega) | (refine ⟨?_, ?_⟩ <;> first | assumption | omega | rfl | (intro hx; first | (exfalso; omega) | rfl | assumption | exact Int32.toInt_inj.mp (by omega) | (subst_vars; first | rfl | exact Int32.toInt_inj.mp (by omega))) | exact Int32.toInt_inj.mp (by omega) | (subst_vars; first | rfl | assumption | omega | exact Int32.toInt_inj.mp (by omega)))
          · refine ok_lt (fun c98 => ?_) (fun c98 => ?_)
            · refine ok_o2 (sp_X9_isThrown_ (1 : Int32) ) (fun r35_23 c_t_thrown_35_23 h99 => ?_)
              have h99 : (r35_23.toInt = 0 ∧ c_t_thrown_35_23.toInt = 0 ∧ (1 : Int32).toInt = 0) ∨ (r35_23.toInt = 1 ∧ c_t_thrown_35_23.toInt = 1 ∧ (1 : Int32).toInt ≠ 0) := h99
              refine ok_eq (fun c100 => ?_) (fun c100 => ?_)
              · refine ok_o (fx_X9_primesOf p0 (by first | omega | assumption | trivial | exact wt_of (by assumption) (by omega)) (by first | omega | assumption | trivial | exact wt_of (by assumption) (by omega))) (fun r46_23 h101 => ?_)
                have h101 : r46_23 = PRC p0 := h101
                refine ok_s (show ((0 = 0 ∧ c_t_thrown_35_23.toInt = 0) ∨ (0 = 2 ∧ c_t_thrown_35_23.toInt = 1)) ∧ (0 = 0 → r27_2 = r46_23) from ?_)
                first | (exfalso; omega) | (refine ⟨?_, ?_⟩ <;> first | assumption | omega | rfl | (intro hx; first | (exfalso; omega) | rfl | assumption | exact Int32.toInt_inj.mp (by omega) | (subst_vars; first | rfl | exact Int32.toInt_inj.mp (by omega))) | exact Int32.toInt_inj.mp (by omega) | (subst_vars; first | rfl | assumption | omega | exact Int32.toInt_inj.mp (by omega)))
              · refine ok_s (show ((0 = 0 ∧ c_t_thrown_35_23.toInt = 0) ∨ (0 = 2 ∧ c_t_thrown_35_23.toInt = 1)) ∧ (0 = 0 → r27_2 = (0 : Int32)) from ?_)
                first | (exfalso; omega) | (refine ⟨?_, ?_⟩ <;> first | assumption | omega | rfl | (intro hx; first | (exfalso; omega) | rfl | assumption | exact Int32.toInt_inj.mp (by omega) | (subst_vars; first | rfl | exact Int32.toInt_inj.mp (by omega))) | exact Int32.toInt_inj.mp (by omega) | (subst_vars; first | rfl | assumption | omega | exact Int32.toInt_inj.mp (by omega)))
            · refine ok_lt (fun c102 => ?_) (fun c102 => ?_)
              · refine ok_o2 (sp_X9_isThrown_ (1 : Int32) ) (fun r35_24 c_t_thrown_35_24 h103 => ?_)
                have h103 : (r35_24.toInt = 0 ∧ c_t_thrown_35_24.toInt = 0 ∧ (1 : Int32).toInt = 0) ∨ (r35_24.toInt = 1 ∧ c_t_thrown_35_24.toInt = 1 ∧ (1 : Int32).toInt ≠ 0) := h103
                refine ok_eq (fun c104 => ?_) (fun c104 => ?_)
                · refine ok_o (fx_X9_primesOf p0 (by first | omega | assumption | trivial | exact wt_of (by assumption) (by omega)) (by first | omega | assumption | trivial | exact wt_of (by assumption) (by omega))) (fun r46_24 h105 => ?_)
                  have h105 : r46_24 = PRC p0 := h105
                  refine ok_s (show ((0 = 0 ∧ c_t_thrown_35_24.toInt = 0) ∨ (0 = 2 ∧ c_t_thrown_35_24.toInt = 1)) ∧ (0 = 0 → r27_2 = r46_24) from ?_)
                  first | (exfalso; omega) | (refine ⟨?_, ?_⟩ <;> first | assumption | omega | rfl | (intro hx; first | (exfalso; omega) | rfl | assumption | exact Int32.toInt_inj.mp (by omega) | (subst_vars; first | rfl | exact Int32.toInt_inj.mp (by omega))) | exact Int32.toInt_inj.mp (by omega) | (subst_vars; first | rfl | assumption | omega | exact Int32.toInt_inj.mp (by omega)))
                · refine ok_s (show ((0 = 0 ∧ c_t_thrown_35_24.toInt = 0) ∨ (0 = 2 ∧ c_t_thrown_35_24.toInt = 1)) ∧ (0 = 0 → r27_2 = (0 : Int32)) from ?_)
                  first | (exfalso; omega) | (refine ⟨?_, ?_⟩ <;> first | assumption | omega | rfl | (intro hx; first | (exfalso; omega) | rfl | assumption | exact Int32.toInt_inj.mp (by omega) | (subst_vars; first | rfl | exact Int32.toInt_inj.mp (by omega))) | exact Int32.toInt_inj.mp (by omega) | (subst_vars; first | rfl | assumption | omega | exact Int32.toInt_inj.mp (by omega)))
              · refine ok_eq (fun c106 => ?_) (fun c106 => ?_)
                · refine ok_le (fun c107 => ?_) (fun c107 => ?_)
                  · refine ok_o2 (sp_X9_isThrown_ (0 : Int32) ) (fun r35_25 c_t_thrown_35_25 h108 => ?_)
                    have h108 : (r35_25.toInt = 0 ∧ c_t_thrown_35_25.toInt = 0 ∧ (0 : Int32).toInt = 0) ∨ (r35_25.toInt = 1 ∧ c_t_thrown_35_25.toInt = 1 ∧ (0 : Int32).toInt ≠ 0) := h108
                    refine ok_eq (fun c109 => ?_) (fun c109 => ?_)
                    · refine ok_o (fx_X9_primesOf p0 (by first | omega | assumption | trivial | exact wt_of (by assumption) (by omega)) (by first | omega | assumption | trivial | exact wt_of (by assumption) (by omega))) (fun r46_25 h110 => ?_)
                      have h110 : r46_25 = PRC p0 := h110
                      refine ok_s (show ((0 = 0 ∧ c_t_thrown_35_25.toInt = 0) ∨ (0 = 2 ∧ c_t_thrown_35_25.toInt = 1)) ∧ (0 = 0 → r27_2 = r46_25) from ?_)
                      first | (exfalso; omega) | (refine ⟨?_, ?_⟩ <;> first | assumption | omega | rfl | (intro hx; first | (exfalso; omega) | rfl | assumption | exact Int32.toInt_inj.mp (by omega) | (subst_vars; first | rfl | exact Int32.toInt_inj.mp (by omega))) | exact Int32.toInt_inj.mp (by omega) | (subst_vars; first | rfl | assumption | omega | exact Int32.toInt_inj.mp (by omega)))
                    · refine ok_s (show ((0 = 0 ∧ c_t_thrown_35_25.toInt = 0) ∨ (0 = 2 ∧ c_t_thrown_35_25.toInt = 1)) ∧ (0 = 0 → r27_2 = (0 : Int32)) from ?_)
                      first | (exfalso; omega) | (refine ⟨?_, ?_⟩ <;> first | assumption | omega | rfl | (intro hx; first | (exfalso; omega) | rfl | assumption | exact Int32.toInt_inj.mp (by omega) | (subst_vars; first | rfl | exact Int32.toInt_inj.mp (by omega))) | exact Int32.toInt_inj.mp (by omega) | (subst_vars; first | rfl | assumption | omega | exact Int32.toInt_inj.mp (by omega)))
                  · refine ok_o2 (sp_X9_isThrown_ (1 : Int32) ) (fun r35_26 c_t_thrown_35_26 h111 => ?_)
                    have h111 : (r35_26.toInt = 0 ∧ c_t_thrown_35_26.toInt = 0 ∧ (1 : Int32).toInt = 0) ∨ (r35_26.toInt = 1 ∧ c_t_thrown_35_26.toInt = 1 ∧ (1 : Int32).toInt ≠ 0) := h111
                    refine ok_eq (fun c112 => ?_) (fun c112 => ?_)
                    · refine ok_o (fx_X9_primesOf p0 (by first | omega | assumption | trivial | exact wt_of (by assumption) (by omega)) (by first | omega | assumption | trivial | exact wt_of (by assumption) (by omega))) (fun r46_26 h113 => ?_)
                      have h113 : r46_26 = PRC p0 := h113
                      refine ok_s (show ((0 = 0 ∧ c_t_thrown_35_26.toInt = 0) ∨ (0 = 2 ∧ c_t_thrown_35_26.toInt = 1)) ∧ (0 = 0 → r27_2 = r46_26) from ?_)
                      first | (exfalso; omega) | (refine ⟨?_, ?_⟩ <;> first | assumption | omega | rfl | (intro hx; first | (exfalso; omega) | rfl | assumption | exact Int32.toInt_inj.mp (by omega) | (subst_vars; first | rfl | exact Int32.toInt_inj.mp (by omega))) | exact Int32.toInt_inj.mp (by omega) | (subst_vars; first | rfl | assumption | omega | exact Int32.toInt_inj.mp (by omega)))
                    · refine ok_s (show ((0 = 0 ∧ c_t_thrown_35_26.toInt = 0) ∨ (0 = 2 ∧ c_t_thrown_35_26.toInt = 1)) ∧ (0 = 0 → r27_2 = (0 : Int32)) from ?_)
                      first | (exfalso; omega) | (refine ⟨?_, ?_⟩ <;> first | assumption | omega | rfl | (intro hx; first | (exfalso; omega) | rfl | assumption | exact Int32.toInt_inj.mp (by omega) | (subst_vars; first | rfl | exact Int32.toInt_inj.mp (by omega))) | exact Int32.toInt_inj.mp (by omega) | (subst_vars; first | rfl | assumption | omega | exact Int32.toInt_inj.mp (by omega)))
                · refine ok_le (fun c114 => ?_) (fun c114 => ?_)
                  · refine ok_o2 (sp_X9_isThrown_ (0 : Int32) ) (fun r35_27 c_t_thrown_35_27 h115 => ?_)
                    have h115 : (r35_27.toInt = 0 ∧ c_t_thrown_35_27.toInt = 0 ∧ (0 : Int32).toInt = 0) ∨ (r35_27.toInt = 1 ∧ c_t_thrown_35_27.toInt = 1 ∧ (0 : Int32).toInt ≠ 0) := h115
                    refine ok_eq (fun c116 => ?_) (fun c116 => ?_)
                    · refine ok_o (fx_X9_primesOf p0 (by first | omega | assumption | trivial | exact wt_of (by assumption) (by omega)) (by first | omega | assumption | trivial | exact wt_of (by assumption) (by omega))) (fun r46_27 h117 => ?_)
                      have h117 : r46_27 = PRC p0 := h117
                      refine ok_s (show ((0 = 0 ∧ c_t_thrown_35_27.toInt = 0) ∨ (0 = 2 ∧ c_t_thrown_35_27.toInt = 1)) ∧ (0 = 0 → r27_2 = r46_27) from ?_)
                      first | (exfalso; omega) | (refine ⟨?_, ?_⟩ <;> first | assumption | omega | rfl | (intro hx; first | (exfalso; omega) | rfl | assumption | exact Int32.toInt_inj.mp (by omega) | (subst_vars; first | rfl | exact Int32.toInt_inj.mp (by omega))) | exact Int32.toInt_inj.mp (by omega) | (subst_vars; first | rfl | assumption | omega | exact Int32.toInt_inj.mp (by omega)))
                    · refine ok_s (show ((0 = 0 ∧ c_t_thrown_35_27.toInt = 0) ∨ (0 = 2 ∧ c_t_thrown_35_27.toInt = 1)) ∧ (0 = 0 → r27_2 = (0 : Int32)) from ?_)
                      first | (exfalso; omega) | (refine ⟨?_, ?_⟩ <;> first | assumption | omega | rfl | (intro hx; first | (exfalso; omega) | rfl | assumption | exact Int32.toInt_inj.mp (by omega) | (subst_vars; first | rfl | exact Int32.toInt_inj.mp (by omega))) | exact Int32.toInt_inj.mp (by omega) | (subst_vars; first | rfl | assumption | omega | exact Int32.toInt_inj.mp (by omega)))
                  · refine ok_o2 (sp_X9_isThrown_ (1 : Int32) ) (fun r35_28 c_t_thrown_35_28 h118 => ?_)
                    have h118 : (r35_28.toInt = 0 ∧ c_t_thrown_35_28.toInt = 0 ∧ (1 : Int32).toInt = 0) ∨ (r35_28.toInt = 1 ∧ c_t_thrown_35_28.toInt = 1 ∧ (1 : Int32).toInt ≠ 0) := h118
                    refine ok_eq (fun c119 => ?_) (fun c119 => ?_)
                    · refine ok_o (fx_X9_primesOf p0 (by first | omega | assumption | trivial | exact wt_of (by assumption) (by omega)) (by first | omega | assumption | trivial | exact wt_of (by assumption) (by omega))) (fun r46_28 h120 => ?_)
                      have h120 : r46_28 = PRC p0 := h120
                      refine ok_s (show ((0 = 0 ∧ c_t_thrown_35_28.toInt = 0) ∨ (0 = 2 ∧ c_t_thrown_35_28.toInt = 1)) ∧ (0 = 0 → r27_2 = r46_28) from ?_)
                      first | (exfalso; omega) | (refine ⟨?_, ?_⟩ <;> first | assumption | omega | rfl | (intro hx; first | (exfalso; omega) | rfl | assumption | exact Int32.toInt_inj.mp (by omega) | (subst_vars; first | rfl | exact Int32.toInt_inj.mp (by omega))) | exact Int32.toInt_inj.mp (by omega) | (subst_vars; first | rfl | assumption | omega | exact Int32.toInt_inj.mp (by omega)))
                    · refine ok_s (show ((0 = 0 ∧ c_t_thrown_35_28.toInt = 0) ∨ (0 = 2 ∧ c_t_thrown_35_28.toInt = 1)) ∧ (0 = 0 → r27_2 = (0 : Int32)) from ?_)
                      first | (exfalso; omega) | (refine ⟨?_, ?_⟩ <;> first | assumption | omega | rfl | (intro hx; first | (exfalso; omega) | rfl | assumption | exact Int32.toInt_inj.mp (by omega) | (subst_vars; first | rfl | exact Int32.toInt_inj.mp (by omega))) | exact Int32.toInt_inj.mp (by omega) | (subst_vars; first | rfl | assumption | omega | exact Int32.toInt_inj.mp (by omega)))
        · refine ok_o (fx_X2_howManyByCounting p0 (by first | omega | assumption | trivial | exact wt_of (by assumption) (by omega)) (by first | omega | assumption | trivial | exact wt_of (by assumption) (by omega))) (fun r34_2 h121 => ?_)
          have h121 : r34_2 = PRC p0 := h121
          refine ok_s ?_
          show ok (F_X9_primes p0 p1) (fun q => ((0 = 0 ∧ q.2.toInt = 0) ∨ (0 = 2 ∧ q.2.toInt = 1)) ∧ (0 = 0 → r34_2 = q.1))
          unfold F_X9_primes
          refine ok_lt (fun c122 => ?_) (fun c122 => ?_)
          · refine ok_o2 (sp_X9_isThrown_ (1 : Int32) ) (fun r35_29 c_t_thrown_35_29 h123 => ?_)
            have h123 : (r35_29.toInt = 0 ∧ c_t_thrown_35_29.toInt = 0 ∧ (1 : Int32).toInt = 0) ∨ (r35_29.toInt = 1 ∧ c_t_thrown_35_29.toInt = 1 ∧ (1 : Int32).toInt ≠ 0) := h123
            refine ok_eq (fun c124 => ?_) (fun c124 => ?_)
            · refine ok_o (fx_X9_primesOf p0 (by first | omega | assumption | trivial | exact wt_of (by assumption) (by omega)) (by first | omega | assumption | trivial | exact wt_of (by assumption) (by omega))) (fun r46_29 h125 => ?_)
              have h125 : r46_29 = PRC p0 := h125
              refine ok_s (show ((0 = 0 ∧ c_t_thrown_35_29.toInt = 0) ∨ (0 = 2 ∧ c_t_thrown_35_29.toInt = 1)) ∧ (0 = 0 → r34_2 = r46_29) from ?_)
              first | (exfalso; omega) | (refine ⟨?_, ?_⟩ <;> first | assumption | omega | rfl | (intro hx; first | (exfalso; omega) | rfl | assumption | exact Int32.toInt_inj.mp (by omega) | (subst_vars; first | rfl | exact Int32.toInt_inj.mp (by omega))) | exact Int32.toInt_inj.mp (by omega) | (subst_vars; first | rfl | assumption | omega | exact Int32.toInt_inj.mp (by omega)))
            · refine ok_s (show ((0 = 0 ∧ c_t_thrown_35_29.toInt = 0) ∨ (0 = 2 ∧ c_t_thrown_35_29.toInt = 1)) ∧ (0 = 0 → r34_2 = (0 : Int32)) from ?_)
              first | (exfalso; omega) | (refine ⟨?_, ?_⟩ <;> first | assumption | omega | rfl | (intro hx; first | (exfalso; omega) | rfl | assumption | exact Int32.toInt_inj.mp (by omega) | (subst_vars; first | rfl | exact Int32.toInt_inj.mp (by omega))) | exact Int32.toInt_inj.mp (by omega) | (subst_vars; first | rfl | assumption | omega | exact Int32.toInt_inj.mp (by omega)))
          · refine ok_lt (fun c126 => ?_) (fun c126 => ?_)
            · refine ok_o2 (sp_X9_isThrown_ (1 : Int32) ) (fun r35_30 c_t_thrown_35_30 h127 => ?_)
              have h127 : (r35_30.toInt = 0 ∧ c_t_thrown_35_30.toInt = 0 ∧ (1 : Int32).toInt = 0) ∨ (r35_30.toInt = 1 ∧ c_t_thrown_35_30.toInt = 1 ∧ (1 : Int32).toInt ≠ 0) := h127
              refine ok_eq (fun c128 => ?_) (fun c128 => ?_)
              · refine ok_o (fx_X9_primesOf p0 (by first | omega | assumption | trivial | exact wt_of (by assumption) (by omega)) (by first | omega | assumption | trivial | exact wt_of (by assumption) (by omega))) (fun r46_30 h129 => ?_)
                have h129 : r46_30 = PRC p0 := h129
                refine ok_s (show ((0 = 0 ∧ c_t_thrown_35_30.toInt = 0) ∨ (0 = 2 ∧ c_t_thrown_35_30.toInt = 1)) ∧ (0 = 0 → r34_2 = r46_30) from ?_)
                first | (exfalso; omega) | (refine ⟨?_, ?_⟩ <;> first | assumption | omega | rfl | (intro hx; first | (exfalso; omega) | rfl | assumption | exact Int32.toInt_inj.mp (by omega) | (subst_vars; first | rfl | exact Int32.toInt_inj.mp (by omega))) | exact Int32.toInt_inj.mp (by omega) | (subst_vars; first | rfl | assumption | omega | exact Int32.toInt_inj.mp (by omega)))
              · refine ok_s (show ((0 = 0 ∧ c_t_thrown_35_30.toInt = 0) ∨ (0 = 2 ∧ c_t_thrown_35_30.toInt = 1)) ∧ (0 = 0 → r34_2 = (0 : Int32)) from ?_)
                first | (exfalso; omega) | (refine ⟨?_, ?_⟩ <;> first | assumption | omega | rfl | (intro hx; first | (exfalso; omega) | rfl | assumption | exact Int32.toInt_inj.mp (by omega) | (subst_vars; first | rfl | exact Int32.toInt_inj.mp (by omega))) | exact Int32.toInt_inj.mp (by omega) | (subst_vars; first | rfl | assumption | omega | exact Int32.toInt_inj.mp (by omega)))
            · refine ok_lt (fun c130 => ?_) (fun c130 => ?_)
              · refine ok_o2 (sp_X9_isThrown_ (1 : Int32) ) (fun r35_31 c_t_thrown_35_31 h131 => ?_)
                have h131 : (r35_31.toInt = 0 ∧ c_t_thrown_35_31.toInt = 0 ∧ (1 : Int32).toInt = 0) ∨ (r35_31.toInt = 1 ∧ c_t_thrown_35_31.toInt = 1 ∧ (1 : Int32).toInt ≠ 0) := h131
                refine ok_eq (fun c132 => ?_) (fun c132 => ?_)
                · refine ok_o (fx_X9_primesOf p0 (by first | omega | assumption | trivial | exact wt_of (by assumption) (by omega)) (by first | omega | assumption | trivial | exact wt_of (by assumption) (by omega))) (fun r46_31 h133 => ?_)
                  have h133 : r46_31 = PRC p0 := h133
                  refine ok_s (show ((0 = 0 ∧ c_t_thrown_35_31.toInt = 0) ∨ (0 = 2 ∧ c_t_thrown_35_31.toInt = 1)) ∧ (0 = 0 → r34_2 = r46_31) from ?_)
                  first | (exfalso; omega) | (refine ⟨?_, ?_⟩ <;> first | assumption | omega | rfl | (intro hx; first | (exfalso; omega) | rfl | assumption | exact Int32.toInt_inj.mp (by omega) | (subst_vars; first | rfl | exact Int32.toInt_inj.mp (by omega))) | exact Int32.toInt_inj.mp (by omega) | (subst_vars; first | rfl | assumption | omega | exact Int32.toInt_inj.mp (by omega)))
                · refine ok_s (show ((0 = 0 ∧ c_t_thrown_35_31.toInt = 0) ∨ (0 = 2 ∧ c_t_thrown_35_31.toInt = 1)) ∧ (0 = 0 → r34_2 = (0 : Int32)) from ?_)
                  first | (exfalso; omega) | (refine ⟨?_, ?_⟩ <;> first | assumption | omega | rfl | (intro hx; first | (exfalso; omega) | rfl | assumption | exact Int32.toInt_inj.mp (by omega) | (subst_vars; first | rfl | exact Int32.toInt_inj.mp (by omega))) | exact Int32.toInt_inj.mp (by omega) | (subst_vars; first | rfl | assumption | omega | exact Int32.toInt_inj.mp (by omega)))
              · refine ok_eq (fun c134 => ?_) (fun c134 => ?_)
                · refine ok_le (fun c135 => ?_) (fun c135 => ?_)
                  · refine ok_o2 (sp_X9_isThrown_ (0 : Int32) ) (fun r35_32 c_t_thrown_35_32 h136 => ?_)
                    have h136 : (r35_32.toInt = 0 ∧ c_t_thrown_35_32.toInt = 0 ∧ (0 : Int32).toInt = 0) ∨ (r35_32.toInt = 1 ∧ c_t_thrown_35_32.toInt = 1 ∧ (0 : Int32).toInt ≠ 0) := h136
                    refine ok_eq (fun c137 => ?_) (fun c137 => ?_)
                    · refine ok_o (fx_X9_primesOf p0 (by first | omega | assumption | trivial | exact wt_of (by assumption) (by omega)) (by first | omega | assumption | trivial | exact wt_of (by assumption) (by omega))) (fun r46_32 h138 => ?_)
                      have h138 : r46_32 = PRC p0 := h138
                      refine ok_s (show ((0 = 0 ∧ c_t_thrown_35_32.toInt = 0) ∨ (0 = 2 ∧ c_t_thrown_35_32.toInt = 1)) ∧ (0 = 0 → r34_2 = r46_32) from ?_)
                      first | (exfalso; omega) | (refine ⟨?_, ?_⟩ <;> first | assumption | omega | rfl | (intro hx; first | (exfalso; omega) | rfl | assumption | exact Int32.toInt_inj.mp (by omega) | (subst_vars; first | rfl | exact Int32.toInt_inj.mp (by omega))) | exact Int32.toInt_inj.mp (by omega) | (subst_vars; first | rfl | assumption | omega | exact Int32.toInt_inj.mp (by omega)))
                    · refine ok_s (show ((0 = 0 ∧ c_t_thrown_35_32.toInt = 0) ∨ (0 = 2 ∧ c_t_thrown_35_32.toInt = 1)) ∧ (0 = 0 → r34_2 = (0 : Int32)) from ?_)
                      first | (exfalso; omega) | (refine ⟨?_, ?_⟩ <;> first | assumption | omega | rfl | (intro hx; first | (exfalso; omega) | rfl | assumption | exact Int32.toInt_inj.mp (by omega) | (subst_vars; first | rfl | exact Int32.toInt_inj.mp (by omega))) | exact Int32.toInt_inj.mp (by omega) | (subst_vars; first | rfl | assumption | omega | exact Int32.toInt_inj.mp (by omega)))
                  · refine ok_o2 (sp_X9_isThrown_ (1 : Int32) ) (fun r35_33 c_t_thrown_35_33 h139 => ?_)
                    have h139 : (r35_33.toInt = 0 ∧ c_t_thrown_35_33.toInt = 0 ∧ (1 : Int32).toInt = 0) ∨ (r35_33.toInt = 1 ∧ c_t_thrown_35_33.toInt = 1 ∧ (1 : Int32).toInt ≠ 0) := h139
                    refine ok_eq (fun c140 => ?_) (fun c140 => ?_)
                    · refine ok_o (fx_X9_primesOf p0 (by first | omega | assumption | trivial | exact wt_of (by assumption) (by omega)) (by first | omega | assumption | trivial | exact wt_of (by assumption) (by omega))) (fun r46_33 h141 => ?_)
                      have h141 : r46_33 = PRC p0 := h141
                      refine ok_s (show ((0 = 0 ∧ c_t_thrown_35_33.toInt = 0) ∨ (0 = 2 ∧ c_t_thrown_35_33.toInt = 1)) ∧ (0 = 0 → r34_2 = r46_33) from ?_)
                      first | (exfalso; omega) | (refine ⟨?_, ?_⟩ <;> first | assumption | omega | rfl | (intro hx; first | (exfalso; omega) | rfl | assumption | exact Int32.toInt_inj.mp (by omega) | (subst_vars; first | rfl | exact Int32.toInt_inj.mp (by omega))) | exact Int32.toInt_inj.mp (by omega) | (subst_vars; first | rfl | assumption | omega | exact Int32.toInt_inj.mp (by omega)))
                    · refine ok_s (show ((0 = 0 ∧ c_t_thrown_35_33.toInt = 0) ∨ (0 = 2 ∧ c_t_thrown_35_33.toInt = 1)) ∧ (0 = 0 → r34_2 = (0 : Int32)) from ?_)
                      first | (exfalso; omega) | (refine ⟨?_, ?_⟩ <;> first | assumption | omega | rfl | (intro hx; first | (exfalso; omega) | rfl | assumption | exact Int32.toInt_inj.mp (by omega) | (subst_vars; first | rfl | exact Int32.toInt_inj.mp (by omega))) | exact Int32.toInt_inj.mp (by omega) | (subst_vars; first | rfl | assumption | omega | exact Int32.toInt_inj.mp (by omega)))
                · refine ok_le (fun c142 => ?_) (fun c142 => ?_)
                  · refine ok_o2 (sp_X9_isThrown_ (0 : Int32) ) (fun r35_34 c_t_thrown_35_34 h143 => ?_)
                    have h143 : (r35_34.toInt = 0 ∧ c_t_thrown_35_34.toInt = 0 ∧ (0 : Int32).toInt = 0) ∨ (r35_34.toInt = 1 ∧ c_t_thrown_35_34.toInt = 1 ∧ (0 : Int32).toInt ≠ 0) := h143
                    refine ok_eq (fun c144 => ?_) (fun c144 => ?_)
                    · refine ok_o (fx_X9_primesOf p0 (by first | omega | assumption | trivial | exact wt_of (by assumption) (by omega)) (by first | omega | assumption | trivial | exact wt_of (by assumption) (by omega))) (fun r46_34 h145 => ?_)
                      have h145 : r46_34 = PRC p0 := h145
                      refine ok_s (show ((0 = 0 ∧ c_t_thrown_35_34.toInt = 0) ∨ (0 = 2 ∧ c_t_thrown_35_34.toInt = 1)) ∧ (0 = 0 → r34_2 = r46_34) from ?_)
                      first | (exfalso; omega) | (refine ⟨?_, ?_⟩ <;> first | assumption | omega | rfl | (intro hx; first | (exfalso; omega) | rfl | assumption | exact Int32.toInt_inj.mp (by omega) | (subst_vars; first | rfl | exact Int32.toInt_inj.mp (by omega))) | exact Int32.toInt_inj.mp (by omega) | (subst_vars; first | rfl | assumption | omega | exact Int32.toInt_inj.mp (by omega)))
                    · refine ok_s (show ((0 = 0 ∧ c_t_thrown_35_34.toInt = 0) ∨ (0 = 2 ∧ c_t_thrown_35_34.toInt = 1)) ∧ (0 = 0 → r34_2 = (0 : Int32)) from ?_)
                      first | (exfalso; omega) | (refine ⟨?_, ?_⟩ <;> first | assumption | omega | rfl | (intro hx; first | (exfalso; omega) | rfl | assumption | exact Int32.toInt_inj.mp (by omega) | (subst_vars; first | rfl | exact Int32.toInt_inj.mp (by omega))) | exact Int32.toInt_inj.mp (by omega) | (subst_vars; first | rfl | assumption | omega | exact Int32.toInt_inj.mp (by omega)))
                  · refine ok_o2 (sp_X9_isThrown_ (1 : Int32) ) (fun r35_35 c_t_thrown_35_35 h146 => ?_)
                    have h146 : (r35_35.toInt = 0 ∧ c_t_thrown_35_35.toInt = 0 ∧ (1 : Int32).toInt = 0) ∨ (r35_35.toInt = 1 ∧ c_t_thrown_35_35.toInt = 1 ∧ (1 : Int32).toInt ≠ 0) := h146
                    refine ok_eq (fun c147 => ?_) (fun c147 => ?_)
                    · refine ok_o (fx_X9_primesOf p0 (by first | omega | assumption | trivial | exact wt_of (by assumption) (by omega)) (by first | omega | assumption | trivial | exact wt_of (by assumption) (by omega))) (fun r46_35 h148 => ?_)
                      have h148 : r46_35 = PRC p0 := h148
                      refine ok_s (show ((0 = 0 ∧ c_t_thrown_35_35.toInt = 0) ∨ (0 = 2 ∧ c_t_thrown_35_35.toInt = 1)) ∧ (0 = 0 → r34_2 = r46_35) from ?_)
                      first | (exfalso; omega) | (refine ⟨?_, ?_⟩ <;> first | assumption | omega | rfl | (intro hx; first | (exfalso; omega) | rfl | assumption | exact Int32.toInt_inj.mp (by omega) | (subst_vars; first | rfl | exact Int32.toInt_inj.mp (by omega))) | exact Int32.toInt_inj.mp (by omega) | (subst_vars; first | rfl | assumption | omega | exact Int32.toInt_inj.mp (by omega)))
                    · refine ok_s (show ((0 = 0 ∧ c_t_thrown_35_35.toInt = 0) ∨ (0 = 2 ∧ c_t_thrown_35_35.toInt = 1)) ∧ (0 = 0 → r34_2 = (0 : Int32)) from ?_)
                      first | (exfalso; omega) | (refine ⟨?_, ?_⟩ <;> first | assumption | omega | rfl | (intro hx; first | (exfalso; omega) | rfl | assumption | exact Int32.toInt_inj.mp (by omega) | (subst_vars; first | rfl | exact Int32.toInt_inj.mp (by omega))) | exact Int32.toInt_inj.mp (by omega) | (subst_vars; first | rfl | assumption | omega | exact Int32.toInt_inj.mp (by omega)))
      · refine ok_s ?_
        show ok (F_X9_primes p0 p1) (fun q => ((xc19_2 = 0 ∧ q.2.toInt = 0) ∨ (xc19_2 = 2 ∧ q.2.toInt = 1)) ∧ (xc19_2 = 0 → (0 : Int32) = q.1))
        unfold F_X9_primes
        refine ok_lt (fun c149 => ?_) (fun c149 => ?_)
        · refine ok_o2 (sp_X9_isThrown_ (1 : Int32) ) (fun r35_36 c_t_thrown_35_36 h150 => ?_)
          have h150 : (r35_36.toInt = 0 ∧ c_t_thrown_35_36.toInt = 0 ∧ (1 : Int32).toInt = 0) ∨ (r35_36.toInt = 1 ∧ c_t_thrown_35_36.toInt = 1 ∧ (1 : Int32).toInt ≠ 0) := h150
          refine ok_eq (fun c151 => ?_) (fun c151 => ?_)
          · refine ok_o (fx_X9_primesOf p0 (by first | omega | assumption | trivial | exact wt_of (by assumption) (by omega)) (by first | omega | assumption | trivial | exact wt_of (by assumption) (by omega))) (fun r46_36 h152 => ?_)
            have h152 : r46_36 = PRC p0 := h152
            refine ok_s (show ((xc19_2 = 0 ∧ c_t_thrown_35_36.toInt = 0) ∨ (xc19_2 = 2 ∧ c_t_thrown_35_36.toInt = 1)) ∧ (xc19_2 = 0 → (0 : Int32) = r46_36) from ?_)
            first | (exfalso; omega) | (refine ⟨?_, ?_⟩ <;> first | assumption | omega | rfl | (intro hx; first | (exfalso; omega) | rfl | assumption | exact Int32.toInt_inj.mp (by omega) | (subst_vars; first | rfl | exact Int32.toInt_inj.mp (by omega))) | exact Int32.toInt_inj.mp (by omega) | (subst_vars; first | rfl | assumption | omega | exact Int32.toInt_inj.mp (by omega)))
          · refine ok_s (show ((xc19_2 = 0 ∧ c_t_thrown_35_36.toInt = 0) ∨ (xc19_2 = 2 ∧ c_t_thrown_35_36.toInt = 1)) ∧ (xc19_2 = 0 → (0 : Int32) = (0 : Int32)) from ?_)
            first | (exfalso; omega) | (refine ⟨?_, ?_⟩ <;> first | assumption | omega | rfl | (intro hx; first | (exfalso; omega) | rfl | assumption | exact Int32.toInt_inj.mp (by omega) | (subst_vars; first | rfl | exact Int32.toInt_inj.mp (by omega))) | exact Int32.toInt_inj.mp (by omega) | (subst_vars; first | rfl | assumption | omega | exact Int32.toInt_inj.mp (by omega)))
        · refine ok_lt (fun c153 => ?_) (fun c153 => ?_)
          · refine ok_o2 (sp_X9_isThrown_ (1 : Int32) ) (fun r35_37 c_t_thrown_35_37 h154 => ?_)
            have h154 : (r35_37.toInt = 0 ∧ c_t_thrown_35_37.toInt = 0 ∧ (1 : Int32).toInt = 0) ∨ (r35_37.toInt = 1 ∧ c_t_thrown_35_37.toInt = 1 ∧ (1 : Int32).toInt ≠ 0) := h154
            refine ok_eq (fun c155 => ?_) (fun c155 => ?_)
            · refine ok_o (fx_X9_primesOf p0 (by first | omega | assumption | trivial | exact wt_of (by assumption) (by omega)) (by first | omega | assumption | trivial | exact wt_of (by assumption) (by omega))) (fun r46_37 h156 => ?_)
              have h156 : r46_37 = PRC p0 := h156
              refine ok_s (show ((xc19_2 = 0 ∧ c_t_thrown_35_37.toInt = 0) ∨ (xc19_2 = 2 ∧ c_t_thrown_35_37.toInt = 1)) ∧ (xc19_2 = 0 → (0 : Int32) = r46_37) from ?_)
              first | (exfalso; omega) | (refine ⟨?_, ?_⟩ <;> first | assumption | omega | rfl | (intro hx; first | (exfalso; omega) | rfl | assumption | exact Int32.toInt_inj.mp (by omega) | (subst_vars; first | rfl | exact Int32.toInt_inj.mp (by omega))) | exact Int32.toInt_inj.mp (by omega) | (subst_vars; first | rfl | assumption | omega | exact Int32.toInt_inj.mp (by omega)))
            · refine ok_s (show ((xc19_2 = 0 ∧ c_t_thrown_35_37.toInt = 0) ∨ (xc19_2 = 2 ∧ c_t_thrown_35_37.toInt = 1)) ∧ (xc19_2 = 0 → (0 : Int32) = (0 : Int32)) from ?_)
              first | (exfalso; omega) | (refine ⟨?_, ?_⟩ <;> first | assumption | omega | rfl | (intro hx; first | (exfalso; omega) | rfl | assumption | exact Int32.toInt_inj.mp (by omega) | (subst_vars; first | rfl | exact Int32.toInt_inj.mp (by omega))) | exact Int32.toInt_inj.mp (by omega) | (subst_vars; first | rfl | assumption | omega | exact Int32.toInt_inj.mp (by omega)))
          · refine ok_lt (fun c157 => ?_) (fun c157 => ?_)
            · refine ok_o2 (sp_X9_isThrown_ (1 : Int32) ) (fun r35_38 c_t_thrown_35_38 h158 => ?_)
              have h158 : (r35_38.toInt = 0 ∧ c_t_thrown_35_38.toInt = 0 ∧ (1 : Int32).toInt = 0) ∨ (r35_38.toInt = 1 ∧ c_t_thrown_35_38.toInt = 1 ∧ (1 : Int32).toInt ≠ 0) := h158
              refine ok_eq (fun c159 => ?_) (fun c159 => ?_)
              · refine ok_o (fx_X9_primesOf p0 (by first | omega | assumption | trivial | exact wt_of (by assumption) (by omega)) (by first | omega | assumption | trivial | exact wt_of (by assumption) (by omega))) (fun r46_38 h160 => ?_)
                have h160 : r46_38 = PRC p0 := h160
                refine ok_s (show ((xc19_2 = 0 ∧ c_t_thrown_35_38.toInt = 0) ∨ (xc19_2 = 2 ∧ c_t_thrown_35_38.toInt = 1)) ∧ (xc19_2 = 0 → (0 : Int32) = r46_38) from ?_)
                first | (exfalso; omega) | (refine ⟨?_, ?_⟩ <;> first | assumption | omega | rfl | (intro hx; first | (exfalso; omega) | rfl | assumption | exact Int32.toInt_inj.mp (by omega) | (subst_vars; first | rfl | exact Int32.toInt_inj.mp (by omega))) | exact Int32.toInt_inj.mp (by omega) | (subst_vars; first | rfl | assumption | omega | exact Int32.toInt_inj.mp (by omega)))
              · refine ok_s (show ((xc19_2 = 0 ∧ c_t_thrown_35_38.toInt = 0) ∨ (xc19_2 = 2 ∧ c_t_thrown_35_38.toInt = 1)) ∧ (xc19_2 = 0 → (0 : Int32) = (0 : Int32)) from ?_)
                first | (exfalso; omega) | (refine ⟨?_, ?_⟩ <;> first | assumption | omega | rfl | (intro hx; first | (exfalso; omega) | rfl | assumption | exact Int32.toInt_inj.mp (by omega) | (subst_vars; first | rfl | exact Int32.toInt_inj.mp (by omega))) | exact Int32.toInt_inj.mp (by omega) | (subst_vars; first | rfl | assumption | omega | exact Int32.toInt_inj.mp (by omega)))
            · refine ok_eq (fun c161 => ?_) (fun c161 => ?_)
              · refine ok_le (fun c162 => ?_) (fun c162 => ?_)
                · refine ok_o2 (sp_X9_isThrown_ (0 : Int32) ) (fun r35_39 c_t_thrown_35_39 h163 => ?_)
                  have h163 : (r35_39.toInt = 0 ∧ c_t_thrown_35_39.toInt = 0 ∧ (0 : Int32).toInt = 0) ∨ (r35_39.toInt = 1 ∧ c_t_thrown_35_39.toInt = 1 ∧ (0 : Int32).toInt ≠ 0) := h163
                  refine ok_eq (fun c164 => ?_) (fun c164 => ?_)
                  · refine ok_o (fx_X9_primesOf p0 (by first | omega | assumption | trivial | exact wt_of (by assumption) (by omega)) (by first | omega | assumption | trivial | exact wt_of (by assumption) (by omega))) (fun r46_39 h165 => ?_)
                    have h165 : r46_39 = PRC p0 := h165
                    refine ok_s (show ((xc19_2 = 0 ∧ c_t_thrown_35_39.toInt = 0) ∨ (xc19_2 = 2 ∧ c_t_thrown_35_39.toInt = 1)) ∧ (xc19_2 = 0 → (0 : Int32) = r46_39) from ?_)
                    first | (exfalso; omega) | (refine ⟨?_, ?_⟩ <;> first | assumption | omega | rfl | (intro hx; first | (exfalso; omega) | rfl | assumption | exact Int32.toInt_inj.mp (by omega) | (subst_vars; first | rfl | exact Int32.toInt_inj.mp (by omega))) | exact Int32.toInt_inj.mp (by omega) | (subst_vars; first | rfl | assumption | omega | exact Int32.toInt_inj.mp (by omega)))
                  · refine ok_s (show ((xc19_2 = 0 ∧ c_t_thrown_35_39.toInt = 0) ∨ (xc19_2 = 2 ∧ c_t_thrown_35_39.toInt = 1)) ∧ (xc19_2 = 0 → (0 : Int32) = (0 : Int32)) from ?_)
                    first | (exfalso; omega) | (refine ⟨?_, ?_⟩ <;> first | assumption | omega | rfl | (intro hx; first | (exfalso; omega) | rfl | assumption | exact Int32.toInt_inj.mp (by omega) | (subst_vars; first | rfl | exact Int32.toInt_inj.mp (by omega))) | exact Int32.toInt_inj.mp (by omega) | (subst_vars; first | rfl | assumption | omega | exact Int32.toInt_inj.mp (by omega)))
                · refine ok_o2 (sp_X9_isThrown_ (1 : Int32) ) (fun r35_40 c_t_thrown_35_40 h166 => ?_)
                  have h166 : (r35_40.toInt = 0 ∧ c_t_thrown_35_40.toInt = 0 ∧ (1 : Int32).toInt = 0) ∨ (r35_40.toInt = 1 ∧ c_t_thrown_35_40.toInt = 1 ∧ (1 : Int32).toInt ≠ 0) := h166
                  refine ok_eq (fun c167 => ?_) (fun c167 => ?_)
                  · refine ok_o (fx_X9_primesOf p0 (by first | omega | assumption | trivial | exact wt_of (by assumption) (by omega)) (by first | omega | assumption | trivial | exact wt_of (by assumption) (by omega))) (fun r46_40 h168 => ?_)
                    have h168 : r46_40 = PRC p0 := h168
                    refine ok_s (show ((xc19_2 = 0 ∧ c_t_thrown_35_40.toInt = 0) ∨ (xc19_2 = 2 ∧ c_t_thrown_35_40.toInt = 1)) ∧ (xc19_2 = 0 → (0 : Int32) = r46_40) from ?_)
                    first | (exfalso; omega) | (refine ⟨?_, ?_⟩ <;> first | assumption | omega | rfl | (intro hx; first | (exfalso; omega) | rfl | assumption | exact Int32.toInt_inj.mp (by omega) | (subst_vars; first | rfl | exact Int32.toInt_inj.mp (by omega))) | exact Int32.toInt_inj.mp (by omega) | (subst_vars; first | rfl | assumption | omega | exact Int32.toInt_inj.mp (by omega)))
                  · refine ok_s (show ((xc19_2 = 0 ∧ c_t_thrown_35_40.toInt = 0) ∨ (xc19_2 = 2 ∧ c_t_thrown_35_40.toInt = 1)) ∧ (xc19_2 = 0 → (0 : Int32) = (0 : Int32)) from ?_)
                    first | (exfalso; omega) | (refine ⟨?_, ?_⟩ <;> first | assumption | omega | rfl | (intro hx; first | (exfalso; omega) | rfl | assumption | exact Int32.toInt_inj.mp (by omega) | (subst_vars; first | rfl | exact Int32.toInt_inj.mp (by omega))) | exact Int32.toInt_inj.mp (by omega) | (subst_vars; first | rfl | assumption | omega | exact Int32.toInt_inj.mp (by omega)))
              · refine ok_le (fun c169 => ?_) (fun c169 => ?_)
                · refine ok_o2 (sp_X9_isThrown_ (0 : Int32) ) (fun r35_41 c_t_thrown_35_41 h170 => ?_)
                  have h170 : (r35_41.toInt = 0 ∧ c_t_thrown_35_41.toInt = 0 ∧ (0 : Int32).toInt = 0) ∨ (r35_41.toInt = 1 ∧ c_t_thrown_35_41.toInt = 1 ∧ (0 : Int32).toInt ≠ 0) := h170
                  refine ok_eq (fun c171 => ?_) (fun c171 => ?_)
                  · refine ok_o (fx_X9_primesOf p0 (by first | omega | assumption | trivial | exact wt_of (by assumption) (by omega)) (by first | omega | assumption | trivial | exact wt_of (by assumption) (by omega))) (fun r46_41 h172 => ?_)
                    have h172 : r46_41 = PRC p0 := h172
                    refine ok_s (show ((xc19_2 = 0 ∧ c_t_thrown_35_41.toInt = 0) ∨ (xc19_2 = 2 ∧ c_t_thrown_35_41.toInt = 1)) ∧ (xc19_2 = 0 → (0 : Int32) = r46_41) from ?_)
                    first | (exfalso; omega) | (refine ⟨?_, ?_⟩ <;> first | assumption | omega | rfl | (intro hx; first | (exfalso; omega) | rfl | assumption | exact Int32.toInt_inj.mp (by omega) | (subst_vars; first | rfl | exact Int32.toInt_inj.mp (by omega))) | exact Int32.toInt_inj.mp (by omega) | (subst_vars; first | rfl | assumption | omega | exact Int32.toInt_inj.mp (by omega)))
                  · refine ok_s (show ((xc19_2 = 0 ∧ c_t_thrown_35_41.toInt = 0) ∨ (xc19_2 = 2 ∧ c_t_thrown_35_41.toInt = 1)) ∧ (xc19_2 = 0 → (0 : Int32) = (0 : Int32)) from ?_)
                    first | (exfalso; omega) | (refine ⟨?_, ?_⟩ <;> first | assumption | omega | rfl | (intro hx; first | (exfalso; omega) | rfl | assumption | exact Int32.toInt_inj.mp (by omega) | (subst_vars; first | rfl | exact Int32.toInt_inj.mp (by omega))) | exact Int32.toInt_inj.mp (by omega) | (subst_vars; first | rfl | assumption | omega | exact Int32.toInt_inj.mp (by omega)))
                · refine ok_o2 (sp_X9_isThrown_ (1 : Int32) ) (fun r35_42 c_t_thrown_35_42 h173 => ?_)
                  have h173 : (r35_42.toInt = 0 ∧ c_t_thrown_35_42.toInt = 0 ∧ (1 : Int32).toInt = 0) ∨ (r35_42.toInt = 1 ∧ c_t_thrown_35_42.toInt = 1 ∧ (1 : Int32).toInt ≠ 0) := h173
                  refine ok_eq (fun c174 => ?_) (fun c174 => ?_)
                  · refine ok_o (fx_X9_primesOf p0 (by first | omega | assumption | trivial | exact wt_of (by assumption) (by omega)) (by first | omega | assumption | trivial | exact wt_of (by assumption) (by omega))) (fun r46_42 h175 => ?_)
                    have h175 : r46_42 = PRC p0 := h175
                    refine ok_s (show ((xc19_2 = 0 ∧ c_t_thrown_35_42.toInt = 0) ∨ (xc19_2 = 2 ∧ c_t_thrown_35_42.toInt = 1)) ∧ (xc19_2 = 0 → (0 : Int32) = r46_42) from ?_)
                    first | (exfalso; omega) | (refine ⟨?_, ?_⟩ <;> first | assumption | omega | rfl | (intro hx; first | (exfalso; omega) | rfl | assumption | exact Int32.toInt_inj.mp (by omega) | (subst_vars; first | rfl | exact Int32.toInt_inj.mp (by omega))) | exact Int32.toInt_inj.mp (by omega) | (subst_vars; first | rfl | assumption | omega | exact Int32.toInt_inj.mp (by omega)))
                  · refine ok_s (show ((xc19_2 = 0 ∧ c_t_thrown_35_42.toInt = 0) ∨ (xc19_2 = 2 ∧ c_t_thrown_35_42.toInt = 1)) ∧ (xc19_2 = 0 → (0 : Int32) = (0 : Int32)) from ?_)
                    first | (exfalso; omega) | (refine ⟨?_, ?_⟩ <;> first | assumption | omega | rfl | (intro hx; first | (exfalso; omega) | rfl | assumption | exact Int32.toInt_inj.mp (by omega) | (subst_vars; first | rfl | exact Int32.toInt_inj.mp (by omega))) | exact Int32.toInt_inj.mp (by omega) | (subst_vars; first | rfl | assumption | omega | exact Int32.toInt_inj.mp (by omega)))
  · refine ok_s ?_
    show ok (F_X9_primes p0 p1) (fun q => ((xc3 = 0 ∧ q.2.toInt = 0) ∨ (xc3 = 2 ∧ q.2.toInt = 1)) ∧ (xc3 = 0 → (0 : Int32) = q.1))
    unfold F_X9_primes
    refine ok_lt (fun c176 => ?_) (fun c176 => ?_)
    · refine ok_o2 (sp_X9_isThrown_ (1 : Int32) ) (fun r35_43 c_t_thrown_35_43 h177 => ?_)
      have h177 : (r35_43.toInt = 0 ∧ c_t_thrown_35_43.toInt = 0 ∧ (1 : Int32).toInt = 0) ∨ (r35_43.toInt = 1 ∧ c_t_thrown_35_43.toInt = 1 ∧ (1 : Int32).toInt ≠ 0) := h177
      refine ok_eq (fun c178 => ?_) (fun c178 => ?_)
      · refine ok_o (fx_X9_primesOf p0 (by first | omega | assumption | trivial | exact wt_of (by assumption) (by omega)) (by first | omega | assumption | trivial | exact wt_of (by assumption) (by omega))) (fun r46_43 h179 => ?_)
        have h179 : r46_43 = PRC p0 := h179
        refine ok_s (show ((xc3 = 0 ∧ c_t_thrown_35_43.toInt = 0) ∨ (xc3 = 2 ∧ c_t_thrown_35_43.toInt = 1)) ∧ (xc3 = 0 → (0 : Int32) = r46_43) from ?_)
        first | (exfalso; omega) | (refine ⟨?_, ?_⟩ <;> first | assumption | omega | rfl | (intro hx; first | (exfalso; omega) | rfl | assumption | exact Int32.toInt_inj.mp (by omega) | (subst_vars; first | rfl | exact Int32.toInt_inj.mp (by omega))) | exact Int32.toInt_inj.mp (by omega) | (subst_vars; first | rfl | assumption | omega | exact Int32.toInt_inj.mp (by omega)))
      · refine ok_s (show ((xc3 = 0 ∧ c_t_thrown_35_43.toInt = 0) ∨ (xc3 = 2 ∧ c_t_thrown_35_43.toInt = 1)) ∧ (xc3 = 0 → (0 : Int32) = (0 : Int32)) from ?_)
        first | (exfalso; omega) | (refine ⟨?_, ?_⟩ <;> first | assumption | omega | rfl | (intro hx; first | (exfalso; omega) | rfl | assumption | exact Int32.toInt_inj.mp (by omega) | (subst_vars; first | rfl | exact Int32.toInt_inj.mp (by omega))) | exact Int32.toInt_inj.mp (by omega) | (subst_vars; first | rfl | assumption | omega | exact Int32.toInt_inj.mp (by omega)))
    · refine ok_lt (fun c180 => ?_) (fun c180 => ?_)
      · refine ok_o2 (sp_X9_isThrown_ (1 : Int32) ) (fun r35_44 c_t_thrown_35_44 h181 => ?_)
        have h181 : (r35_44.toInt = 0 ∧ c_t_thrown_35_44.toInt = 0 ∧ (1 : Int32).toInt = 0) ∨ (r35_44.toInt = 1 ∧ c_t_thrown_35_44.toInt = 1 ∧ (1 : Int32).toInt ≠ 0) := h181
        refine ok_eq (fun c182 => ?_) (fun c182 => ?_)
        · refine ok_o (fx_X9_primesOf p0 (by first | omega | assumption | trivial | exact wt_of (by assumption) (by omega)) (by first | omega | assumption | trivial | exact wt_of (by assumption) (by omega))) (fun r46_44 h183 => ?_)
          have h183 : r46_44 = PRC p0 := h183
          refine ok_s (show ((xc3 = 0 ∧ c_t_thrown_35_44.toInt = 0) ∨ (xc3 = 2 ∧ c_t_thrown_35_44.toInt = 1)) ∧ (xc3 = 0 → (0 : Int32) = r46_44) from ?_)
          first | (exfalso; omega) | (refine ⟨?_, ?_⟩ <;> first | assumption | omega | rfl | (intro hx; first | (exfalso; omega) | rfl | assumption | exact Int32.toInt_inj.mp (by omega) | (subst_vars; first | rfl | exact Int32.toInt_inj.mp (by omega))) | exact Int32.toInt_inj.mp (by omega) | (subst_vars; first | rfl | assumption | omega | exact Int32.toInt_inj.mp (by omega)))
        · refine ok_s (show ((xc3 = 0 ∧ c_t_thrown_35_44.toInt = 0) ∨ (xc3 = 2 ∧ c_t_thrown_35_44.toInt = 1)) ∧ (xc3 = 0 → (0 : Int32) = (0 : Int32)) from ?_)
          first | (exfalso; omega) | (refine ⟨?_, ?_⟩ <;> first | assumption | omega | rfl | (intro hx; first | (exfalso; omega) | rfl | assumption | exact Int32.toInt_inj.mp (by omega) | (subst_vars; first | rfl | exact Int32.toInt_inj.mp (by omega))) | exact Int32.toInt_inj.mp (by omega) | (subst_vars; first | rfl | assumption | omega | exact Int32.toInt_inj.mp (by omega)))
      · refine ok_lt (fun c184 => ?_) (fun c184 => ?_)
        · refine ok_o2 (sp_X9_isThrown_ (1 : Int32) ) (fun r35_45 c_t_thrown_35_45 h185 => ?_)
          have h185 : (r35_45.toInt = 0 ∧ c_t_thrown_35_45.toInt = 0 ∧ (1 : Int32).toInt = 0) ∨ (r35_45.toInt = 1 ∧ c_t_thrown_35_45.toInt = 1 ∧ (1 : Int32).toInt ≠ 0) := h185
          refine ok_eq (fun c186 => ?_) (fun c186 => ?_)
          · refine ok_o (fx_X9_primesOf p0 (by first | omega | assumption | trivial | exact wt_of (by assumption) (by omega)) (by first | omega | assumption | trivial | exact wt_of (by assumption) (by omega))) (fun r46_45 h187 => ?_)
            have h187 : r46_45 = PRC p0 := h187
            refine ok_s (show ((xc3 = 0 ∧ c_t_thrown_35_45.toInt = 0) ∨ (xc3 = 2 ∧ c_t_thrown_35_45.toInt = 1)) ∧ (xc3 = 0 → (0 : Int32) = r46_45) from ?_)
            first | (exfalso; omega) | (refine ⟨?_, ?_⟩ <;> first | assumption | omega | rfl | (intro hx; first | (exfalso; omega) | rfl | assumption | exact Int32.toInt_inj.mp (by omega) | (subst_vars; first | rfl | exact Int32.toInt_inj.mp (by omega))) | exact Int32.toInt_inj.mp (by omega) | (subst_vars; first | rfl | assumption | omega | exact Int32.toInt_inj.mp (by omega)))
          · refine ok_s (show ((xc3 = 0 ∧ c_t_thrown_35_45.toInt = 0) ∨ (xc3 = 2 ∧ c_t_thrown_35_45.toInt = 1)) ∧ (xc3 = 0 → (0 : Int32) = (0 : Int32)) from ?_)
            first | (exfalso; omega) | (refine ⟨?_, ?_⟩ <;> first | assumption | omega | rfl | (intro hx; first | (exfalso; omega) | rfl | assumption | exact Int32.toInt_inj.mp (by omega) | (subst_vars; first | rfl | exact Int32.toInt_inj.mp (by omega))) | exact Int32.toInt_inj.mp (by omega) | (subst_vars; first | rfl | assumption | omega | exact Int32.toInt_inj.mp (by omega)))
        · refine ok_eq (fun c188 => ?_) (fun c188 => ?_)
          · refine ok_le (fun c189 => ?_) (fun c189 => ?_)
            · refine ok_o2 (sp_X9_isThrown_ (0 : Int32) ) (fun r35_46 c_t_thrown_35_46 h190 => ?_)
              have h190 : (r35_46.toInt = 0 ∧ c_t_thrown_35_46.toInt = 0 ∧ (0 : Int32).toInt = 0) ∨ (r35_46.toInt = 1 ∧ c_t_thrown_35_46.toInt = 1 ∧ (0 : Int32).toInt ≠ 0) := h190
              refine ok_eq (fun c191 => ?_) (fun c191 => ?_)
              · refine ok_o (fx_X9_primesOf p0 (by first | omega | assumption | trivial | exact wt_of (by assumption) (by omega)) (by first | omega | assumption | trivial | exact wt_of (by assumption) (by omega))) (fun r46_46 h192 => ?_)
                have h192 : r46_46 = PRC p0 := h192
                refine ok_s (show ((xc3 = 0 ∧ c_t_thrown_35_46.toInt = 0) ∨ (xc3 = 2 ∧ c_t_thrown_35_46.toInt = 1)) ∧ (xc3 = 0 → (0 : Int32) = r46_46) from ?_)
                first | (exfalso; omega) | (refine ⟨?_, ?_⟩ <;> first | assumption | omega | rfl | (intro hx; first | (exfalso; omega) | rfl | assumption | exact Int32.toInt_inj.mp (by omega) | (subst_vars; first | rfl | exact Int32.toInt_inj.mp (by omega))) | exact Int32.toInt_inj.mp (by omega) | (subst_vars; first | rfl | assumption | omega | exact Int32.toInt_inj.mp (by omega)))
              · refine ok_s (show ((xc3 = 0 ∧ c_t_thrown_35_46.toInt = 0) ∨ (xc3 = 2 ∧ c_t_thrown_35_46.toInt = 1)) ∧ (xc3 = 0 → (0 : Int32) = (0 : Int32)) from ?_)
                first | (exfalso; omega) | (refine ⟨?_, ?_⟩ <;> first | assumption | omega | rfl | (intro hx; first | (exfalso; omega) | rfl | assumption | exact Int32.toInt_inj.mp (by omega) | (subst_vars; first | rfl | exact Int32.toInt_inj.mp (by omega))) | exact Int32.toInt_inj.mp (by omega) | (subst_vars; first | rfl | assumption | omega | exact Int32.toInt_inj.mp (by omega)))
            · refine ok_o2 (sp_X9_isThrown_ (1 : Int32) ) (fun r35_47 c_t_thrown_35_47 h193 => ?_)
              have h193 : (r35_47.toInt = 0 ∧ c_t_thrown_35_47.toInt = 0 ∧ (1 : Int32).toInt = 0) ∨ (r35_47.toInt = 1 ∧ c_t_thrown_35_47.toInt = 1 ∧ (1 : Int32).toInt ≠ 0) := h193
              refine ok_eq (fun c194 => ?_) (fun c194 => ?_)
              · refine ok_o (fx_X9_primesOf p0 (by first | omega | assumption | trivial | exact wt_of (by assumption) (by omega)) (by first | omega | assumption | trivial | exact wt_of (by assumption) (by omega))) (fun r46_47 h195 => ?_)
                have h195 : r46_47 = PRC p0 := h195
                refine ok_s (show ((xc3 = 0 ∧ c_t_thrown_35_47.toInt = 0) ∨ (xc3 = 2 ∧ c_t_thrown_35_47.toInt = 1)) ∧ (xc3 = 0 → (0 : Int32) = r46_47) from ?_)
                first | (exfalso; omega) | (refine ⟨?_, ?_⟩ <;> first | assumption | omega | rfl | (intro hx; first | (exfalso; omega) | rfl | assumption | exact Int32.toInt_inj.mp (by omega) | (subst_vars; first | rfl | exact Int32.toInt_inj.mp (by omega))) | exact Int32.toInt_inj.mp (by omega) | (subst_vars; first | rfl | assumption | omega | exact Int32.toInt_inj.mp (by omega)))
              · refine ok_s (show ((xc3 = 0 ∧ c_t_thrown_35_47.toInt = 0) ∨ (xc3 = 2 ∧ c_t_thrown_35_47.toInt = 1)) ∧ (xc3 = 0 → (0 : Int32) = (0 : Int32)) from ?_)
                first | (exfalso; omega) | (refine ⟨?_, ?_⟩ <;> first | assumption | omega | rfl | (intro hx; first | (exfalso; omega) | rfl | assumption | exact Int32.toInt_inj.mp (by omega) | (subst_vars; first | rfl | exact Int32.toInt_inj.mp (by omega))) | exact Int32.toInt_inj.mp (by omega) | (subst_vars; first | rfl | assumption | omega | exact Int32.toInt_inj.mp (by omega)))
          · refine ok_le (fun c196 => ?_) (fun c196 => ?_)
            · refine ok_o2 (sp_X9_isThrown_ (0 : Int32) ) (fun r35_48 c_t_thrown_35_48 h197 => ?_)
              have h197 : (r35_48.toInt = 0 ∧ c_t_thrown_35_48.toInt = 0 ∧ (0 : Int32).toInt = 0) ∨ (r35_48.toInt = 1 ∧ c_t_thrown_35_48.toInt = 1 ∧ (0 : Int32).toInt ≠ 0) := h197
              refine ok_eq (fun c198 => ?_) (fun c198 => ?_)
              · refine ok_o (fx_X9_primesOf p0 (by first | omega | assumption | trivial | exact wt_of (by assumption) (by omega)) (by first | omega | assumption | trivial | exact wt_of (by assumption) (by omega))) (fun r46_48 h199 => ?_)
                have h199 : r46_48 = PRC p0 := h199
                refine ok_s (show ((xc3 = 0 ∧ c_t_thrown_35_48.toInt = 0) ∨ (xc3 = 2 ∧ c_t_thrown_35_48.toInt = 1)) ∧ (xc3 = 0 → (0 : Int32) = r46_48) from ?_)
                first | (exfalso; omega) | (refine ⟨?_, ?_⟩ <;> first | assumption | omega | rfl | (intro hx; first | (exfalso; omega) | rfl | assumption | exact Int32.toInt_inj.mp (by omega) | (subst_vars; first | rfl | exact Int32.toInt_inj.mp (by omega))) | exact Int32.toInt_inj.mp (by omega) | (subst_vars; first | rfl | assumption | omega | exact Int32.toInt_inj.mp (by omega)))
              · refine ok_s (show ((xc3 = 0 ∧ c_t_thrown_35_48.toInt = 0) ∨ (xc3 = 2 ∧ c_t_thrown_35_48.toInt = 1)) ∧ (xc3 = 0 → (0 : Int32) = (0 : Int32)) from ?_)
                first | (exfalso; omega) | (refine ⟨?_, ?_⟩ <;> first | assumption | omega | rfl | (intro hx; first | (exfalso; omega) | rfl | assumption | exact Int32.toInt_inj.mp (by omega) | (subst_vars; first | rfl | exact Int32.toInt_inj.mp (by omega))) | exact Int32.toInt_inj.mp (by omega) | (subst_vars; first | rfl | assumption | omega | exact Int32.toInt_inj.mp (by omega)))
            · refine ok_o2 (sp_X9_isThrown_ (1 : Int32) ) (fun r35_49 c_t_thrown_35_49 h200 => ?_)
              have h200 : (r35_49.toInt = 0 ∧ c_t_thrown_35_49.toInt = 0 ∧ (1 : Int32).toInt = 0) ∨ (r35_49.toInt = 1 ∧ c_t_thrown_35_49.toInt = 1 ∧ (1 : Int32).toInt ≠ 0) := h200
              refine ok_eq (fun c201 => ?_) (fun c201 => ?_)
              · refine ok_o (fx_X9_primesOf p0 (by first | omega | assumption | trivial | exact wt_of (by assumption) (by omega)) (by first | omega | assumption | trivial | exact wt_of (by assumption) (by omega))) (fun r46_49 h202 => ?_)
                have h202 : r46_49 = PRC p0 := h202
                refine ok_s (show ((xc3 = 0 ∧ c_t_thrown_35_49.toInt = 0) ∨ (xc3 = 2 ∧ c_t_thrown_35_49.toInt = 1)) ∧ (xc3 = 0 → (0 : Int32) = r46_49) from ?_)
                first | (exfalso; omega) | (refine ⟨?_, ?_⟩ <;> first | assumption | omega | rfl | (intro hx; first | (exfalso; omega) | rfl | assumption | exact Int32.toInt_inj.mp (by omega) | (subst_vars; first | rfl | exact Int32.toInt_inj.mp (by omega))) | exact Int32.toInt_inj.mp (by omega) | (subst_vars; first | rfl | assumption | omega | exact Int32.toInt_inj.mp (by omega)))
              · refine ok_s (show ((xc3 = 0 ∧ c_t_thrown_35_49.toInt = 0) ∨ (xc3 = 2 ∧ c_t_thrown_35_49.toInt = 1)) ∧ (xc3 = 0 → (0 : Int32) = (0 : Int32)) from ?_)
                first | (exfalso; omega) | (refine ⟨?_, ?_⟩ <;> first | assumption | omega | rfl | (intro hx; first | (exfalso; omega) | rfl | assumption | exact Int32.toInt_inj.mp (by omega) | (subst_vars; first | rfl | exact Int32.toInt_inj.mp (by omega))) | exact Int32.toInt_inj.mp (by omega) | (subst_vars; first | rfl | assumption | omega | exact Int32.toInt_inj.mp (by omega)))
set_option maxHeartbeats 1000000 in
theorem s7_prime (th : Int32) (p0 : Int32) (p1 : Int32)  : ok (F_X7_prime p0 p1) (fun r => ok (F_X9_prime th p0 p1) (fun q => ((r.1 = 0 ∧ q.2.toInt = 0) ∨ (r.1 = 2 ∧ q.2.toInt = 1)) ∧ (r.1 = 0 → r.2 = q.1))) := by
  have lm132 : (-1 : Int32).toInt = -1 := by decide
  have l032 : (0 : Int32).toInt = 0 := by decide
  have l132 : (1 : Int32).toInt = 1 := by decide
  have l164 : (1 : Int64).toInt = 1 := by decide
  have l264 : (2 : Int64).toInt = 2 := by decide
  have l632 : (6 : Int32).toInt = 6 := by decide
  have l932 : (9 : Int32).toInt = 9 := by decide
  unfold F_X7_prime
  refine ok_o (sp_X7_testRange p0 (1 : Int32) (6 : Int32) ) (fun xc4 h1 => ?_)
  have h1 : (xc4 = 0 ∧ (1 : Int32).toInt ≤ p0.toInt ∧ p0.toInt ≤ (6 : Int32).toInt) ∨ (xc4 = 2 ∧ (p0.toInt < (1 : Int32).toInt ∨ (6 : Int32).toInt < p0.toInt)) := h1
  refine ok_i (fun c2 => ?_) (fun c2 => ?_)
  · refine ok_o (sp_X7_testRange p1 (0 : Int32) (9 : Int32) ) (fun xc11 h3 => ?_)
    have h3 : (xc11 = 0 ∧ (0 : Int32).toInt ≤ p1.toInt ∧ p1.toInt ≤ (9 : Int32).toInt) ∨ (xc11 = 2 ∧ (p1.toInt < (0 : Int32).toInt ∨ (9 : Int32).toInt < p1.toInt)) := h3
    refine ok_i (fun c4 => ?_) (fun c4 => ?_)
    · refine ok_o (fx_X2_codeOf p0 p1 (by first | omega | assumption | trivial | exact wt_of (by assumption) (by omega)) (by first | omega | assumption | trivial | exact wt_of (by assumption) (by omega)) (by first | omega | assumption | trivial | exact wt_of (by assumption) (by omega)) (by first | omega | assumption | trivial | exact wt_of (by assumption) (by omega))) (fun r16 h5 => ?_)
      have h5 : r16 = PCD p0 p1 := h5
      refine ok_s ?_
      show ok (F_X9_prime th p0 p1) (fun q => ((0 = 0 ∧ q.2.toInt = 0) ∨ (0 = 2 ∧ q.2.toInt = 1)) ∧ (0 = 0 → r16 = q.1))
      unfold F_X9_prime
      refine ok_lt (fun c6 => ?_) (fun c6 => ?_)
      · first | unfold J_X9_prime_22 | skip
        first | unfold J_X9_prime_27 | skip
        refine ok_o2 (sp_X9_isThrown_ (1 : Int32) ) (fun r27 c_t_thrown_27 h7 => ?_)
        have h7 : (r27.toInt = 0 ∧ c_t_thrown_27.toInt = 0 ∧ (1 : Int32).toInt = 0) ∨ (r27.toInt = 1 ∧ c_t_thrown_27.toInt = 1 ∧ (1 : Int32).toInt ≠ 0) := h7
        refine ok_eq (fun c8 => ?_) (fun c8 => ?_)
        · refine ok_bx (fun x4_40 e_x4_40 => ?_)
          rw [e_x4_40]
          refine pc_loop _ _ p0 p1 (by omega) (by omega) (by omega) (by omega) (fun y4_42_68 hI9 => ?_) (fun _ hI10 => ?_)
          · refine ok_s (show ((0 = 0 ∧ c_t_thrown_27.toInt = 0) ∨ (0 = 2 ∧ c_t_thrown_27.toInt = 1)) ∧ (0 = 0 → r16 = y4_42_68.toInt32) from ?_)
            first | (exfalso; omega) | (refine ⟨?_, ?_⟩ <;> first | assumption | omega | rfl | (intro hx; first | (exfalso; omega) | rfl | assumption | exact Int32.toInt_inj.mp (by omega) | (subst_vars; first | rfl | exact Int32.toInt_inj.mp (by omega))) | exact Int32.toInt_inj.mp (by omega) | (subst_vars; first | rfl | assumption | omega | exact Int32.toInt_inj.mp (by omega)))
          · refine ok_s (show ((0 = 0 ∧ c_t_thrown_27.toInt = 0) ∨ (0 = 2 ∧ c_t_thrown_27.toInt = 1)) ∧ (0 = 0 → r16 = (-1 : Int32)) from ?_)
            first | (exfalso; omega) | (refine ⟨?_, ?_⟩ <;> first | assumption | omega | rfl | (intro hx; first | (exfalso; omega) | rfl | assumption | exact Int32.toInt_inj.mp (by omega) | (subst_vars; first | rfl | exact Int32.toInt_inj.mp (by omega))) | exact Int32.toInt_inj.mp (by omega) | (subst_vars; first | rfl | assumption | omega | exact Int32.toInt_inj.mp (by omega)))
        · refine ok_s (show ((0 = 0 ∧ c_t_thrown_27.toInt = 0) ∨ (0 = 2 ∧ c_t_thrown_27.toInt = 1)) ∧ (0 = 0 → r16 = (0 : Int32)) from ?_)
          first | (exfalso; omega) | (refine ⟨?_, ?_⟩ <;> first | assumption | omega | rfl | (intro hx; first | (exfalso; omega) | rfl | assumption | exact Int32.toInt_inj.mp (by omega) | (subst_vars; first | rfl | exact Int32.toInt_inj.mp (by omega))) | exact Int32.toInt_inj.mp (by omega) | (subst_vars; first | rfl | assumption | omega | exact Int32.toInt_inj.mp (by omega)))
      · refine ok_lt (fun c11 => ?_) (fun c11 => ?_)
        · first | unfold J_X9_prime_22 | skip
          first | unfold J_X9_prime_27 | skip
          refine ok_o2 (sp_X9_isThrown_ (1 : Int32) ) (fun r27_2 c_t_thrown_27_2 h12 => ?_)
          have h12 : (r27_2.toInt = 0 ∧ c_t_thrown_27_2.toInt = 0 ∧ (1 : Int32).toInt = 0) ∨ (r27_2.toInt = 1 ∧ c_t_thrown_27_2.toInt = 1 ∧ (1 : Int32).toInt ≠ 0) := h12
          refine ok_eq (fun c13 => ?_) (fun c13 => ?_)
          · refine ok_bx (fun x4_40_2 e_x4_40_2 => ?_)
            rw [e_x4_40_2]
            refine pc_loop _ _ p0 p1 (by omega) (by omega) (by omega) (by omega) (fun y4_42_68_2 hI14 => ?_) (fun _ hI15 => ?_)
            · refine ok_s (show ((0 = 0 ∧ c_t_thrown_27_2.toInt = 0) ∨ (0 = 2 ∧ c_t_thrown_27_2.toInt = 1)) ∧ (0 = 0 → r16 = y4_42_68_2.toInt32) from ?_)
              first | (exfalso; omega) | (refine ⟨?_, ?_⟩ <;> first | assumption | omega | rfl | (intro hx; first | (exfalso; omega) | rfl | assumption | exact Int32.toInt_inj.mp (by omega) | (subst_vars; first | rfl | exact Int32.toInt_inj.mp (by omega))) | exact Int32.toInt_inj.mp (by omega) | (subst_vars; first | rfl | assumption | omega | exact Int32.toInt_inj.mp (by omega)))
            · refine ok_s (show ((0 = 0 ∧ c_t_thrown_27_2.toInt = 0) ∨ (0 = 2 ∧ c_t_thrown_27_2.toInt = 1)) ∧ (0 = 0 → r16 = (-1 : Int32)) from ?_)
              first | (exfalso; omega) | (refine ⟨?_, ?_⟩ <;> first | assumption | omega | rfl | (intro hx; first | (exfalso; omega) | rfl | assumption | exact Int32.toInt_inj.mp (by omega) | (subst_vars; first | rfl | exact Int32.toInt_inj.mp (by omega))) | exact Int32.toInt_inj.mp (by omega) | (subst_vars; first | rfl | assumption | omega | exact Int32.toInt_inj.mp (by omega)))
          · refine ok_s (show ((0 = 0 ∧ c_t_thrown_27_2.toInt = 0) ∨ (0 = 2 ∧ c_t_thrown_27_2.toInt = 1)) ∧ (0 = 0 → r16 = (0 : Int32)) from ?_)
            first | (exfalso; omega) | (refine ⟨?_, ?_⟩ <;> first | assumption | omega | rfl | (intro hx; first | (exfalso; omega) | rfl | assumption | exact Int32.toInt_inj.mp (by omega) | (subst_vars; first | rfl | exact Int32.toInt_inj.mp (by omega))) | exact Int32.toInt_inj.mp (by omega) | (subst_vars; first | rfl | assumption | omega | exact Int32.toInt_inj.mp (by omega)))
        · refine ok_lt (fun c16 => ?_) (fun c16 => ?_)
          · first | unfold J_X9_prime_22 | skip
            first | unfold J_X9_prime_27 | skip
            refine ok_o2 (sp_X9_isThrown_ (1 : Int32) ) (fun r27_3 c_t_thrown_27_3 h17 => ?_)
            have h17 : (r27_3.toInt = 0 ∧ c_t_thrown_27_3.toInt = 0 ∧ (1 : Int32).toInt = 0) ∨ (r27_3.toInt = 1 ∧ c_t_thrown_27_3.toInt = 1 ∧ (1 : Int32).toInt ≠ 0) := h17
            refine ok_eq (fun c18 => ?_) (fun c18 => ?_)
            · refine ok_bx (fun x4_40_3 e_x4_40_3 => ?_)
              rw [e_x4_40_3]
              refine pc_loop _ _ p0 p1 (by omega) (by omega) (by omega) (by omega) (fun y4_42_68_3 hI19 => ?_) (fun _ hI20 => ?_)
              · refine ok_s (show ((0 = 0 ∧ c_t_thrown_27_3.toInt = 0) ∨ (0 = 2 ∧ c_t_thrown_27_3.toInt = 1)) ∧ (0 = 0 → r16 = y4_42_68_3.toInt32) from ?_)
                first | (exfalso; omega) | (refine ⟨?_, ?_⟩ <;> first | assumption | omega | rfl | (intro hx; first | (exfalso; omega) | rfl | assumption | exact Int32.toInt_inj.mp (by omega) | (subst_vars; first | rfl | exact Int32.toInt_inj.mp (by omega))) | exact Int32.toInt_inj.mp (by omega) | (subst_vars; first | rfl | assumption | omega | exact Int32.toInt_inj.mp (by omega)))
              · refine ok_s (show ((0 = 0 ∧ c_t_thrown_27_3.toInt = 0) ∨ (0 = 2 ∧ c_t_thrown_27_3.toInt = 1)) ∧ (0 = 0 → r16 = (-1 : Int32)) from ?_)
                first | (exfalso; omega) | (refine ⟨?_, ?_⟩ <;> first | assumption | omega | rfl | (intro hx; first | (exfalso; omega) | rfl | assumption | exact Int32.toInt_inj.mp (by omega) | (subst_vars; first | rfl | exact Int32.toInt_inj.mp (by omega))) | exact Int32.toInt_inj.mp (by omega) | (subst_vars; first | rfl | assumption | omega | exact Int32.toInt_inj.mp (by omega)))
            · refine ok_s (show ((0 = 0 ∧ c_t_thrown_27_3.toInt = 0) ∨ (0 = 2 ∧ c_t_thrown_27_3.toInt = 1)) ∧ (0 = 0 → r16 = (0 : Int32)) from ?_)
              first | (exfalso; omega) | (refine ⟨?_, ?_⟩ <;> first | assumption | omega | rfl | (intro hx; first | (exfalso; omega) | rfl | assumption | exact Int32.toInt_inj.mp (by omega) | (subst_vars; first | rfl | exact Int32.toInt_inj.mp (by omega))) | exact Int32.toInt_inj.mp (by omega) | (subst_vars; first | rfl | assumption | omega | exact Int32.toInt_inj.mp (by omega)))
          · refine ok_le (fun c21 => ?_) (fun c21 => ?_)
            · first | unfold J_X9_prime_27 | skip
              refine ok_o2 (sp_X9_isThrown_ (0 : Int32) ) (fun r27_4 c_t_thrown_27_4 h22 => ?_)
              have h22 : (r27_4.toInt = 0 ∧ c_t_thrown_27_4.toInt = 0 ∧ (0 : Int32).toInt = 0) ∨ (r27_4.toInt = 1 ∧ c_t_thrown_27_4.toInt = 1 ∧ (0 : Int32).toInt ≠ 0) := h22
              refine ok_eq (fun c23 => ?_) (fun c23 => ?_)
              · refine ok_bx (fun x4_40_4 e_x4_40_4 => ?_)
                rw [e_x4_40_4]
                refine pc_loop _ _ p0 p1 (by omega) (by omega) (by omega) (by omega) (fun y4_42_68_4 hI24 => ?_) (fun _ hI25 => ?_)
                · refine ok_s (show ((0 = 0 ∧ c_t_thrown_27_4.toInt = 0) ∨ (0 = 2 ∧ c_t_thrown_27_4.toInt = 1)) ∧ (0 = 0 → r16 = y4_42_68_4.toInt32) from ?_)
                  first | (exfalso; omega) | (refine ⟨?_, ?_⟩ <;> first | assumption | omega | rfl | (intro hx; first | (exfalso; omega) | rfl | assumption | exact Int32.toInt_inj.mp (by omega) | (subst_vars; first | rfl | exact Int32.toInt_inj.mp (by omega))) | exact Int32.toInt_inj.mp (by omega) | (subst_vars; first | rfl | assumption | omega | exact Int32.toInt_inj.mp (by omega)))
                · refine ok_s (show ((0 = 0 ∧ c_t_thrown_27_4.toInt = 0) ∨ (0 = 2 ∧ c_t_thrown_27_4.toInt = 1)) ∧ (0 = 0 → r16 = (-1 : Int32)) from ?_)
                  first | (exfalso; omega) | (refine ⟨?_, ?_⟩ <;> first | assumption | omega | rfl | (intro hx; first | (exfalso; omega) | rfl | assumption | exact Int32.toInt_inj.mp (by omega) | (subst_vars; first | rfl | exact Int32.toInt_inj.mp (by omega))) | exact Int32.toInt_inj.mp (by omega) | (subst_vars; first | rfl | assumption | omega | exact Int32.toInt_inj.mp (by omega)))
              · refine ok_s (show ((0 = 0 ∧ c_t_thrown_27_4.toInt = 0) ∨ (0 = 2 ∧ c_t_thrown_27_4.toInt = 1)) ∧ (0 = 0 → r16 = (0 : Int32)) from ?_)
                first | (exfalso; omega) | (refine ⟨?_, ?_⟩ <;> first | assumption | omega | rfl | (intro hx; first | (exfalso; omega) | rfl | assumption | exact Int32.toInt_inj.mp (by omega) | (subst_vars; first | rfl | exact Int32.toInt_inj.mp (by omega))) | exact Int32.toInt_inj.mp (by omega) | (subst_vars; first | rfl | assumption | omega | exact Int32.toInt_inj.mp (by omega)))
            · first | unfold J_X9_prime_22 | skip
              first | unfold J_X9_prime_27 | skip
              refine ok_o2 (sp_X9_isThrown_ (1 : Int32) ) (fun r27_5 c_t_thrown_27_5 h26 => ?_)
              have h26 : (r27_5.toInt = 0 ∧ c_t_thrown_27_5.toInt = 0 ∧ (1 : Int32).toInt = 0) ∨ (r27_5.toInt = 1 ∧ c_t_thrown_27_5.toInt = 1 ∧ (1 : Int32).toInt ≠ 0) := h26
              refine ok_eq (fun c27 => ?_) (fun c27 => ?_)
              · refine ok_bx (fun x4_40_5 e_x4_40_5 => ?_)
                rw [e_x4_40_5]
                refine pc_loop _ _ p0 p1 (by omega) (by omega) (by omega) (by omega) (fun y4_42_68_5 hI28 => ?_) (fun _ hI29 => ?_)
                · refine ok_s (show ((0 = 0 ∧ c_t_thrown_27_5.toInt = 0) ∨ (0 = 2 ∧ c_t_thrown_27_5.toInt = 1)) ∧ (0 = 0 → r16 = y4_42_68_5.toInt32) from ?_)
                  first | (exfalso; omega) | (refine ⟨?_, ?_⟩ <;> first | assumption | omega | rfl | (intro hx; first | (exfalso; omega) | rfl | assumption | exact Int32.toInt_inj.mp (by omega) | (subst_vars; first | rfl | exact Int32.toInt_inj.mp (by omega))) | exact Int32.toInt_inj.mp (by omega) | (subst_vars; first | rfl | assumption | omega | exact Int32.toInt_inj.mp (by omega)))
                · refine ok_s (show ((0 = 0 ∧ c_t_thrown_27_5.toInt = 0) ∨ (0 = 2 ∧ c_t_thrown_27_5.toInt = 1)) ∧ (0 = 0 → r16 = (-1 : Int32)) from ?_)
                  first | (exfalso; omega) | (refine ⟨?_, ?_⟩ <;> first | assumption | omega | rfl | (intro hx; first | (exfalso; omega) | rfl | assumption | exact Int32.toInt_inj.mp (by omega) | (subst_vars; first | rfl | exact Int32.toInt_inj.mp (by omega))) | exact Int32.toInt_inj.mp (by omega) | (subst_vars; first | rfl | assumption | omega | exact Int32.toInt_inj.mp (by omega)))
              · refine ok_s (show ((0 = 0 ∧ c_t_thrown_27_5.toInt = 0) ∨ (0 = 2 ∧ c_t_thrown_27_5.toInt = 1)) ∧ (0 = 0 → r16 = (0 : Int32)) from ?_)
                first | (exfalso; omega) | (refine ⟨?_, ?_⟩ <;> first | assumption | omega | rfl | (intro hx; first | (exfalso; omega) | rfl | assumption | exact Int32.toInt_inj.mp (by omega) | (subst_vars; first | rfl | exact Int32.toInt_inj.mp (by omega))) | exact Int32.toInt_inj.mp (by omega) | (subst_vars; first | rfl | assumption | omega | exact Int32.toInt_inj.mp (by omega)))
    · refine ok_s ?_
      show ok (F_X9_prime th p0 p1) (fun q => ((xc11 = 0 ∧ q.2.toInt = 0) ∨ (xc11 = 2 ∧ q.2.toInt = 1)) ∧ (xc11 = 0 → (0 : Int32) = q.1))
      unfold F_X9_prime
      refine ok_lt (fun c30 => ?_) (fun c30 => ?_)
      · first | unfold J_X9_prime_22 | skip
        first | unfold J_X9_prime_27 | skip
        refine ok_o2 (sp_X9_isThrown_ (1 : Int32) ) (fun r27_6 c_t_thrown_27_6 h31 => ?_)
        have h31 : (r27_6.toInt = 0 ∧ c_t_thrown_27_6.toInt = 0 ∧ (1 : Int32).toInt = 0) ∨ (r27_6.toInt = 1 ∧ c_t_thrown_27_6.toInt = 1 ∧ (1 : Int32).toInt ≠ 0) := h31
        refine ok_eq (fun c32 => ?_) (fun c32 => ?_)
        · refine ok_bx (fun x4_40_6 e_x4_40_6 => ?_)
          rw [e_x4_40_6]
          refine pc_loop _ _ p0 p1 (by omega) (by omega) (by omega) (by omega) (fun y4_42_68_6 hI33 => ?_) (fun _ hI34 => ?_)
          · refine ok_s (show ((xc11 = 0 ∧ c_t_thrown_27_6.toInt = 0) ∨ (xc11 = 2 ∧ c_t_thrown_27_6.toInt = 1)) ∧ (xc11 = 0 → (0 : Int32) = y4_42_68_6.toInt32) from ?_)
            first | (exfalso; omega) | (refine ⟨?_, ?_⟩ <;> first | assumption | omega | rfl | (intro hx; first | (exfalso; omega) | rfl | assumption | exact Int32.toInt_inj.mp (by omega) | (subst_vars; first | rfl | exact Int32.toInt_inj.mp (by omega))) | exact Int32.toInt_inj.mp (by omega) | (subst_vars; first | rfl | assumption | omega | exact Int32.toInt_inj.mp (by omega)))
          · refine ok_s (show ((xc11 = 0 ∧ c_t_thrown_27_6.toInt = 0) ∨ (xc11 = 2 ∧ c_t_thrown_27_6.toInt = 1)) ∧ (xc11 = 0 → (0 : Int32) = (-1 : Int32)) from ?_)
            first | (exfalso; omega) | (refine ⟨?_, ?_⟩ <;> first | assumption | omega | rfl | (intro hx; first | (exfalso; omega) | rfl | assumption | exact Int32.toInt_inj.mp (by omega) | (subst_vars; first | rfl | exact Int32.toInt_inj.mp (by omega))) | exact Int32.toInt_inj.mp (by omega) | (subst_vars; first | rfl | assumption | omega | exact Int32.toInt_inj.mp (by omega)))
        · refine ok_s (show ((xc11 = 0 ∧ c_t_thrown_27_6.toInt = 0) ∨ (xc11 = 2 ∧ c_t_thrown_27_6.toInt = 1)) ∧ (xc11 = 0 → (0 : Int32) = (0 : Int32)) from ?_)
          first | (exfalso; omega) | (refine ⟨?_, ?_⟩ <;> first | assumption | omega | rfl | (intro hx; first | (exfalso; omega) | rfl | assumption | exact Int32.toInt_inj.mp (by omega) | (subst_vars; first | rfl | exact Int32.toInt_inj.mp (by omega))) | exact Int32.toInt_inj.mp (by omega) | (subst_vars; first | rfl | assumption | omega | exact Int32.toInt_inj.mp (by omega)))
      · refine ok_lt (fun c35 => ?_) (fun c35 => ?_)
        · first | unfold J_X9_prime_22 | skip
          first | unfold J_X9_prime_27 | skip
          refine ok_o2 (sp_X9_isThrown_ (1 : Int32) ) (fun r27_7 c_t_thrown_27_7 h36 => ?_)
          have h36 : (r27_7.toInt = 0 ∧ c_t_thrown_27_7.toInt = 0 ∧ (1 : Int32).toInt = 0) ∨ (r27_7.toInt = 1 ∧ c_t_thrown_27_7.toInt = 1 ∧ (1 : Int32).toInt ≠ 0) := h36
          refine ok_eq (fun c37 => ?_) (fun c37 => ?_)
          · refine ok_bx (fun x4_40_7 e_x4_40_7 => ?_)
            rw [e_x4_40_7]
            refine pc_loop _ _ p0 p1 (by omega) (by omega) (by omega) (by omega) (fun y4_42_68_7 hI38 => ?_) (fun _ hI39 => ?_)
            · refine ok_s (show ((xc11 = 0 ∧ c_t_thrown_27_7.toInt = 0) ∨ (xc11 = 2 ∧ c_t_thrown_27_7.toInt = 1)) ∧ (xc11 = 0 → (0 : Int32) = y4_42_68_7.toInt32) from ?_)
              first | (exfalso; omega) | (refine ⟨?_, ?_⟩ <;> first | assumption | omega | rfl | (intro hx; first | (exfalso; omega) | rfl | assumption | exact Int32.toInt_inj.mp (by omega) | (subst_vars; first | rfl | exact Int32.toInt_inj.mp (by omega))) | exact Int32.toInt_inj.mp (by omega) | (subst_vars; first | rfl | assumption | omega | exact Int32.toInt_inj.mp (by omega)))
            · refine ok_s (show ((xc11 = 0 ∧ c_t_thrown_27_7.toInt = 0) ∨ (xc11 = 2 ∧ c_t_thrown_27_7.toInt = 1)) ∧ (xc11 = 0 → (0 : Int32) = (-1 : Int32)) from ?_)
              first | (exfalso; omega) | (refine ⟨?_, ?_⟩ <;> first | assumption | omega | rfl | (intro hx; first | (exfalso; omega) | rfl | assumption | exact Int32.toInt_inj.mp (by omega) | (subst_vars; first | rfl | exact Int32.toInt_inj.mp (by omega))) | exact Int32.toInt_inj.mp (by omega) | (subst_vars; first | rfl | assumption | omega | exact Int32.toInt_inj.mp (by omega)))
          · refine ok_s (show ((xc11 = 0 ∧ c_t_thrown_27_7.toInt = 0) ∨ (xc11 = 2 ∧ c_t_thrown_27_7.toInt = 1)) ∧ (xc11 = 0 → (0 : Int32) = (0 : Int32)) from ?_)
            first | (exfalso; omega) | (refine ⟨?_, ?_⟩ <;> first | assumption | omega | rfl | (intro hx; first | (exfalso; omega) | rfl | assumption | exact Int32.toInt_inj.mp (by omega) | (subst_vars; first | rfl | exact Int32.toInt_inj.mp (by omega))) | exact Int32.toInt_inj.mp (by omega) | (subst_vars; first | rfl | assumption | omega | exact Int32.toInt_inj.mp (by omega)))
        · refine ok_lt (fun c40 => ?_) (fun c40 => ?_)
          · first | unfold J_X9_prime_22 | skip
            first | unfold J_X9_prime_27 | skip
            refine ok_o2 (sp_X9_isThrown_ (1 : Int32) ) (fun r27_8 c_t_thrown_27_8 h41 => ?_)
            have h41 : (r27_8.toInt = 0 ∧ c_t_thrown_27_8.toInt = 0 ∧ (1 : Int32).toInt = 0) ∨ (r27_8.toInt = 1 ∧ c_t_thrown_27_8.toInt = 1 ∧ (1 : Int32).toInt ≠ 0) := h41
            refine ok_eq (fun c42 => ?_) (fun c42 => ?_)
            · refine ok_bx (fun x4_40_8 e_x4_40_8 => ?_)
              rw [e_x4_40_8]
              refine pc_loop _ _ p0 p1 (by omega) (by omega) (by omega) (by omega) (fun y4_42_68_8 hI43 => ?_) (fun _ hI44 => ?_)
              · refine ok_s (show ((xc11 = 0 ∧ c_t_thrown_27_8.toInt = 0) ∨ (xc11 = 2 ∧ c_t_thrown_27_8.toInt = 1)) ∧ (xc11 = 0 → (0 : Int32) = y4_42_68_8.toInt32) from ?_)
                first | (exfalso; omega) | (refine ⟨?_, ?_⟩ <;> first | assumption | omega | rfl | (intro hx; first | (exfalso; omega) | rfl | assumption | exact Int32.toInt_inj.mp (by omega) | (subst_vars; first | rfl | exact Int32.toInt_inj.mp (by omega))) | exact Int32.toInt_inj.mp (by omega) | (subst_vars; first | rfl | assumption | omega | exact Int32.toInt_inj.mp (by omega)))
              · refine ok_s (show ((xc11 = 0 ∧ c_t_thrown_27_8.toInt = 0) ∨ (xc11 = 2 ∧ c_t_thrown_27_8.toInt = 1)) ∧ (xc11 = 0 → (0 : Int32) = (-1 : Int32)) from ?_)
                first | (exfalso; omega) | (refine ⟨?_, ?_⟩ <;> first | assumption | omega | rfl | (intro hx; first | (exfalso; omega) | rfl | assumption | exact Int32.toInt_inj.mp (by omega) | (subst_vars; first | rfl | exact Int32.toInt_inj.mp (by omega))) | exact Int32.toInt_inj.mp (by omega) | (subst_vars; first | rfl | assumption | omega | exact Int32.toInt_inj.mp (by omega)))
            · refine ok_s (show ((xc11 = 0 ∧ c_t_thrown_27_8.toInt = 0) ∨ (xc11 = 2 ∧ c_t_thrown_27_8.toInt = 1)) ∧ (xc11 = 0 → (0 : Int32) = (0 : Int32)) from ?_)
              first | (exfalso; omega) | (refine ⟨?_, ?_⟩ <;> first | assumption | omega | rfl | (intro hx; first | (exfalso; omega) | rfl | assumption | exact Int32.toInt_inj.mp (by omega) | (subst_vars; first | rfl | exact Int32.toInt_inj.mp (by omega))) | exact Int32.toInt_inj.mp (by omega) | (subst_vars; first | rfl | assumption | omega | exact Int32.toInt_inj.mp (by omega)))
          · refine ok_le (fun c45 => ?_) (fun c45 => ?_)
            · first | unfold J_X9_prime_27 | skip
              refine ok_o2 (sp_X9_isThrown_ (0 : Int32) ) (fun r27_9 c_t_thrown_27_9 h46 => ?_)
              have h46 : (r27_9.toInt = 0 ∧ c_t_thrown_27_9.toInt = 0 ∧ (0 : Int32).toInt = 0) ∨ (r27_9.toInt = 1 ∧ c_t_thrown_27_9.toInt = 1 ∧ (0 : Int32).toInt ≠ 0) := h46
              refine ok_eq (fun c47 => ?_) (fun c47 => ?_)
              · refine ok_bx (fun x4_40_9 e_x4_40_9 => ?_)
                rw [e_x4_40_9]
                refine pc_loop _ _ p0 p1 (by omega) (by omega) (by omega) (by omega) (fun y4_42_68_9 hI48 => ?_) (fun _ hI49 => ?_)
                · refine ok_s (show ((xc11 = 0 ∧ c_t_thrown_27_9.toInt = 0) ∨ (xc11 = 2 ∧ c_t_thrown_27_9.toInt = 1)) ∧ (xc11 = 0 → (0 : Int32) = y4_42_68_9.toInt32) from ?_)
                  first | (exfalso; omega) | (refine ⟨?_, ?_⟩ <;> first | assumption | omega | rfl | (intro hx; first | (exfalso; omega) | rfl | assumption | exact Int32.toInt_inj.mp (by omega) | (subst_vars; first | rfl | exact Int32.toInt_inj.mp (by omega))) | exact Int32.toInt_inj.mp (by omega) | (subst_vars; first | rfl | assumption | omega | exact Int32.toInt_inj.mp (by omega)))
                · refine ok_s (show ((xc11 = 0 ∧ c_t_thrown_27_9.toInt = 0) ∨ (xc11 = 2 ∧ c_t_thrown_27_9.toInt = 1)) ∧ (xc11 = 0 → (0 : Int32) = (-1 : Int32)) from ?_)
                  first | (exfalso; omega) | (refine ⟨?_, ?_⟩ <;> first | assumption | omega | rfl | (intro hx; first | (exfalso; omega) | rfl | assumption | exact Int32.toInt_inj.mp (by omega) | (subst_vars; first | rfl | exact Int32.toInt_inj.mp (by omega))) | exact Int32.toInt_inj.mp (by omega) | (subst_vars; first | rfl | assumption | omega | exact Int32.toInt_inj.mp (by omega)))
              · refine ok_s (show ((xc11 = 0 ∧ c_t_thrown_27_9.toInt = 0) ∨ (xc11 = 2 ∧ c_t_thrown_27_9.toInt = 1)) ∧ (xc11 = 0 → (0 : Int32) = (0 : Int32)) from ?_)
                first | (exfalso; omega) | (refine ⟨?_, ?_⟩ <;> first | assumption | omega | rfl | (intro hx; first | (exfalso; omega) | rfl | assumption | exact Int32.toInt_inj.mp (by omega) | (subst_vars; first | rfl | exact Int32.toInt_inj.mp (by omega))) | exact Int32.toInt_inj.mp (by omega) | (subst_vars; first | rfl | assumption | omega | exact Int32.toInt_inj.mp (by omega)))
            · first | unfold J_X9_prime_22 | skip
              first | unfold J_X9_prime_27 | skip
              refine ok_o2 (sp_X9_isThrown_ (1 : Int32) ) (fun r27_10 c_t_thrown_27_10 h50 => ?_)
              have h50 : (r27_10.toInt = 0 ∧ c_t_thrown_27_10.toInt = 0 ∧ (1 : Int32).toInt = 0) ∨ (r27_10.toInt = 1 ∧ c_t_thrown_27_10.toInt = 1 ∧ (1 : Int32).toInt ≠ 0) := h50
              refine ok_eq (fun c51 => ?_) (fun c51 => ?_)
              · refine ok_bx (fun x4_40_10 e_x4_40_10 => ?_)
                rw [e_x4_40_10]
                refine pc_loop _ _ p0 p1 (by omega) (by omega) (by omega) (by omega) (fun y4_42_68_10 hI52 => ?_) (fun _ hI53 => ?_)
                · refine ok_s (show ((xc11 = 0 ∧ c_t_thrown_27_10.toInt = 0) ∨ (xc11 = 2 ∧ c_t_thrown_27_10.toInt = 1)) ∧ (xc11 = 0 → (0 : Int32) = y4_42_68_10.toInt32) from ?_)
                  first | (exfalso; omega) | (refine ⟨?_, ?_⟩ <;> first | assumption | omega | rfl | (intro hx; first | (exfalso; omega) | rfl | assumption | exact Int32.toInt_inj.mp (by omega) | (subst_vars; first | rfl | exact Int32.toInt_inj.mp (by omega))) | exact Int32.toInt_inj.mp (by omega) | (subst_vars; first | rfl | assumption | omega | exact Int32.toInt_inj.mp (by omega)))
                · refine ok_s (show ((xc11 = 0 ∧ c_t_thrown_27_10.toInt = 0) ∨ (xc11 = 2 ∧ c_t_thrown_27_10.toInt = 1)) ∧ (xc11 = 0 → (0 : Int32) = (-1 : Int32)) from ?_)
                  first | (exfalso; omega) | (refine ⟨?_, ?_⟩ <;> first | assumption | omega | rfl | (intro hx; first | (exfalso; omega) | rfl | assumption | exact Int32.toInt_inj.mp (by omega) | (subst_vars; first | rfl | exact Int32.toInt_inj.mp (by omega))) | exact Int32.toInt_inj.mp (by omega) | (subst_vars; first | rfl | assumption | omega | exact Int32.toInt_inj.mp (by omega)))
              · refine ok_s (show ((xc11 = 0 ∧ c_t_thrown_27_10.toInt = 0) ∨ (xc11 = 2 ∧ c_t_thrown_27_10.toInt = 1)) ∧ (xc11 = 0 → (0 : Int32) = (0 : Int32)) from ?_)
                first | (exfalso; omega) | (refine ⟨?_, ?_⟩ <;> first | assumption | omega | rfl | (intro hx; first | (exfalso; omega) | rfl | assumption | exact Int32.toInt_inj.mp (by omega) | (subst_vars; first | rfl | exact Int32.toInt_inj.mp (by omega))) | exact Int32.toInt_inj.mp (by omega) | (subst_vars; first | rfl | assumption | omega | exact Int32.toInt_inj.mp (by omega)))
  · refine ok_s ?_
    show ok (F_X9_prime th p0 p1) (fun q => ((xc4 = 0 ∧ q.2.toInt = 0) ∨ (xc4 = 2 ∧ q.2.toInt = 1)) ∧ (xc4 = 0 → (0 : Int32) = q.1))
    unfold F_X9_prime
    refine ok_lt (fun c54 => ?_) (fun c54 => ?_)
    · first | unfold J_X9_prime_22 | skip
      first | unfold J_X9_prime_27 | skip
      refine ok_o2 (sp_X9_isThrown_ (1 : Int32) ) (fun r27_11 c_t_thrown_27_11 h55 => ?_)
      have h55 : (r27_11.toInt = 0 ∧ c_t_thrown_27_11.toInt = 0 ∧ (1 : Int32).toInt = 0) ∨ (r27_11.toInt = 1 ∧ c_t_thrown_27_11.toInt = 1 ∧ (1 : Int32).toInt ≠ 0) := h55
      refine ok_eq (fun c56 => ?_) (fun c56 => ?_)
      · refine ok_bx (fun x4_40_11 e_x4_40_11 => ?_)
        rw [e_x4_40_11]
        refine pc_loop _ _ p0 p1 (by omega) (by omega) (by omega) (by omega) (fun y4_42_68_11 hI57 => ?_) (fun _ hI58 => ?_)
        · refine ok_s (show ((xc4 = 0 ∧ c_t_thrown_27_11.toInt = 0) ∨ (xc4 = 2 ∧ c_t_thrown_27_11.toInt = 1)) ∧ (xc4 = 0 → (0 : Int32) = y4_42_68_11.toInt32) from ?_)
          first | (exfalso; omega) | (refine ⟨?_, ?_⟩ <;> first | assumption | omega | rfl | (intro hx; first | (exfalso; omega) | rfl | assumption | exact Int32.toInt_inj.mp (by omega) | (subst_vars; first | rfl | exact Int32.toInt_inj.mp (by omega))) | exact Int32.toInt_inj.mp (by omega) | (subst_vars; first | rfl | assumption | omega | exact Int32.toInt_inj.mp (by omega)))
        · refine ok_s (show ((xc4 = 0 ∧ c_t_thrown_27_11.toInt = 0) ∨ (xc4 = 2 ∧ c_t_thrown_27_11.toInt = 1)) ∧ (xc4 = 0 → (0 : Int32) = (-1 : Int32)) from ?_)
          first | (exfalso; omega) | (refine ⟨?_, ?_⟩ <;> first | assumption | omega | rfl | (intro hx; first | (exfalso; omega) | rfl | assumption | exact Int32.toInt_inj.mp (by omega) | (subst_vars; first | rfl | exact Int32.toInt_inj.mp (by omega))) | exact Int32.toInt_inj.mp (by omega) | (subst_vars; first | rfl | assumption | omega | exact Int32.toInt_inj.mp (by omega)))
      · refine ok_s (show ((xc4 = 0 ∧ c_t_thrown_27_11.toInt = 0) ∨ (xc4 = 2 ∧ c_t_thrown_27_11.toInt = 1)) ∧ (xc4 = 0 → (0 : Int32) = (0 : Int32)) from ?_)
        first | (exfalso; omega) | (refine ⟨?_, ?_⟩ <;> first | assumption | omega | rfl | (intro hx; first | (exfalso; omega) | rfl | assumption | exact Int32.toInt_inj.mp (by omega) | (subst_vars; first | rfl | exact Int32.toInt_inj.mp (by omega))) | exact Int32.toInt_inj.mp (by omega) | (subst_vars; first | rfl | assumption | omega | exact Int32.toInt_inj.mp (by omega)))
    · refine ok_lt (fun c59 => ?_) (fun c59 => ?_)
      · first | unfold J_X9_prime_22 | skip
        first | unfold J_X9_prime_27 | skip
        refine ok_o2 (sp_X9_isThrown_ (1 : Int32) ) (fun r27_12 c_t_thrown_27_12 h60 => ?_)
        have h60 : (r27_12.toInt = 0 ∧ c_t_thrown_27_12.toInt = 0 ∧ (1 : Int32).toInt = 0) ∨ (r27_12.toInt = 1 ∧ c_t_thrown_27_12.toInt = 1 ∧ (1 : Int32).toInt ≠ 0) := h60
        refine ok_eq (fun c61 => ?_) (fun c61 => ?_)
        · refine ok_bx (fun x4_40_12 e_x4_40_12 => ?_)
          rw [e_x4_40_12]
          refine pc_loop _ _ p0 p1 (by omega) (by omega) (by omega) (by omega) (fun y4_42_68_12 hI62 => ?_) (fun _ hI63 => ?_)
          · refine ok_s (show ((xc4 = 0 ∧ c_t_thrown_27_12.toInt = 0) ∨ (xc4 = 2 ∧ c_t_thrown_27_12.toInt = 1)) ∧ (xc4 = 0 → (0 : Int32) = y4_42_68_12.toInt32) from ?_)
            first | (exfalso; omega) | (refine ⟨?_, ?_⟩ <;> first | assumption | omega | rfl | (intro hx; first | (exfalso; omega) | rfl | assumption | exact Int32.toInt_inj.mp (by omega) | (subst_vars; first | rfl | exact Int32.toInt_inj.mp (by omega))) | exact Int32.toInt_inj.mp (by omega) | (subst_vars; first | rfl | assumption | omega | exact Int32.toInt_inj.mp (by omega)))
          · refine ok_s (show ((xc4 = 0 ∧ c_t_thrown_27_12.toInt = 0) ∨ (xc4 = 2 ∧ c_t_thrown_27_12.toInt = 1)) ∧ (xc4 = 0 → (0 : Int32) = (-1 : Int32)) from ?_)
            first | (exfalso; omega) | (refine ⟨?_, ?_⟩ <;> first | assumption | omega | rfl | (intro hx; first | (exfalso; omega) | rfl | assumption | exact Int32.toInt_inj.mp (by omega) | (subst_vars; first | rfl | exact Int32.toInt_inj.mp (by omega))) | exact Int32.toInt_inj.mp (by omega) | (subst_vars; first | rfl | assumption | omega | exact Int32.toInt_inj.mp (by omega)))
        · refine ok_s (show ((xc4 = 0 ∧ c_t_thrown_27_12.toInt = 0) ∨ (xc4 = 2 ∧ c_t_thrown_27_12.toInt = 1)) ∧ (xc4 = 0 → (0 : Int32) = (0 : Int32)) from ?_)
          first | (exfalso; omega) | (refine ⟨?_, ?_⟩ <;> first | assumption | omega | rfl | (intro hx; first | (exfalso; omega) | rfl | assumption | exact Int32.toInt_inj.mp (by omega) | (subst_vars; first | rfl | exact Int32.toInt_inj.mp (by omega))) | exact Int32.toInt_inj.mp (by omega) | (subst_vars; first | rfl | assumption | omega | exact Int32.toInt_inj.mp (by omega)))
      · refine ok_lt (fun c64 => ?_) (fun c64 => ?_)
        · first | unfold J_X9_prime_22 | skip
          first | unfold J_X9_prime_27 | skip
          refine ok_o2 (sp_X9_isThrown_ (1 : Int32) ) (fun r27_13 c_t_thrown_27_13 h65 => ?_)
          have h65 : (r27_13.toInt = 0 ∧ c_t_thrown_27_13.toInt = 0 ∧ (1 : Int32).toInt = 0) ∨ (r27_13.toInt = 1 ∧ c_t_thrown_27_13.toInt = 1 ∧ (1 : Int32).toInt ≠ 0) := h65
          refine ok_eq (fun c66 => ?_) (fun c66 => ?_)
          · refine ok_bx (fun x4_40_13 e_x4_40_13 => ?_)
            rw [e_x4_40_13]
            refine pc_loop _ _ p0 p1 (by omega) (by omega) (by omega) (by omega) (fun y4_42_68_13 hI67 => ?_) (fun _ hI68 => ?_)
            · refine ok_s (show ((xc4 = 0 ∧ c_t_thrown_27_13.toInt = 0) ∨ (xc4 = 2 ∧ c_t_thrown_27_13.toInt = 1)) ∧ (xc4 = 0 → (0 : Int32) = y4_42_68_13.toInt32) from ?_)
              first | (exfalso; omega) | (refine ⟨?_, ?_⟩ <;> first | assumption | omega | rfl | (intro hx; first | (exfalso; omega) | rfl | assumption | exact Int32.toInt_inj.mp (by omega) | (subst_vars; first | rfl | exact Int32.toInt_inj.mp (by omega))) | exact Int32.toInt_inj.mp (by omega) | (subst_vars; first | rfl | assumption | omega | exact Int32.toInt_inj.mp (by omega)))
            · refine ok_s (show ((xc4 = 0 ∧ c_t_thrown_27_13.toInt = 0) ∨ (xc4 = 2 ∧ c_t_thrown_27_13.toInt = 1)) ∧ (xc4 = 0 → (0 : Int32) = (-1 : Int32)) from ?_)
              first | (exfalso; omega) | (refine ⟨?_, ?_⟩ <;> first | assumption | omega | rfl | (intro hx; first | (exfalso; omega) | rfl | assumption | exact Int32.toInt_inj.mp (by omega) | (subst_vars; first | rfl | exact Int32.toInt_inj.mp (by omega))) | exact Int32.toInt_inj.mp (by omega) | (subst_vars; first | rfl | assumption | omega | exact Int32.toInt_inj.mp (by omega)))
          · refine ok_s (show ((xc4 = 0 ∧ c_t_thrown_27_13.toInt = 0) ∨ (xc4 = 2 ∧ c_t_thrown_27_13.toInt = 1)) ∧ (xc4 = 0 → (0 : Int32) = (0 : Int32)) from ?_)
            first | (exfalso; omega) | (refine ⟨?_, ?_⟩ <;> first | assumption | omega | rfl | (intro hx; first | (exfalso; omega) | rfl | assumption | exact Int32.toInt_inj.mp (by omega) | (subst_vars; first | rfl | exact Int32.toInt_inj.mp (by omega))) | exact Int32.toInt_inj.mp (by omega) | (subst_vars; first | rfl | assumption | omega | exact Int32.toInt_inj.mp (by omega)))
        · refine ok_le (fun c69 => ?_) (fun c69 => ?_)
          · first | unfold J_X9_prime_27 | skip
            refine ok_o2 (sp_X9_isThrown_ (0 : Int32) ) (fun r27_14 c_t_thrown_27_14 h70 => ?_)
            have h70 : (r27_14.toInt = 0 ∧ c_t_thrown_27_14.toInt = 0 ∧ (0 : Int32).toInt = 0) ∨ (r27_14.toInt = 1 ∧ c_t_thrown_27_14.toInt = 1 ∧ (0 : Int32).toInt ≠ 0) := h70
            refine ok_eq (fun c71 => ?_) (fun c71 => ?_)
            · refine ok_bx (fun x4_40_14 e_x4_40_14 => ?_)
              rw [e_x4_40_14]
              refine pc_loop _ _ p0 p1 (by omega) (by omega) (by omega) (by omega) (fun y4_42_68_14 hI72 => ?_) (fun _ hI73 => ?_)
              · refine ok_s (show ((xc4 = 0 ∧ c_t_thrown_27_14.toInt = 0) ∨ (xc4 = 2 ∧ c_t_thrown_27_14.toInt = 1)) ∧ (xc4 = 0 → (0 : Int32) = y4_42_68_14.toInt32) from ?_)
                first | (exfalso; omega) | (refine ⟨?_, ?_⟩ <;> first | assumption | omega | rfl | (intro hx; first | (exfalso; omega) | rfl | assumption | exact Int32.toInt_inj.mp (by omega) | (subst_vars; first | rfl | exact Int32.toInt_inj.mp (by omega))) | exact Int32.toInt_inj.mp (by omega) | (subst_vars; first | rfl | assumption | omega | exact Int32.toInt_inj.mp (by omega)))
              · refine ok_s (show ((xc4 = 0 ∧ c_t_thrown_27_14.toInt = 0) ∨ (xc4 = 2 ∧ c_t_thrown_27_14.toInt = 1)) ∧ (xc4 = 0 → (0 : Int32) = (-1 : Int32)) from ?_)
                first | (exfalso; omega) | (refine ⟨?_, ?_⟩ <;> first | assumption | omega | rfl | (intro hx; first | (exfalso; omega) | rfl | assumption | exact Int32.toInt_inj.mp (by omega) | (subst_vars; first | rfl | exact Int32.toInt_inj.mp (by omega))) | exact Int32.toInt_inj.mp (by omega) | (subst_vars; first | rfl | assumption | omega | exact Int32.toInt_inj.mp (by omega)))
            · refine ok_s (show ((xc4 = 0 ∧ c_t_thrown_27_14.toInt = 0) ∨ (xc4 = 2 ∧ c_t_thrown_27_14.toInt = 1)) ∧ (xc4 = 0 → (0 : Int32) = (0 : Int32)) from ?_)
              first | (exfalso; omega) | (refine ⟨?_, ?_⟩ <;> first | assumption | omega | rfl | (intro hx; first | (exfalso; omega) | rfl | assumption | exact Int32.toInt_inj.mp (by omega) | (subst_vars; first | rfl | exact Int32.toInt_inj.mp (by omega))) | exact Int32.toInt_inj.mp (by omega) | (subst_vars; first | rfl | assumption | omega | exact Int32.toInt_inj.mp (by omega)))
          · first | unfold J_X9_prime_22 | skip
            first | unfold J_X9_prime_27 | skip
            refine ok_o2 (sp_X9_isThrown_ (1 : Int32) ) (fun r27_15 c_t_thrown_27_15 h74 => ?_)
            have h74 : (r27_15.toInt = 0 ∧ c_t_thrown_27_15.toInt = 0 ∧ (1 : Int32).toInt = 0) ∨ (r27_15.toInt = 1 ∧ c_t_thrown_27_15.toInt = 1 ∧ (1 : Int32).toInt ≠ 0) := h74
            refine ok_eq (fun c75 => ?_) (fun c75 => ?_)
            · refine ok_bx (fun x4_40_15 e_x4_40_15 => ?_)
              rw [e_x4_40_15]
              refine pc_loop _ _ p0 p1 (by omega) (by omega) (by omega) (by omega) (fun y4_42_68_15 hI76 => ?_) (fun _ hI77 => ?_)
              · refine ok_s (show ((xc4 = 0 ∧ c_t_thrown_27_15.toInt = 0) ∨ (xc4 = 2 ∧ c_t_thrown_27_15.toInt = 1)) ∧ (xc4 = 0 → (0 : Int32) = y4_42_68_15.toInt32) from ?_)
                first | (exfalso; omega) | (refine ⟨?_, ?_⟩ <;> first | assumption | omega | rfl | (intro hx; first | (exfalso; omega) | rfl | assumption | exact Int32.toInt_inj.mp (by omega) | (subst_vars; first | rfl | exact Int32.toInt_inj.mp (by omega))) | exact Int32.toInt_inj.mp (by omega) | (subst_vars; first | rfl | assumption | omega | exact Int32.toInt_inj.mp (by omega)))
              · refine ok_s (show ((xc4 = 0 ∧ c_t_thrown_27_15.toInt = 0) ∨ (xc4 = 2 ∧ c_t_thrown_27_15.toInt = 1)) ∧ (xc4 = 0 → (0 : Int32) = (-1 : Int32)) from ?_)
                first | (exfalso; omega) | (refine ⟨?_, ?_⟩ <;> first | assumption | omega | rfl | (intro hx; first | (exfalso; omega) | rfl | assumption | exact Int32.toInt_inj.mp (by omega) | (subst_vars; first | rfl | exact Int32.toInt_inj.mp (by omega))) | exact Int32.toInt_inj.mp (by omega) | (subst_vars; first | rfl | assumption | omega | exact Int32.toInt_inj.mp (by omega)))
            · refine ok_s (show ((xc4 = 0 ∧ c_t_thrown_27_15.toInt = 0) ∨ (xc4 = 2 ∧ c_t_thrown_27_15.toInt = 1)) ∧ (xc4 = 0 → (0 : Int32) = (0 : Int32)) from ?_)
              first | (exfalso; omega) | (refine ⟨?_, ?_⟩ <;> first | assumption | omega | rfl | (intro hx; first | (exfalso; omega) | rfl | assumption | exact Int32.toInt_inj.mp (by omega) | (subst_vars; first | rfl | exact Int32.toInt_inj.mp (by omega))) | exact Int32.toInt_inj.mp (by omega) | (subst_vars; first | rfl | assumption | omega | exact Int32.toInt_inj.mp (by omega)))
theorem sL_primes (n : Int64) (p1 p2 : Int32) : ok (F_L_primes n p1 p2) (fun r => ok (F_X9_primes p1 p2) (fun q => q.2 = r.1 ∧ (r.1 = 0 → r.2 = q.1.toInt64))) := by
  have l0 : (0 : Int32).toInt = 0 := by decide
  have l1 : (1 : Int32).toInt = 1 := by decide
  unfold F_L_primes
  refine ok_o2 (s7_primes p1 p2) (fun xc r h => ?_)
  have h : ok (F_X9_primes p1 p2) (fun q => ((xc = 0 ∧ q.2.toInt = 0) ∨ (xc = 2 ∧ q.2.toInt = 1)) ∧ (xc = 0 → r = q.1)) := h
  refine ok_i (fun c => ?_) (fun c => ?_)
  · exact ok_bx (fun n2 e => ok_s (ok_w h (fun q hq => ⟨Int32.toInt_inj.mp (by have := hq.1; show q.2.toInt = (0 : Int32).toInt; omega), fun _ => by rw [← hq.2 c]; exact e⟩)))
  · refine ok_i (fun c2 => ok_s (ok_w h (fun q hq => ⟨Int32.toInt_inj.mp (by have := hq.1; show q.2.toInt = (1 : Int32).toInt; omega), fun h0 => absurd (show (1 : Int32) = 0 from h0) (by decide)⟩))) (fun c2 => ?_)
    obtain ⟨q, _, hq⟩ := h
    have := hq.1
    omega
theorem sL_prime (n : Int64) (th p1 p2 : Int32) : ok (F_L_prime n p1 p2) (fun r => ok (F_X9_prime th p1 p2) (fun q => q.2 = r.1 ∧ (r.1 = 0 → r.2 = q.1.toInt64))) := by
  have l0 : (0 : Int32).toInt = 0 := by decide
  have l1 : (1 : Int32).toInt = 1 := by decide
  unfold F_L_prime
  refine ok_o2 (s7_prime th p1 p2) (fun xc r h => ?_)
  have h : ok (F_X9_prime th p1 p2) (fun q => ((xc = 0 ∧ q.2.toInt = 0) ∨ (xc = 2 ∧ q.2.toInt = 1)) ∧ (xc = 0 → r = q.1)) := h
  refine ok_i (fun c => ?_) (fun c => ?_)
  · exact ok_bx (fun n2 e => ok_s (ok_w h (fun q hq => ⟨Int32.toInt_inj.mp (by have := hq.1; show q.2.toInt = (0 : Int32).toInt; omega), fun _ => by rw [← hq.2 c]; exact e⟩)))
  · refine ok_i (fun c2 => ok_s (ok_w h (fun q hq => ⟨Int32.toInt_inj.mp (by have := hq.1; show q.2.toInt = (1 : Int32).toInt; omega), fun h0 => absurd (show (1 : Int32) = 0 from h0) (by decide)⟩))) (fun c2 => ?_)
    obtain ⟨q, _, hq⟩ := h
    have := hq.1
    omega
theorem sp_X9_thrown (c : Int32) : ok (F_X9_thrown c) (fun r => r = c) := ok_s rfl
