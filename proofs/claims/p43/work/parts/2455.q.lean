set_option maxHeartbeats 1000000 in
theorem s7_prime (th : Int32) (p0 : Int32) (p1 : Int32)  : ok (F_X7_prime p0 p1) (fun r => ok (F_X9_prime th p0 p1) (fun q => ((r.1 = 0 ∧ q.2.toInt = 0) ∨ (r.1 = 2 ∧ q.2.toInt = 1)) ∧ (r.1 = 0 → r.2 = q.1))) := by
  have lm132 : (-1 : Int32).toInt = -1 := by decide
  have l032 : (0 : Int32).toInt = 0 := by decide
  have l132 : (1 : Int32).toInt = 1 := by decide
  have l164 : (1 : Int64).toInt = 1 := by decide
  have l264 : (2 : Int64).toInt = 2 := by decide
  have l632 : (6 : Int32).toInt = 6 := by decide
  have l932 : (9 : Int32).toInt = 9 := by decide
  unfold F_X7_prime
  refine ok_o (sp_X7_testRange p0 (1 : Int32) (6 : Int32) ) (fun xc4 h1 => ?_)
  have h1 : (xc4 = 0 ∧ (1 : Int32).toInt ≤ p0.toInt ∧ p0.toInt ≤ (6 : Int32).toInt) ∨ (xc4 = 2 ∧ (p0.toInt < (1 : Int32).toInt ∨ (6 : Int32).toInt < p0.toInt)) := h1
  refine ok_i (fun c2 => ?_) (fun c2 => ?_)
  · refine ok_o (sp_X7_testRange p1 (0 : Int32) (9 : Int32) ) (fun xc11 h3 => ?_)
    have h3 : (xc11 = 0 ∧ (0 : Int32).toInt ≤ p1.toInt ∧ p1.toInt ≤ (9 : Int32).toInt) ∨ (xc11 = 2 ∧ (p1.toInt < (0 : Int32).toInt ∨ (9 : Int32).toInt < p1.toInt)) := h3
    refine ok_i (fun c4 => ?_) (fun c4 => ?_)
    · refine ok_o (fx_X2_codeOf p0 p1 (by first | omega | assumption | trivial | exact wt_of (by assumption) (by omega)) (by first | omega | assumption | trivial | exact wt_of (by assumption) (by omega)) (by first | omega | assumption | trivial | exact wt_of (by assumption) (by omega)) (by first | omega | assumption | trivial | exact wt_of (by assumption) (by omega))) (fun r16 h5 => ?_)
      have h5 : r16 = PCD p0 p1 := h5
      refine ok_s ?_
      show ok (F_X9_prime th p0 p1) (fun q => ((0 = 0 ∧ q.2.toInt = 0) ∨ (0 = 2 ∧ q.2.toInt = 1)) ∧ (0 = 0 → r16 = q.1))
      unfold F_X9_prime
      refine ok_lt (fun c6 => ?_) (fun c6 => ?_)
      · exfalso; omega
      · refine ok_lt (fun c7 => ?_) (fun c7 => ?_)
        · exfalso; omega
        · refine ok_lt (fun c8 => ?_) (fun c8 => ?_)
          · exfalso; omega
          · refine ok_le (fun c9 => ?_) (fun c9 => ?_)
            · first | unfold J_X9_prime_27 | skip
              refine ok_o2 (sp_X9_isThrown_ (0 : Int32) ) (fun r27 c_t_thrown_27 h10 => ?_)
              have h10 : (r27.toInt = 0 ∧ c_t_thrown_27.toInt = 0 ∧ (0 : Int32).toInt = 0) ∨ (r27.toInt = 1 ∧ c_t_thrown_27.toInt = 1 ∧ (0 : Int32).toInt ≠ 0) := h10
              refine ok_eq (fun c11 => ?_) (fun c11 => ?_)
              · refine ok_bx (fun x4_40 e_x4_40 => ?_)
                rw [e_x4_40]
                refine pc_loop _ _ p0 p1 (by omega) (by omega) (by omega) (by omega) (fun y4_42_68 hI12 => ?_) (fun hI13 => ?_)
                · refine ok_s (show ((0 = 0 ∧ c_t_thrown_27.toInt = 0) ∨ (0 = 2 ∧ c_t_thrown_27.toInt = 1)) ∧ (0 = 0 → r16 = y4_42_68.toInt32) from ?_)
                  first | (exfalso; omega) | (subst_vars; first | (exfalso; omega) | (refine ⟨?_, ?_⟩ <;> (first | assumption | rfl | omega | (intro hx; first | rfl | assumption | (exfalso; omega) | exact Int32.toInt_inj.mp (by omega)) | exact Int32.toInt_inj.mp (by omega) | (rw [uu_a, uu_a]) | (first | exact fun _ => Eq.symm (by assumption)))))
                · refine ok_s (show ((0 = 0 ∧ c_t_thrown_27.toInt = 0) ∨ (0 = 2 ∧ c_t_thrown_27.toInt = 1)) ∧ (0 = 0 → r16 = (-1 : Int32)) from ?_)
                  first | (exfalso; omega) | (subst_vars; first | (exfalso; omega) | (refine ⟨?_, ?_⟩ <;> (first | assumption | rfl | omega | (intro hx; first | rfl | assumption | (exfalso; omega) | exact Int32.toInt_inj.mp (by omega)) | exact Int32.toInt_inj.mp (by omega) | (rw [uu_a, uu_a]) | (first | exact fun _ => Eq.symm (by assumption)))))
              · exfalso; omega
            · exfalso; omega
    · refine ok_s ?_
      show ok (F_X9_prime th p0 p1) (fun q => ((xc11 = 0 ∧ q.2.toInt = 0) ∨ (xc11 = 2 ∧ q.2.toInt = 1)) ∧ (xc11 = 0 → (0 : Int32) = q.1))
      unfold F_X9_prime
      refine ok_lt (fun c14 => ?_) (fun c14 => ?_)
      · exfalso; omega
      · refine ok_lt (fun c15 => ?_) (fun c15 => ?_)
        · exfalso; omega
        · refine ok_lt (fun c16 => ?_) (fun c16 => ?_)
          · first | unfold J_X9_prime_22 | skip
            first | unfold J_X9_prime_27 | skip
            refine ok_o2 (sp_X9_isThrown_ (1 : Int32) ) (fun r27_2 c_t_thrown_27_2 h17 => ?_)
            have h17 : (r27_2.toInt = 0 ∧ c_t_thrown_27_2.toInt = 0 ∧ (1 : Int32).toInt = 0) ∨ (r27_2.toInt = 1 ∧ c_t_thrown_27_2.toInt = 1 ∧ (1 : Int32).toInt ≠ 0) := h17
            refine ok_eq (fun c18 => ?_) (fun c18 => ?_)
            · exfalso; omega
            · refine ok_s (show ((xc11 = 0 ∧ c_t_thrown_27_2.toInt = 0) ∨ (xc11 = 2 ∧ c_t_thrown_27_2.toInt = 1)) ∧ (xc11 = 0 → (0 : Int32) = (0 : Int32)) from ?_)
              first | (exfalso; omega) | (subst_vars; first | (exfalso; omega) | (refine ⟨?_, ?_⟩ <;> (first | assumption | rfl | omega | (intro hx; first | rfl | assumption | (exfalso; omega) | exact Int32.toInt_inj.mp (by omega)) | exact Int32.toInt_inj.mp (by omega) | (rw [uu_a, uu_a]) | (first | exact fun _ => Eq.symm (by assumption)))))
          · refine ok_le (fun c19 => ?_) (fun c19 => ?_)
            · exfalso; omega
            · first | unfold J_X9_prime_22 | skip
              first | unfold J_X9_prime_27 | skip
              refine ok_o2 (sp_X9_isThrown_ (1 : Int32) ) (fun r27_3 c_t_thrown_27_3 h20 => ?_)
              have h20 : (r27_3.toInt = 0 ∧ c_t_thrown_27_3.toInt = 0 ∧ (1 : Int32).toInt = 0) ∨ (r27_3.toInt = 1 ∧ c_t_thrown_27_3.toInt = 1 ∧ (1 : Int32).toInt ≠ 0) := h20
              refine ok_eq (fun c21 => ?_) (fun c21 => ?_)
              · exfalso; omega
              · refine ok_s (show ((xc11 = 0 ∧ c_t_thrown_27_3.toInt = 0) ∨ (xc11 = 2 ∧ c_t_thrown_27_3.toInt = 1)) ∧ (xc11 = 0 → (0 : Int32) = (0 : Int32)) from ?_)
                first | (exfalso; omega) | (subst_vars; first | (exfalso; omega) | (refine ⟨?_, ?_⟩ <;> (first | assumption | rfl | omega | (intro hx; first | rfl | assumption | (exfalso; omega) | exact Int32.toInt_inj.mp (by omega)) | exact Int32.toInt_inj.mp (by omega) | (rw [uu_a, uu_a]) | (first | exact fun _ => Eq.symm (by assumption)))))
  · refine ok_s ?_
    show ok (F_X9_prime th p0 p1) (fun q => ((xc4 = 0 ∧ q.2.toInt = 0) ∨ (xc4 = 2 ∧ q.2.toInt = 1)) ∧ (xc4 = 0 → (0 : Int32) = q.1))
    unfold F_X9_prime
    refine ok_lt (fun c22 => ?_) (fun c22 => ?_)
    · first | unfold J_X9_prime_22 | skip
      first | unfold J_X9_prime_27 | skip
      refine ok_o2 (sp_X9_isThrown_ (1 : Int32) ) (fun r27_4 c_t_thrown_27_4 h23 => ?_)
      have h23 : (r27_4.toInt = 0 ∧ c_t_thrown_27_4.toInt = 0 ∧ (1 : Int32).toInt = 0) ∨ (r27_4.toInt = 1 ∧ c_t_thrown_27_4.toInt = 1 ∧ (1 : Int32).toInt ≠ 0) := h23
      refine ok_eq (fun c24 => ?_) (fun c24 => ?_)
      · exfalso; omega
      · refine ok_s (show ((xc4 = 0 ∧ c_t_thrown_27_4.toInt = 0) ∨ (xc4 = 2 ∧ c_t_thrown_27_4.toInt = 1)) ∧ (xc4 = 0 → (0 : Int32) = (0 : Int32)) from ?_)
        first | (exfalso; omega) | (subst_vars; first | (exfalso; omega) | (refine ⟨?_, ?_⟩ <;> (first | assumption | rfl | omega | (intro hx; first | rfl | assumption | (exfalso; omega) | exact Int32.toInt_inj.mp (by omega)) | exact Int32.toInt_inj.mp (by omega) | (rw [uu_a, uu_a]) | (first | exact fun _ => Eq.symm (by assumption)))))
    · refine ok_lt (fun c25 => ?_) (fun c25 => ?_)
      · first | unfold J_X9_prime_22 | skip
        first | unfold J_X9_prime_27 | skip
        refine ok_o2 (sp_X9_isThrown_ (1 : Int32) ) (fun r27_5 c_t_thrown_27_5 h26 => ?_)
        have h26 : (r27_5.toInt = 0 ∧ c_t_thrown_27_5.toInt = 0 ∧ (1 : Int32).toInt = 0) ∨ (r27_5.toInt = 1 ∧ c_t_thrown_27_5.toInt = 1 ∧ (1 : Int32).toInt ≠ 0) := h26
        refine ok_eq (fun c27 => ?_) (fun c27 => ?_)
        · exfalso; omega
        · refine ok_s (show ((xc4 = 0 ∧ c_t_thrown_27_5.toInt = 0) ∨ (xc4 = 2 ∧ c_t_thrown_27_5.toInt = 1)) ∧ (xc4 = 0 → (0 : Int32) = (0 : Int32)) from ?_)
          first | (exfalso; omega) | (subst_vars; first | (exfalso; omega) | (refine ⟨?_, ?_⟩ <;> (first | assumption | rfl | omega | (intro hx; first | rfl | assumption | (exfalso; omega) | exact Int32.toInt_inj.mp (by omega)) | exact Int32.toInt_inj.mp (by omega) | (rw [uu_a, uu_a]) | (first | exact fun _ => Eq.symm (by assumption)))))
      · exfalso; omega
