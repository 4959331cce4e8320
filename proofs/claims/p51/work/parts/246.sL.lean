/-! S10. the law's own methods, in the walk of two -/
set_option maxHeartbeats 1000000 in
theorem sL_set (n : Int64) (ac : Int32) (fo : Nat → Int64) (th : Int32) (p0 : Int32) (p1 : Int32) (hp0 : FA fo) : ok (F_L_set ac fo n p0 p1) (fun r => ok (F_X9_set ac th fo p0 p1) (fun q => q.2.2.1 = r.1 ∧ (r.1 = 0 → r.2.2.2 = q.1.toInt64) ∧ r.2.1 = q.2.1 ∧ r.2.2.1 = q.2.2.2 ∧ FA q.2.2.2)) := by
  have l0 : (0 : Int32).toInt = 0 := by decide
  have l1 : (1 : Int32).toInt = 1 := by decide
  have l2 : (2 : Int32).toInt = 2 := by decide
  unfold F_L_set
  refine ok_o4 (s7_set ac fo th p0 p1 hp0) (fun xc v1 v2 v3 h => ?_)
  have h : ok (F_X9_set ac th fo p0 p1) (fun q => ((xc = 0 ∧ q.2.2.1.toInt = 0) ∨ (xc = 1 ∧ q.2.2.1.toInt = 1) ∨ (xc = 2 ∧ q.2.2.1.toInt = 2)) ∧ (xc = 0 → v1 = q.1) ∧ v2 = q.2.1 ∧ v3 = q.2.2.2 ∧ FA q.2.2.2) := h
  refine ok_i (fun c => ?_) (fun c => ?_)
  · refine ok_bx (fun n2 e => ?_)
    exact ok_s (ok_w h (fun q hq => ⟨Int32.toInt_inj.mp (by have hq1 := hq.1; show q.2.2.1.toInt = (0 : Int32).toInt; omega), fun _ => by rw [← hq.2.1 (by omega)]; exact e, hq.2.2⟩))
  · refine ok_i (fun c => ?_) (fun c => ?_)
    · exact ok_s (ok_w h (fun q hq => ⟨Int32.toInt_inj.mp (by have hq1 := hq.1; show q.2.2.1.toInt = (1 : Int32).toInt; omega), fun h0 => absurd (show (1 : Int32) = 0 from h0) (by decide), hq.2.2⟩))
    · refine ok_i (fun c => ?_) (fun c => ?_)
      · exact ok_s (ok_w h (fun q hq => ⟨Int32.toInt_inj.mp (by have hq1 := hq.1; show q.2.2.1.toInt = (2 : Int32).toInt; omega), fun h0 => absurd (show (2 : Int32) = 0 from h0) (by decide), hq.2.2⟩))
      · exfalso
        obtain ⟨q, _, hq⟩ := h
        have hq1 := hq.1
        omega
set_option maxHeartbeats 1000000 in
theorem sL_digit (n : Int64) (ac : Int32) (fo : Nat → Int64) (th : Int32) (p0 : Int32) (p1 : Int32) (p2 : Int32) (hp0 : FA fo) : ok (F_L_digit ac fo n p0 p1 p2) (fun r => ok (F_X9_digit ac th fo p0 p1 p2) (fun q => q.2.2.1 = r.1 ∧ (r.1 = 0 → r.2.2.2 = q.1.toInt64) ∧ r.2.1 = q.2.1 ∧ r.2.2.1 = q.2.2.2 ∧ FA q.2.2.2)) := by
  have l0 : (0 : Int32).toInt = 0 := by decide
  have l1 : (1 : Int32).toInt = 1 := by decide
  have l2 : (2 : Int32).toInt = 2 := by decide
  unfold F_L_digit
  refine ok_o4 (s7_digit ac fo th p0 p1 p2 hp0) (fun xc v1 v2 v3 h => ?_)
  have h : ok (F_X9_digit ac th fo p0 p1 p2) (fun q => ((xc = 0 ∧ q.2.2.1.toInt = 0) ∨ (xc = 1 ∧ q.2.2.1.toInt = 1) ∨ (xc = 2 ∧ q.2.2.1.toInt = 2)) ∧ (xc = 0 → v1 = q.1) ∧ v2 = q.2.1 ∧ v3 = q.2.2.2 ∧ FA q.2.2.2) := h
  refine ok_i (fun c => ?_) (fun c => ?_)
  · refine ok_bx (fun n2 e => ?_)
    exact ok_s (ok_w h (fun q hq => ⟨Int32.toInt_inj.mp (by have hq1 := hq.1; show q.2.2.1.toInt = (0 : Int32).toInt; omega), fun _ => by rw [← hq.2.1 (by omega)]; exact e, hq.2.2⟩))
  · refine ok_i (fun c => ?_) (fun c => ?_)
    · exact ok_s (ok_w h (fun q hq => ⟨Int32.toInt_inj.mp (by have hq1 := hq.1; show q.2.2.1.toInt = (1 : Int32).toInt; omega), fun h0 => absurd (show (1 : Int32) = 0 from h0) (by decide), hq.2.2⟩))
    · refine ok_i (fun c => ?_) (fun c => ?_)
      · exact ok_s (ok_w h (fun q hq => ⟨Int32.toInt_inj.mp (by have hq1 := hq.1; show q.2.2.1.toInt = (2 : Int32).toInt; omega), fun h0 => absurd (show (2 : Int32) = 0 from h0) (by decide), hq.2.2⟩))
      · exfalso
        obtain ⟨q, _, hq⟩ := h
        have hq1 := hq.1
        omega
set_option maxHeartbeats 1000000 in
theorem sL_run (n : Int64) (ac : Int32) (fo : Nat → Int64) (th : Int32) (p0 : Int32) (p1 : Int32) (p2 : Int32) (hp0 : FA fo) : ok (F_L_run ac fo n p0 p1 p2) (fun r => ok (F_X9_run ac th fo p0 p1 p2) (fun q => q.2.2.1 = r.1 ∧ (r.1 = 0 → r.2.2.2 = q.1.toInt64) ∧ r.2.1 = q.2.1 ∧ r.2.2.1 = q.2.2.2 ∧ FA q.2.2.2)) := by
  have l0 : (0 : Int32).toInt = 0 := by decide
  have l1 : (1 : Int32).toInt = 1 := by decide
  have l2 : (2 : Int32).toInt = 2 := by decide
  unfold F_L_run
  refine ok_o4 (s7_run ac fo th p0 p1 p2 hp0) (fun xc v1 v2 v3 h => ?_)
  have h : ok (F_X9_run ac th fo p0 p1 p2) (fun q => ((xc = 0 ∧ q.2.2.1.toInt = 0) ∨ (xc = 1 ∧ q.2.2.1.toInt = 1) ∨ (xc = 2 ∧ q.2.2.1.toInt = 2)) ∧ (xc = 0 → v1 = q.1) ∧ v2 = q.2.1 ∧ v3 = q.2.2.2 ∧ FA q.2.2.2) := h
  refine ok_i (fun c => ?_) (fun c => ?_)
  · refine ok_bx (fun n2 e => ?_)
    exact ok_s (ok_w h (fun q hq => ⟨Int32.toInt_inj.mp (by have hq1 := hq.1; show q.2.2.1.toInt = (0 : Int32).toInt; omega), fun _ => by rw [← hq.2.1 (by omega)]; exact e, hq.2.2⟩))
  · refine ok_i (fun c => ?_) (fun c => ?_)
    · exact ok_s (ok_w h (fun q hq => ⟨Int32.toInt_inj.mp (by have hq1 := hq.1; show q.2.2.1.toInt = (1 : Int32).toInt; omega), fun h0 => absurd (show (1 : Int32) = 0 from h0) (by decide), hq.2.2⟩))
    · refine ok_i (fun c => ?_) (fun c => ?_)
      · exact ok_s (ok_w h (fun q hq => ⟨Int32.toInt_inj.mp (by have hq1 := hq.1; show q.2.2.1.toInt = (2 : Int32).toInt; omega), fun h0 => absurd (show (2 : Int32) = 0 from h0) (by decide), hq.2.2⟩))
      · exfalso
        obtain ⟨q, _, hq⟩ := h
        have hq1 := hq.1
        omega
set_option maxHeartbeats 1000000 in
theorem sL_copy (n : Int64) (ac : Int32) (fo : Nat → Int64) (p0 : Int32) (p1 : Int32) (hp0 : FA fo) : ok (F_L_copy ac fo n p0 p1) (fun r => ok (F_X9_copy ac fo p0 p1) (fun q => q.2.2.1 = r.1 ∧ (r.1 = 0 → r.2.2.2 = q.1.toInt64) ∧ r.2.1 = q.2.1 ∧ r.2.2.1 = q.2.2.2 ∧ FA q.2.2.2)) := by
  have l0 : (0 : Int32).toInt = 0 := by decide
  have l1 : (1 : Int32).toInt = 1 := by decide
  have l2 : (2 : Int32).toInt = 2 := by decide
  unfold F_L_copy
  refine ok_o4 (s7_copy ac fo p0 p1 hp0) (fun xc v1 v2 v3 h => ?_)
  have h : ok (F_X9_copy ac fo p0 p1) (fun q => ((xc = 0 ∧ q.2.2.1.toInt = 0) ∨ (xc = 1 ∧ q.2.2.1.toInt = 1)) ∧ (xc = 0 → v1 = q.1) ∧ v2 = q.2.1 ∧ v3 = q.2.2.2 ∧ FA q.2.2.2) := h
  refine ok_i (fun c => ?_) (fun c => ?_)
  · refine ok_bx (fun n2 e => ?_)
    exact ok_s (ok_w h (fun q hq => ⟨Int32.toInt_inj.mp (by have hq1 := hq.1; show q.2.2.1.toInt = (0 : Int32).toInt; omega), fun _ => by rw [← hq.2.1 (by omega)]; exact e, hq.2.2⟩))
  · refine ok_i (fun c => ?_) (fun c => ?_)
    · exact ok_s (ok_w h (fun q hq => ⟨Int32.toInt_inj.mp (by have hq1 := hq.1; show q.2.2.1.toInt = (1 : Int32).toInt; omega), fun h0 => absurd (show (1 : Int32) = 0 from h0) (by decide), hq.2.2⟩))
    · exfalso
      obtain ⟨q, _, hq⟩ := h
      have hq1 := hq.1
      omega
set_option maxHeartbeats 1000000 in
theorem sL_swap (n : Int64) (ac : Int32) (fo : Nat → Int64) (th : Int32) (p0 : Int32) (p1 : Int32) (hp0 : FA fo) : ok (F_L_swap ac fo n p0 p1) (fun r => ok (F_X9_swap ac th fo p0 p1) (fun q => q.2.2.1 = r.1 ∧ (r.1 = 0 → r.2.2.2 = q.1.toInt64) ∧ r.2.1 = q.2.1 ∧ r.2.2.1 = q.2.2.2 ∧ FA q.2.2.2)) := by
  have l0 : (0 : Int32).toInt = 0 := by decide
  have l1 : (1 : Int32).toInt = 1 := by decide
  have l2 : (2 : Int32).toInt = 2 := by decide
  unfold F_L_swap
  refine ok_o4 (s7_swap ac fo th p0 p1 hp0) (fun xc v1 v2 v3 h => ?_)
  have h : ok (F_X9_swap ac th fo p0 p1) (fun q => ((xc = 0 ∧ q.2.2.1.toInt = 0) ∨ (xc = 1 ∧ q.2.2.1.toInt = 1)) ∧ (xc = 0 → v1 = q.1) ∧ v2 = q.2.1 ∧ v3 = q.2.2.2 ∧ FA q.2.2.2) := h
  refine ok_i (fun c => ?_) (fun c => ?_)
  · refine ok_bx (fun n2 e => ?_)
    exact ok_s (ok_w h (fun q hq => ⟨Int32.toInt_inj.mp (by have hq1 := hq.1; show q.2.2.1.toInt = (0 : Int32).toInt; omega), fun _ => by rw [← hq.2.1 (by omega)]; exact e, hq.2.2⟩))
  · refine ok_i (fun c => ?_) (fun c => ?_)
    · exact ok_s (ok_w h (fun q hq => ⟨Int32.toInt_inj.mp (by have hq1 := hq.1; show q.2.2.1.toInt = (1 : Int32).toInt; omega), fun h0 => absurd (show (1 : Int32) = 0 from h0) (by decide), hq.2.2⟩))
    · exfalso
      obtain ⟨q, _, hq⟩ := h
      have hq1 := hq.1
      omega
set_option maxHeartbeats 1000000 in
theorem sL_shift (n : Int64) (ac : Int32) (rf : Int32) (fo : Nat → Int64) (th : Int32) (p0 : Int32) (p1 : Int32) (hp0 : FA fo) : ok (F_L_shift ac rf fo n p0 p1) (fun r => ok (F_X9_shift ac rf th fo p0 p1) (fun q => q.2.2.2.1 = r.1 ∧ (r.1 = 0 → r.2.2.2.2 = q.1.toInt64) ∧ r.2.1 = q.2.1 ∧ r.2.2.1 = q.2.2.1 ∧ r.2.2.2.1 = q.2.2.2.2 ∧ FA q.2.2.2.2)) := by
  have l0 : (0 : Int32).toInt = 0 := by decide
  have l1 : (1 : Int32).toInt = 1 := by decide
  have l2 : (2 : Int32).toInt = 2 := by decide
  unfold F_L_shift
  refine ok_o5 (s7_shift ac rf fo th p0 p1 hp0) (fun xc v1 v2 v3 v4 h => ?_)
  have h : ok (F_X9_shift ac rf th fo p0 p1) (fun q => ((xc = 0 ∧ q.2.2.2.1.toInt = 0) ∨ (xc = 1 ∧ q.2.2.2.1.toInt = 1) ∨ (xc = 2 ∧ q.2.2.2.1.toInt = 2)) ∧ (xc = 0 → v1 = q.1) ∧ v2 = q.2.1 ∧ v3 = q.2.2.1 ∧ v4 = q.2.2.2.2 ∧ FA q.2.2.2.2) := h
  refine ok_i (fun c => ?_) (fun c => ?_)
  · refine ok_bx (fun n2 e => ?_)
    exact ok_s (ok_w h (fun q hq => ⟨Int32.toInt_inj.mp (by have hq1 := hq.1; show q.2.2.2.1.toInt = (0 : Int32).toInt; omega), fun _ => by rw [← hq.2.1 (by omega)]; exact e, hq.2.2⟩))
  · refine ok_i (fun c => ?_) (fun c => ?_)
    · exact ok_s (ok_w h (fun q hq => ⟨Int32.toInt_inj.mp (by have hq1 := hq.1; show q.2.2.2.1.toInt = (1 : Int32).toInt; omega), fun h0 => absurd (show (1 : Int32) = 0 from h0) (by decide), hq.2.2⟩))
    · refine ok_i (fun c => ?_) (fun c => ?_)
      · exact ok_s (ok_w h (fun q hq => ⟨Int32.toInt_inj.mp (by have hq1 := hq.1; show q.2.2.2.1.toInt = (2 : Int32).toInt; omega), fun h0 => absurd (show (2 : Int32) = 0 from h0) (by decide), hq.2.2⟩))
      · exfalso
        obtain ⟨q, _, hq⟩ := h
        have hq1 := hq.1
        omega
set_option maxHeartbeats 1000000 in
theorem sL_turn (n : Int64) (ac : Int32) (fo : Nat → Int64) (p0 : Int32) (hp0 : FA fo) : ok (F_L_turn ac fo n p0) (fun r => ok (F_X9_turn ac fo p0) (fun q => q.2.2.1 = r.1 ∧ (r.1 = 0 → r.2.2.2 = q.1.toInt64) ∧ r.2.1 = q.2.1 ∧ r.2.2.1 = q.2.2.2 ∧ FA q.2.2.2)) := by
  have l0 : (0 : Int32).toInt = 0 := by decide
  have l1 : (1 : Int32).toInt = 1 := by decide
  have l2 : (2 : Int32).toInt = 2 := by decide
  unfold F_L_turn
  refine ok_o4 (s7_turn ac fo p0 hp0) (fun xc v1 v2 v3 h => ?_)
  have h : ok (F_X9_turn ac fo p0) (fun q => ((xc = 0 ∧ q.2.2.1.toInt = 0) ∨ (xc = 1 ∧ q.2.2.1.toInt = 1)) ∧ (xc = 0 → v1 = q.1) ∧ v2 = q.2.1 ∧ v3 = q.2.2.2 ∧ FA q.2.2.2) := h
  refine ok_i (fun c => ?_) (fun c => ?_)
  · refine ok_bx (fun n2 e => ?_)
    exact ok_s (ok_w h (fun q hq => ⟨Int32.toInt_inj.mp (by have hq1 := hq.1; show q.2.2.1.toInt = (0 : Int32).toInt; omega), fun _ => by rw [← hq.2.1 (by omega)]; exact e, hq.2.2⟩))
  · refine ok_i (fun c => ?_) (fun c => ?_)
    · exact ok_s (ok_w h (fun q hq => ⟨Int32.toInt_inj.mp (by have hq1 := hq.1; show q.2.2.1.toInt = (1 : Int32).toInt; omega), fun h0 => absurd (show (1 : Int32) = 0 from h0) (by decide), hq.2.2⟩))
    · exfalso
      obtain ⟨q, _, hq⟩ := h
      have hq1 := hq.1
      omega
set_option maxHeartbeats 1000000 in
theorem sL_slope (n : Int64) (ac : Int32) (fo : Nat → Int64) (p0 : Int32) (hp0 : FA fo) : ok (F_L_slope ac fo n p0) (fun r => ok (F_X9_slope ac fo p0) (fun q => q.2.2.1 = r.1 ∧ (r.1 = 0 → r.2.2.2 = q.1.toInt64) ∧ r.2.1 = q.2.1 ∧ r.2.2.1 = q.2.2.2 ∧ FA q.2.2.2)) := by
  have l0 : (0 : Int32).toInt = 0 := by decide
  have l1 : (1 : Int32).toInt = 1 := by decide
  have l2 : (2 : Int32).toInt = 2 := by decide
  unfold F_L_slope
  refine ok_o4 (s7_slope ac fo p0 hp0) (fun xc v1 v2 v3 h => ?_)
  have h : ok (F_X9_slope ac fo p0) (fun q => ((xc = 0 ∧ q.2.2.1.toInt = 0) ∨ (xc = 1 ∧ q.2.2.1.toInt = 1)) ∧ (xc = 0 → v1 = q.1) ∧ v2 = q.2.1 ∧ v3 = q.2.2.2 ∧ FA q.2.2.2) := h
  refine ok_i (fun c => ?_) (fun c => ?_)
  · refine ok_bx (fun n2 e => ?_)
    exact ok_s (ok_w h (fun q hq => ⟨Int32.toInt_inj.mp (by have hq1 := hq.1; show q.2.2.1.toInt = (0 : Int32).toInt; omega), fun _ => by rw [← hq.2.1 (by omega)]; exact e, hq.2.2⟩))
  · refine ok_i (fun c => ?_) (fun c => ?_)
    · exact ok_s (ok_w h (fun q hq => ⟨Int32.toInt_inj.mp (by have hq1 := hq.1; show q.2.2.1.toInt = (1 : Int32).toInt; omega), fun h0 => absurd (show (1 : Int32) = 0 from h0) (by decide), hq.2.2⟩))
    · exfalso
      obtain ⟨q, _, hq⟩ := h
      have hq1 := hq.1
      omega
set_option maxHeartbeats 1000000 in
theorem sL_add (n : Int64) (ac : Int32) (fo : Nat → Int64) (p0 : Int32) (p1 : Int32) (p2 : Int32) (hp0 : FA fo) : ok (F_L_add ac fo n p0 p1 p2) (fun r => ok (F_X9_add ac fo p0 p1 p2) (fun q => q.2.2.1 = r.1 ∧ (r.1 = 0 → r.2.2.2 = q.1.toInt64) ∧ r.2.1 = q.2.1 ∧ r.2.2.1 = q.2.2.2 ∧ FA q.2.2.2)) := by
  have l0 : (0 : Int32).toInt = 0 := by decide
  have l1 : (1 : Int32).toInt = 1 := by decide
  have l2 : (2 : Int32).toInt = 2 := by decide
  unfold F_L_add
  refine ok_o4 (s7_add ac fo p0 p1 p2 hp0) (fun xc v1 v2 v3 h => ?_)
  have h : ok (F_X9_add ac fo p0 p1 p2) (fun q => ((xc = 0 ∧ q.2.2.1.toInt = 0) ∨ (xc = 1 ∧ q.2.2.1.toInt = 1)) ∧ (xc = 0 → v1 = q.1) ∧ v2 = q.2.1 ∧ v3 = q.2.2.2 ∧ FA q.2.2.2) := h
  refine ok_i (fun c => ?_) (fun c => ?_)
  · refine ok_bx (fun n2 e => ?_)
    exact ok_s (ok_w h (fun q hq => ⟨Int32.toInt_inj.mp (by have hq1 := hq.1; show q.2.2.1.toInt = (0 : Int32).toInt; omega), fun _ => by rw [← hq.2.1 (by omega)]; exact e, hq.2.2⟩))
  · refine ok_i (fun c => ?_) (fun c => ?_)
    · exact ok_s (ok_w h (fun q hq => ⟨Int32.toInt_inj.mp (by have hq1 := hq.1; show q.2.2.1.toInt = (1 : Int32).toInt; omega), fun h0 => absurd (show (1 : Int32) = 0 from h0) (by decide), hq.2.2⟩))
    · exfalso
      obtain ⟨q, _, hq⟩ := h
      have hq1 := hq.1
      omega
set_option maxHeartbeats 1000000 in
theorem sL_multiply (n : Int64) (ac : Int32) (rf : Int32) (fo : Nat → Int64) (p0 : Int32) (p1 : Int32) (p2 : Int32) (hp0 : FA fo) : ok (F_L_multiply ac rf fo n p0 p1 p2) (fun r => ok (F_X9_multiply ac rf fo p0 p1 p2) (fun q => q.2.2.2.1 = r.1 ∧ (r.1 = 0 → r.2.2.2.2 = q.1.toInt64) ∧ r.2.1 = q.2.1 ∧ r.2.2.1 = q.2.2.1 ∧ r.2.2.2.1 = q.2.2.2.2 ∧ FA q.2.2.2.2)) := by
  have l0 : (0 : Int32).toInt = 0 := by decide
  have l1 : (1 : Int32).toInt = 1 := by decide
  have l2 : (2 : Int32).toInt = 2 := by decide
  unfold F_L_multiply
  refine ok_o5 (s7_multiply ac rf fo p0 p1 p2 hp0) (fun xc v1 v2 v3 v4 h => ?_)
  have h : ok (F_X9_multiply ac rf fo p0 p1 p2) (fun q => ((xc = 0 ∧ q.2.2.2.1.toInt = 0) ∨ (xc = 1 ∧ q.2.2.2.1.toInt = 1)) ∧ (xc = 0 → v1 = q.1) ∧ v2 = q.2.1 ∧ v3 = q.2.2.1 ∧ v4 = q.2.2.2.2 ∧ FA q.2.2.2.2) := h
  refine ok_i (fun c => ?_) (fun c => ?_)
  · refine ok_bx (fun n2 e => ?_)
    exact ok_s (ok_w h (fun q hq => ⟨Int32.toInt_inj.mp (by have hq1 := hq.1; show q.2.2.2.1.toInt = (0 : Int32).toInt; omega), fun _ => by rw [← hq.2.1 (by omega)]; exact e, hq.2.2⟩))
  · refine ok_i (fun c => ?_) (fun c => ?_)
    · exact ok_s (ok_w h (fun q hq => ⟨Int32.toInt_inj.mp (by have hq1 := hq.1; show q.2.2.2.1.toInt = (1 : Int32).toInt; omega), fun h0 => absurd (show (1 : Int32) = 0 from h0) (by decide), hq.2.2⟩))
    · exfalso
      obtain ⟨q, _, hq⟩ := h
      have hq1 := hq.1
      omega
set_option maxHeartbeats 1000000 in
theorem sL_square (n : Int64) (ac : Int32) (rf : Int32) (fo : Nat → Int64) (th : Int32) (p0 : Int32) (p1 : Int32) (hp0 : FA fo) : ok (F_L_square ac rf fo n p0 p1) (fun r => ok (F_X9_square ac rf th fo p0 p1) (fun q => q.2.2.2.1 = r.1 ∧ (r.1 = 0 → r.2.2.2.2 = q.1.toInt64) ∧ r.2.1 = q.2.1 ∧ r.2.2.1 = q.2.2.1 ∧ r.2.2.2.1 = q.2.2.2.2 ∧ FA q.2.2.2.2)) := by
  have l0 : (0 : Int32).toInt = 0 := by decide
  have l1 : (1 : Int32).toInt = 1 := by decide
  have l2 : (2 : Int32).toInt = 2 := by decide
  unfold F_L_square
  refine ok_o5 (s7_square ac rf fo th p0 p1 hp0) (fun xc v1 v2 v3 v4 h => ?_)
  have h : ok (F_X9_square ac rf th fo p0 p1) (fun q => ((xc = 0 ∧ q.2.2.2.1.toInt = 0) ∨ (xc = 1 ∧ q.2.2.2.1.toInt = 1)) ∧ (xc = 0 → v1 = q.1) ∧ v2 = q.2.1 ∧ v3 = q.2.2.1 ∧ v4 = q.2.2.2.2 ∧ FA q.2.2.2.2) := h
  refine ok_i (fun c => ?_) (fun c => ?_)
  · refine ok_bx (fun n2 e => ?_)
    exact ok_s (ok_w h (fun q hq => ⟨Int32.toInt_inj.mp (by have hq1 := hq.1; show q.2.2.2.1.toInt = (0 : Int32).toInt; omega), fun _ => by rw [← hq.2.1 (by omega)]; exact e, hq.2.2⟩))
  · refine ok_i (fun c => ?_) (fun c => ?_)
    · exact ok_s (ok_w h (fun q hq => ⟨Int32.toInt_inj.mp (by have hq1 := hq.1; show q.2.2.2.1.toInt = (1 : Int32).toInt; omega), fun h0 => absurd (show (1 : Int32) = 0 from h0) (by decide), hq.2.2⟩))
    · exfalso
      obtain ⟨q, _, hq⟩ := h
      have hq1 := hq.1
      omega
set_option maxHeartbeats 1000000 in
theorem sL_divide (n : Int64) (ac : Int32) (rf : Int32) (fo : Nat → Int64) (p0 : Int32) (p1 : Int32) (p2 : Int32) (hp0 : FA fo) : ok (F_L_divide ac rf fo n p0 p1 p2) (fun r => ok (F_X9_divide ac rf fo p0 p1 p2) (fun q => q.2.2.2.1 = r.1 ∧ (r.1 = 0 → r.2.2.2.2 = q.1.toInt64) ∧ r.2.1 = q.2.1 ∧ r.2.2.1 = q.2.2.1 ∧ r.2.2.2.1 = q.2.2.2.2 ∧ FA q.2.2.2.2)) := by
  have l0 : (0 : Int32).toInt = 0 := by decide
  have l1 : (1 : Int32).toInt = 1 := by decide
  have l2 : (2 : Int32).toInt = 2 := by decide
  unfold F_L_divide
  refine ok_o5 (s7_divide ac rf fo p0 p1 p2 hp0) (fun xc v1 v2 v3 v4 h => ?_)
  have h : ok (F_X9_divide ac rf fo p0 p1 p2) (fun q => ((xc = 0 ∧ q.2.2.2.1.toInt = 0) ∨ (xc = 1 ∧ q.2.2.2.1.toInt = 1)) ∧ (xc = 0 → v1 = q.1) ∧ v2 = q.2.1 ∧ v3 = q.2.2.1 ∧ v4 = q.2.2.2.2 ∧ FA q.2.2.2.2) := h
  refine ok_i (fun c => ?_) (fun c => ?_)
  · refine ok_bx (fun n2 e => ?_)
    exact ok_s (ok_w h (fun q hq => ⟨Int32.toInt_inj.mp (by have hq1 := hq.1; show q.2.2.2.1.toInt = (0 : Int32).toInt; omega), fun _ => by rw [← hq.2.1 (by omega)]; exact e, hq.2.2⟩))
  · refine ok_i (fun c => ?_) (fun c => ?_)
    · exact ok_s (ok_w h (fun q hq => ⟨Int32.toInt_inj.mp (by have hq1 := hq.1; show q.2.2.2.1.toInt = (1 : Int32).toInt; omega), fun h0 => absurd (show (1 : Int32) = 0 from h0) (by decide), hq.2.2⟩))
    · exfalso
      obtain ⟨q, _, hq⟩ := h
      have hq1 := hq.1
      omega
set_option maxHeartbeats 1000000 in
theorem sL_remain (n : Int64) (ac : Int32) (rf : Int32) (fo : Nat → Int64) (p0 : Int32) (p1 : Int32) (p2 : Int32) (hp0 : FA fo) : ok (F_L_remain ac rf fo n p0 p1 p2) (fun r => ok (F_X9_remain ac rf fo p0 p1 p2) (fun q => q.2.2.2.1 = r.1 ∧ (r.1 = 0 → r.2.2.2.2 = q.1.toInt64) ∧ r.2.1 = q.2.1 ∧ r.2.2.1 = q.2.2.1 ∧ r.2.2.2.1 = q.2.2.2.2 ∧ FA q.2.2.2.2)) := by
  have l0 : (0 : Int32).toInt = 0 := by decide
  have l1 : (1 : Int32).toInt = 1 := by decide
  have l2 : (2 : Int32).toInt = 2 := by decide
  unfold F_L_remain
  refine ok_o5 (s7_remain ac rf fo p0 p1 p2 hp0) (fun xc v1 v2 v3 v4 h => ?_)
  have h : ok (F_X9_remain ac rf fo p0 p1 p2) (fun q => ((xc = 0 ∧ q.2.2.2.1.toInt = 0) ∨ (xc = 1 ∧ q.2.2.2.1.toInt = 1)) ∧ (xc = 0 → v1 = q.1) ∧ v2 = q.2.1 ∧ v3 = q.2.2.1 ∧ v4 = q.2.2.2.2 ∧ FA q.2.2.2.2) := h
  refine ok_i (fun c => ?_) (fun c => ?_)
  · refine ok_bx (fun n2 e => ?_)
    exact ok_s (ok_w h (fun q hq => ⟨Int32.toInt_inj.mp (by have hq1 := hq.1; show q.2.2.2.1.toInt = (0 : Int32).toInt; omega), fun _ => by rw [← hq.2.1 (by omega)]; exact e, hq.2.2⟩))
  · refine ok_i (fun c => ?_) (fun c => ?_)
    · exact ok_s (ok_w h (fun q hq => ⟨Int32.toInt_inj.mp (by have hq1 := hq.1; show q.2.2.2.1.toInt = (1 : Int32).toInt; omega), fun h0 => absurd (show (1 : Int32) = 0 from h0) (by decide), hq.2.2⟩))
    · exfalso
      obtain ⟨q, _, hq⟩ := h
      have hq1 := hq.1
      omega
set_option maxHeartbeats 1000000 in
theorem sL_common (n : Int64) (ac : Int32) (fo : Nat → Int64) (p0 : Int32) (p1 : Int32) (p2 : Int32) (hp0 : FA fo) : ok (F_L_common ac fo n p0 p1 p2) (fun r => ok (F_X9_common ac fo p0 p1 p2) (fun q => q.2.2.1 = r.1 ∧ (r.1 = 0 → r.2.2.2 = q.1.toInt64) ∧ r.2.1 = q.2.1 ∧ r.2.2.1 = q.2.2.2 ∧ FA q.2.2.2)) := by
  have l0 : (0 : Int32).toInt = 0 := by decide
  have l1 : (1 : Int32).toInt = 1 := by decide
  have l2 : (2 : Int32).toInt = 2 := by decide
  unfold F_L_common
  refine ok_o4 (s7_common ac fo p0 p1 p2 hp0) (fun xc v1 v2 v3 h => ?_)
  have h : ok (F_X9_common ac fo p0 p1 p2) (fun q => ((xc = 0 ∧ q.2.2.1.toInt = 0) ∨ (xc = 1 ∧ q.2.2.1.toInt = 1)) ∧ (xc = 0 → v1 = q.1) ∧ v2 = q.2.1 ∧ v3 = q.2.2.2 ∧ FA q.2.2.2) := h
  refine ok_i (fun c => ?_) (fun c => ?_)
  · refine ok_bx (fun n2 e => ?_)
    exact ok_s (ok_w h (fun q hq => ⟨Int32.toInt_inj.mp (by have hq1 := hq.1; show q.2.2.1.toInt = (0 : Int32).toInt; omega), fun _ => by rw [← hq.2.1 (by omega)]; exact e, hq.2.2⟩))
  · refine ok_i (fun c => ?_) (fun c => ?_)
    · exact ok_s (ok_w h (fun q hq => ⟨Int32.toInt_inj.mp (by have hq1 := hq.1; show q.2.2.1.toInt = (1 : Int32).toInt; omega), fun h0 => absurd (show (1 : Int32) = 0 from h0) (by decide), hq.2.2⟩))
    · exfalso
      obtain ⟨q, _, hq⟩ := h
      have hq1 := hq.1
      omega
set_option maxHeartbeats 1000000 in
theorem sL_multipliers (n : Int64) (ac : Int32) (fo : Nat → Int64) (th : Int32) (c_t_rows_first : Int64) (c_t_rows_ofOne : Int64) (c_t_rows_ofOther : Int64) (c_t_rows_second : Int64) (c_t_rows_secondOfOne : Int64) (c_t_rows_secondOfOther : Int64) (p0 : Int32) (p1 : Int32) (p2 : Int32) (p3 : Int32) (hp0 : FA fo) : ok (F_L_multipliers ac fo c_t_rows_first c_t_rows_ofOne c_t_rows_ofOther c_t_rows_second c_t_rows_secondOfOne c_t_rows_secondOfOther n p0 p1 p2 p3) (fun r => ok (F_X9_multipliers ac th fo p0 p1 p2 p3) (fun q => q.2.2.1 = r.1 ∧ (r.1 = 0 → r.2.2.2.2.2.2.2.2.2 = q.1.toInt64) ∧ r.2.1 = q.2.1 ∧ r.2.2.1 = q.2.2.2 ∧ FA q.2.2.2)) := by
  have l0 : (0 : Int32).toInt = 0 := by decide
  have l1 : (1 : Int32).toInt = 1 := by decide
  have l2 : (2 : Int32).toInt = 2 := by decide
  unfold F_L_multipliers
  refine ok_o10 (s7_multipliers ac fo th c_t_rows_first c_t_rows_ofOne c_t_rows_ofOther c_t_rows_second c_t_rows_secondOfOne c_t_rows_secondOfOther p0 p1 p2 p3 hp0) (fun xc v1 v2 v3 v4 v5 v6 v7 v8 v9 h => ?_)
  have h : ok (F_X9_multipliers ac th fo p0 p1 p2 p3) (fun q => ((xc = 0 ∧ q.2.2.1.toInt = 0) ∨ (xc = 1 ∧ q.2.2.1.toInt = 1) ∨ (xc = 2 ∧ q.2.2.1.toInt = 2)) ∧ (xc = 0 → v1 = q.1) ∧ v2 = q.2.1 ∧ v3 = q.2.2.2 ∧ FA q.2.2.2) := h
  refine ok_i (fun c => ?_) (fun c => ?_)
  · refine ok_bx (fun n2 e => ?_)
    exact ok_s (ok_w h (fun q hq => ⟨Int32.toInt_inj.mp (by have hq1 := hq.1; show q.2.2.1.toInt = (0 : Int32).toInt; omega), fun _ => by rw [← hq.2.1 (by omega)]; exact e, hq.2.2⟩))
  · refine ok_i (fun c => ?_) (fun c => ?_)
    · exact ok_s (ok_w h (fun q hq => ⟨Int32.toInt_inj.mp (by have hq1 := hq.1; show q.2.2.1.toInt = (1 : Int32).toInt; omega), fun h0 => absurd (show (1 : Int32) = 0 from h0) (by decide), hq.2.2⟩))
    · refine ok_i (fun c => ?_) (fun c => ?_)
      · exact ok_s (ok_w h (fun q hq => ⟨Int32.toInt_inj.mp (by have hq1 := hq.1; show q.2.2.1.toInt = (2 : Int32).toInt; omega), fun h0 => absurd (show (2 : Int32) = 0 from h0) (by decide), hq.2.2⟩))
      · exfalso
        obtain ⟨q, _, hq⟩ := h
        have hq1 := hq.1
        omega
set_option maxHeartbeats 1000000 in
theorem sL_power (n : Int64) (ac : Int32) (rf : Int32) (fo : Nat → Int64) (th : Int32) (p0 : Int32) (p1 : Int32) (p2 : Int32) (p3 : Int32) (hp0 : FA fo) : ok (F_L_power ac rf fo n p0 p1 p2 p3) (fun r => ok (F_X9_power ac rf th fo p0 p1 p2 p3) (fun q => q.2.2.2.1 = r.1 ∧ (r.1 = 0 → r.2.2.2.2 = q.1.toInt64) ∧ r.2.1 = q.2.1 ∧ r.2.2.1 = q.2.2.1 ∧ r.2.2.2.1 = q.2.2.2.2 ∧ FA q.2.2.2.2)) := by
  have l0 : (0 : Int32).toInt = 0 := by decide
  have l1 : (1 : Int32).toInt = 1 := by decide
  have l2 : (2 : Int32).toInt = 2 := by decide
  unfold F_L_power
  refine ok_o5 (s7_power ac rf fo th p0 p1 p2 p3 hp0) (fun xc v1 v2 v3 v4 h => ?_)
  have h : ok (F_X9_power ac rf th fo p0 p1 p2 p3) (fun q => ((xc = 0 ∧ q.2.2.2.1.toInt = 0) ∨ (xc = 1 ∧ q.2.2.2.1.toInt = 1) ∨ (xc = 2 ∧ q.2.2.2.1.toInt = 2)) ∧ (xc = 0 → v1 = q.1) ∧ v2 = q.2.1 ∧ v3 = q.2.2.1 ∧ v4 = q.2.2.2.2 ∧ FA q.2.2.2.2) := h
  refine ok_i (fun c => ?_) (fun c => ?_)
  · refine ok_bx (fun n2 e => ?_)
    exact ok_s (ok_w h (fun q hq => ⟨Int32.toInt_inj.mp (by have hq1 := hq.1; show q.2.2.2.1.toInt = (0 : Int32).toInt; omega), fun _ => by rw [← hq.2.1 (by omega)]; exact e, hq.2.2⟩))
  · refine ok_i (fun c => ?_) (fun c => ?_)
    · exact ok_s (ok_w h (fun q hq => ⟨Int32.toInt_inj.mp (by have hq1 := hq.1; show q.2.2.2.1.toInt = (1 : Int32).toInt; omega), fun h0 => absurd (show (1 : Int32) = 0 from h0) (by decide), hq.2.2⟩))
    · refine ok_i (fun c => ?_) (fun c => ?_)
      · exact ok_s (ok_w h (fun q hq => ⟨Int32.toInt_inj.mp (by have hq1 := hq.1; show q.2.2.2.1.toInt = (2 : Int32).toInt; omega), fun h0 => absurd (show (2 : Int32) = 0 from h0) (by decide), hq.2.2⟩))
      · exfalso
        obtain ⟨q, _, hq⟩ := h
        have hq1 := hq.1
        omega
set_option maxHeartbeats 1000000 in
theorem sL_allPrimes (n : Int64) (ac : Int32) (fo : Nat → Int64) (th : Int32) (p0 : Int32) (p1 : Int32) (hp0 : FA fo) : ok (F_L_allPrimes ac fo n p0 p1) (fun r => ok (F_X9_allPrimes ac th fo p0 p1) (fun q => q.2.2.1 = r.1 ∧ (r.1 = 0 → r.2.2.2 = q.1.toInt64) ∧ r.2.1 = q.2.1 ∧ r.2.2.1 = q.2.2.2 ∧ FA q.2.2.2)) := by
  have l0 : (0 : Int32).toInt = 0 := by decide
  have l1 : (1 : Int32).toInt = 1 := by decide
  have l2 : (2 : Int32).toInt = 2 := by decide
  unfold F_L_allPrimes
  refine ok_o4 (s7_allPrimes ac fo th p0 p1 hp0) (fun xc v1 v2 v3 h => ?_)
  have h : ok (F_X9_allPrimes ac th fo p0 p1) (fun q => ((xc = 0 ∧ q.2.2.1.toInt = 0) ∨ (xc = 1 ∧ q.2.2.1.toInt = 1) ∨ (xc = 2 ∧ q.2.2.1.toInt = 2)) ∧ (xc = 0 → v1 = q.1) ∧ v2 = q.2.1 ∧ v3 = q.2.2.2 ∧ FA q.2.2.2) := h
  refine ok_i (fun c => ?_) (fun c => ?_)
  · refine ok_bx (fun n2 e => ?_)
    exact ok_s (ok_w h (fun q hq => ⟨Int32.toInt_inj.mp (by have hq1 := hq.1; show q.2.2.1.toInt = (0 : Int32).toInt; omega), fun _ => by rw [← hq.2.1 (by omega)]; exact e, hq.2.2⟩))
  · refine ok_i (fun c => ?_) (fun c => ?_)
    · exact ok_s (ok_w h (fun q hq => ⟨Int32.toInt_inj.mp (by have hq1 := hq.1; show q.2.2.1.toInt = (1 : Int32).toInt; omega), fun h0 => absurd (show (1 : Int32) = 0 from h0) (by decide), hq.2.2⟩))
    · refine ok_i (fun c => ?_) (fun c => ?_)
      · exact ok_s (ok_w h (fun q hq => ⟨Int32.toInt_inj.mp (by have hq1 := hq.1; show q.2.2.1.toInt = (2 : Int32).toInt; omega), fun h0 => absurd (show (2 : Int32) = 0 from h0) (by decide), hq.2.2⟩))
      · exfalso
        obtain ⟨q, _, hq⟩ := h
        have hq1 := hq.1
        omega
set_option maxHeartbeats 1000000 in
theorem sL_seal (n : Int64) (ac : Int32) (rf : Int32) (fo : Nat → Int64) (p0 : Int32) (p1 : Int32) (p2 : Int32) (hp0 : FA fo) : ok (F_L_seal ac rf fo n p0 p1 p2) (fun r => ok (F_X9_seal ac rf fo p0 p1 p2) (fun q => q.2.2.2.1 = r.1 ∧ (r.1 = 0 → r.2.2.2.2 = q.1.toInt64) ∧ r.2.1 = q.2.1 ∧ r.2.2.1 = q.2.2.1 ∧ r.2.2.2.1 = q.2.2.2.2 ∧ FA q.2.2.2.2)) := by
  have l0 : (0 : Int32).toInt = 0 := by decide
  have l1 : (1 : Int32).toInt = 1 := by decide
  have l2 : (2 : Int32).toInt = 2 := by decide
  unfold F_L_seal
  refine ok_o5 (s7_seal ac rf fo p0 p1 p2 hp0) (fun xc v1 v2 v3 v4 h => ?_)
  have h : ok (F_X9_seal ac rf fo p0 p1 p2) (fun q => ((xc = 0 ∧ q.2.2.2.1.toInt = 0) ∨ (xc = 1 ∧ q.2.2.2.1.toInt = 1)) ∧ (xc = 0 → v1 = q.1) ∧ v2 = q.2.1 ∧ v3 = q.2.2.1 ∧ v4 = q.2.2.2.2 ∧ FA q.2.2.2.2) := h
  refine ok_i (fun c => ?_) (fun c => ?_)
  · refine ok_bx (fun n2 e => ?_)
    exact ok_s (ok_w h (fun q hq => ⟨Int32.toInt_inj.mp (by have hq1 := hq.1; show q.2.2.2.1.toInt = (0 : Int32).toInt; omega), fun _ => by rw [← hq.2.1 (by omega)]; exact e, hq.2.2⟩))
  · refine ok_i (fun c => ?_) (fun c => ?_)
    · exact ok_s (ok_w h (fun q hq => ⟨Int32.toInt_inj.mp (by have hq1 := hq.1; show q.2.2.2.1.toInt = (1 : Int32).toInt; omega), fun h0 => absurd (show (1 : Int32) = 0 from h0) (by decide), hq.2.2⟩))
    · exfalso
      obtain ⟨q, _, hq⟩ := h
      have hq1 := hq.1
      omega
set_option maxHeartbeats 1000000 in
theorem sL_burst (n : Int64) (ac : Int32) (rf : Int32) (fo : Nat → Int64) (th : Int32) (p0 : Int32) (p1 : Int32) (p2 : Int32) (hp0 : FA fo) : ok (F_L_burst ac rf fo n p0 p1 p2) (fun r => ok (F_X9_burst ac rf th fo p0 p1 p2) (fun q => q.2.2.2.1 = r.1 ∧ (r.1 = 0 → r.2.2.2.2 = q.1.toInt64) ∧ r.2.1 = q.2.1 ∧ r.2.2.1 = q.2.2.1 ∧ r.2.2.2.1 = q.2.2.2.2 ∧ FA q.2.2.2.2)) := by
  have l0 : (0 : Int32).toInt = 0 := by decide
  have l1 : (1 : Int32).toInt = 1 := by decide
  have l2 : (2 : Int32).toInt = 2 := by decide
  unfold F_L_burst
  refine ok_o5 (s7_burst ac rf fo th p0 p1 p2 hp0) (fun xc v1 v2 v3 v4 h => ?_)
  have h : ok (F_X9_burst ac rf th fo p0 p1 p2) (fun q => ((xc = 0 ∧ q.2.2.2.1.toInt = 0) ∨ (xc = 1 ∧ q.2.2.2.1.toInt = 1) ∨ (xc = 2 ∧ q.2.2.2.1.toInt = 2)) ∧ (xc = 0 → v1 = q.1) ∧ v2 = q.2.1 ∧ v3 = q.2.2.1 ∧ v4 = q.2.2.2.2 ∧ FA q.2.2.2.2) := h
  refine ok_i (fun c => ?_) (fun c => ?_)
  · refine ok_bx (fun n2 e => ?_)
    exact ok_s (ok_w h (fun q hq => ⟨Int32.toInt_inj.mp (by have hq1 := hq.1; show q.2.2.2.1.toInt = (0 : Int32).toInt; omega), fun _ => by rw [← hq.2.1 (by omega)]; exact e, hq.2.2⟩))
  · refine ok_i (fun c => ?_) (fun c => ?_)
    · exact ok_s (ok_w h (fun q hq => ⟨Int32.toInt_inj.mp (by have hq1 := hq.1; show q.2.2.2.1.toInt = (1 : Int32).toInt; omega), fun h0 => absurd (show (1 : Int32) = 0 from h0) (by decide), hq.2.2⟩))
    · refine ok_i (fun c => ?_) (fun c => ?_)
      · exact ok_s (ok_w h (fun q hq => ⟨Int32.toInt_inj.mp (by have hq1 := hq.1; show q.2.2.2.1.toInt = (2 : Int32).toInt; omega), fun h0 => absurd (show (2 : Int32) = 0 from h0) (by decide), hq.2.2⟩))
      · exfalso
        obtain ⟨q, _, hq⟩ := h
        have hq1 := hq.1
        omega
set_option maxHeartbeats 1000000 in
theorem sL_factor (n : Int64) (ac : Int32) (rf : Int32) (sz : Int32) (fo : Nat → Int64) (ro : Nat → Int64) (th : Int32) (f_t_roll_before : Nat → Int64) (c_t_factors_parts_size : Int32) (f_t_factors_parts_held : Nat → Int64) (p0 : Int32) (p1 : Int32) (hp0 : FA fo) (hp1 : FA ro) (hp2 : 0 ≤ sz.toInt) (hp3 : sz.toInt ≤ 12) (hp4 : 0 ≤ c_t_factors_parts_size.toInt) (hp5 : c_t_factors_parts_size.toInt ≤ 12) : ok (F_L_factor ac rf fo sz ro f_t_roll_before c_t_factors_parts_size f_t_factors_parts_held n p0 p1) (fun r => ok (F_X9_factor sz ac rf th fo ro p0 p1) (fun q => q.2.2.2.2.1 = r.1 ∧ (r.1 = 0 → r.2.2.2.2.2.2.2.2 = q.1.toInt64) ∧ r.2.1 = q.2.2.1 ∧ r.2.2.1 = q.2.2.2.1 ∧ r.2.2.2.1 = q.2.1 ∧ r.2.2.2.2.1 = q.2.2.2.2.2 ∧ FA q.2.2.2.2.2 ∧ 0 ≤ q.2.1.toInt ∧ q.2.1.toInt ≤ 12 ∧ 0 ≤ r.2.2.2.2.2.2.1.toInt ∧ r.2.2.2.2.2.2.1.toInt ≤ 12)) := by
  have l0 : (0 : Int32).toInt = 0 := by decide
  have l1 : (1 : Int32).toInt = 1 := by decide
  have l2 : (2 : Int32).toInt = 2 := by decide
  unfold F_L_factor
  refine ok_o9 (s7_factor ac rf sz fo ro th f_t_roll_before c_t_factors_parts_size f_t_factors_parts_held p0 p1 hp0 hp1 hp2 hp3 hp4 hp5) (fun xc v1 v2 v3 v4 v5 v6 v7 v8 h => ?_)
  have h : ok (F_X9_factor sz ac rf th fo ro p0 p1) (fun q => ((xc = 0 ∧ q.2.2.2.2.1.toInt = 0) ∨ (xc = 1 ∧ q.2.2.2.2.1.toInt = 1) ∨ (xc = 2 ∧ q.2.2.2.2.1.toInt = 2)) ∧ (xc = 0 → v1 = q.1) ∧ v2 = q.2.2.1 ∧ v3 = q.2.2.2.1 ∧ v4 = q.2.1 ∧ v5 = q.2.2.2.2.2 ∧ FA q.2.2.2.2.2 ∧ 0 ≤ q.2.1.toInt ∧ q.2.1.toInt ≤ 12 ∧ 0 ≤ v7.toInt ∧ v7.toInt ≤ 12) := h
  refine ok_i (fun c => ?_) (fun c => ?_)
  · refine ok_bx (fun n2 e => ?_)
    exact ok_s (ok_w h (fun q hq => ⟨Int32.toInt_inj.mp (by have hq1 := hq.1; show q.2.2.2.2.1.toInt = (0 : Int32).toInt; omega), fun _ => by rw [← hq.2.1 (by omega)]; exact e, hq.2.2⟩))
  · refine ok_i (fun c => ?_) (fun c => ?_)
    · exact ok_s (ok_w h (fun q hq => ⟨Int32.toInt_inj.mp (by have hq1 := hq.1; show q.2.2.2.2.1.toInt = (1 : Int32).toInt; omega), fun h0 => absurd (show (1 : Int32) = 0 from h0) (by decide), hq.2.2⟩))
    · refine ok_i (fun c => ?_) (fun c => ?_)
      · exact ok_s (ok_w h (fun q hq => ⟨Int32.toInt_inj.mp (by have hq1 := hq.1; show q.2.2.2.2.1.toInt = (2 : Int32).toInt; omega), fun h0 => absurd (show (2 : Int32) = 0 from h0) (by decide), hq.2.2⟩))
      · exfalso
        obtain ⟨q, _, hq⟩ := h
        have hq1 := hq.1
        omega
set_option maxHeartbeats 1000000 in
theorem sL_enroll (n : Int64) (ac : Int32) (rf : Int32) (sz : Int32) (fo : Nat → Int64) (ro : Nat → Int64) (p0 : Int32) (hp0 : FA fo) (hp1 : FA ro) (hp2 : 0 ≤ sz.toInt) (hp3 : sz.toInt ≤ 12) : ok (F_L_enroll ac rf fo sz ro n p0) (fun r => ok (F_X9_enroll sz ac rf fo ro p0) (fun q => q.2.2.2.2.1 = r.1 ∧ (r.1 = 0 → r.2.2.2.2.2 = q.1.toInt64) ∧ r.2.1 = q.2.2.1 ∧ r.2.2.1 = q.2.2.2.1 ∧ r.2.2.2.1 = q.2.1 ∧ r.2.2.2.2.1 = q.2.2.2.2.2 ∧ FA q.2.2.2.2.2 ∧ 0 ≤ q.2.1.toInt ∧ q.2.1.toInt ≤ 12)) := by
  have l0 : (0 : Int32).toInt = 0 := by decide
  have l1 : (1 : Int32).toInt = 1 := by decide
  have l2 : (2 : Int32).toInt = 2 := by decide
  unfold F_L_enroll
  refine ok_o6 (s7_enroll ac rf sz fo ro p0 hp0 hp1 hp2 hp3) (fun xc v1 v2 v3 v4 v5 h => ?_)
  have h : ok (F_X9_enroll sz ac rf fo ro p0) (fun q => ((xc = 0 ∧ q.2.2.2.2.1.toInt = 0) ∨ (xc = 1 ∧ q.2.2.2.2.1.toInt = 1)) ∧ (xc = 0 → v1 = q.1) ∧ v2 = q.2.2.1 ∧ v3 = q.2.2.2.1 ∧ v4 = q.2.1 ∧ v5 = q.2.2.2.2.2 ∧ FA q.2.2.2.2.2 ∧ 0 ≤ q.2.1.toInt ∧ q.2.1.toInt ≤ 12) := h
  refine ok_i (fun c => ?_) (fun c => ?_)
  · refine ok_bx (fun n2 e => ?_)
    exact ok_s (ok_w h (fun q hq => ⟨Int32.toInt_inj.mp (by have hq1 := hq.1; show q.2.2.2.2.1.toInt = (0 : Int32).toInt; omega), fun _ => by rw [← hq.2.1 (by omega)]; exact e, hq.2.2⟩))
  · refine ok_i (fun c => ?_) (fun c => ?_)
    · exact ok_s (ok_w h (fun q hq => ⟨Int32.toInt_inj.mp (by have hq1 := hq.1; show q.2.2.2.2.1.toInt = (1 : Int32).toInt; omega), fun h0 => absurd (show (1 : Int32) = 0 from h0) (by decide), hq.2.2⟩))
    · exfalso
      obtain ⟨q, _, hq⟩ := h
      have hq1 := hq.1
      omega
set_option maxHeartbeats 1000000 in
theorem sL_strike (n : Int64) (ac : Int32) (sz : Int32) (ro : Nat → Int64) (th : Int32) (p0 : Int32) (hp0 : FA ro) (hp1 : 0 ≤ sz.toInt) (hp2 : sz.toInt ≤ 12) : ok (F_L_strike ac sz ro n p0) (fun r => ok (F_X9_strike sz ac th ro p0) (fun q => q.2.2.2.1 = r.1 ∧ (r.1 = 0 → r.2.2.2.2 = q.1.toInt64) ∧ r.2.1 = q.2.2.1 ∧ r.2.2.1 = q.2.1 ∧ r.2.2.2.1 = q.2.2.2.2 ∧ FA q.2.2.2.2 ∧ 0 ≤ q.2.1.toInt ∧ q.2.1.toInt ≤ 12)) := by
  have l0 : (0 : Int32).toInt = 0 := by decide
  have l1 : (1 : Int32).toInt = 1 := by decide
  have l2 : (2 : Int32).toInt = 2 := by decide
  unfold F_L_strike
  refine ok_o5 (s7_strike ac sz ro th p0 hp0 hp1 hp2) (fun xc v1 v2 v3 v4 h => ?_)
  have h : ok (F_X9_strike sz ac th ro p0) (fun q => ((xc = 0 ∧ q.2.2.2.1.toInt = 0) ∨ (xc = 1 ∧ q.2.2.2.1.toInt = 1)) ∧ (xc = 0 → v1 = q.1) ∧ v2 = q.2.2.1 ∧ v3 = q.2.1 ∧ v4 = q.2.2.2.2 ∧ FA q.2.2.2.2 ∧ 0 ≤ q.2.1.toInt ∧ q.2.1.toInt ≤ 12) := h
  refine ok_i (fun c => ?_) (fun c => ?_)
  · refine ok_bx (fun n2 e => ?_)
    exact ok_s (ok_w h (fun q hq => ⟨Int32.toInt_inj.mp (by have hq1 := hq.1; show q.2.2.2.1.toInt = (0 : Int32).toInt; omega), fun _ => by rw [← hq.2.1 (by omega)]; exact e, hq.2.2⟩))
  · refine ok_i (fun c => ?_) (fun c => ?_)
    · exact ok_s (ok_w h (fun q hq => ⟨Int32.toInt_inj.mp (by have hq1 := hq.1; show q.2.2.2.1.toInt = (1 : Int32).toInt; omega), fun h0 => absurd (show (1 : Int32) = 0 from h0) (by decide), hq.2.2⟩))
    · exfalso
      obtain ⟨q, _, hq⟩ := h
      have hq1 := hq.1
      omega
set_option maxHeartbeats 1000000 in
theorem sL_take (n : Int64) (ac : Int32) (sz : Int32) (fo : Nat → Int64) (ro : Nat → Int64) (p0 : Int32) (p1 : Int32) (hp0 : FA fo) (hp1 : FA ro) (hp2 : 0 ≤ sz.toInt) (hp3 : sz.toInt ≤ 12) : ok (F_L_take ac fo sz ro n p0 p1) (fun r => ok (F_X9_take sz ac fo ro p0 p1) (fun q => q.2.2.1 = r.1 ∧ (r.1 = 0 → r.2.2.2 = q.1.toInt64) ∧ r.2.1 = q.2.1 ∧ r.2.2.1 = q.2.2.2 ∧ FA q.2.2.2)) := by
  have l0 : (0 : Int32).toInt = 0 := by decide
  have l1 : (1 : Int32).toInt = 1 := by decide
  have l2 : (2 : Int32).toInt = 2 := by decide
  unfold F_L_take
  refine ok_o4 (s7_take ac sz fo ro p0 p1 hp0 hp1 hp2 hp3) (fun xc v1 v2 v3 h => ?_)
  have h : ok (F_X9_take sz ac fo ro p0 p1) (fun q => ((xc = 0 ∧ q.2.2.1.toInt = 0) ∨ (xc = 1 ∧ q.2.2.1.toInt = 1)) ∧ (xc = 0 → v1 = q.1) ∧ v2 = q.2.1 ∧ v3 = q.2.2.2 ∧ FA q.2.2.2) := h
  refine ok_i (fun c => ?_) (fun c => ?_)
  · refine ok_bx (fun n2 e => ?_)
    exact ok_s (ok_w h (fun q hq => ⟨Int32.toInt_inj.mp (by have hq1 := hq.1; show q.2.2.1.toInt = (0 : Int32).toInt; omega), fun _ => by rw [← hq.2.1 (by omega)]; exact e, hq.2.2⟩))
  · refine ok_i (fun c => ?_) (fun c => ?_)
    · exact ok_s (ok_w h (fun q hq => ⟨Int32.toInt_inj.mp (by have hq1 := hq.1; show q.2.2.1.toInt = (1 : Int32).toInt; omega), fun h0 => absurd (show (1 : Int32) = 0 from h0) (by decide), hq.2.2⟩))
    · exfalso
      obtain ⟨q, _, hq⟩ := h
      have hq1 := hq.1
      omega
set_option maxHeartbeats 1000000 in
theorem sL_product (n : Int64) (ac : Int32) (rf : Int32) (sz : Int32) (fo : Nat → Int64) (ro : Nat → Int64) (th : Int32) (p0 : Int32) (hp0 : FA fo) (hp1 : FA ro) (hp2 : 0 ≤ sz.toInt) (hp3 : sz.toInt ≤ 12) : ok (F_L_product ac rf fo sz ro n p0) (fun r => ok (F_X9_product sz ac rf th fo ro p0) (fun q => q.2.2.2.1 = r.1 ∧ (r.1 = 0 → r.2.2.2.2 = q.1.toInt64) ∧ r.2.1 = q.2.1 ∧ r.2.2.1 = q.2.2.1 ∧ r.2.2.2.1 = q.2.2.2.2 ∧ FA q.2.2.2.2)) := by
  have l0 : (0 : Int32).toInt = 0 := by decide
  have l1 : (1 : Int32).toInt = 1 := by decide
  have l2 : (2 : Int32).toInt = 2 := by decide
  unfold F_L_product
  refine ok_o5 (s7_product ac rf sz fo ro th p0 hp0 hp1 hp2 hp3) (fun xc v1 v2 v3 v4 h => ?_)
  have h : ok (F_X9_product sz ac rf th fo ro p0) (fun q => ((xc = 0 ∧ q.2.2.2.1.toInt = 0) ∨ (xc = 1 ∧ q.2.2.2.1.toInt = 1)) ∧ (xc = 0 → v1 = q.1) ∧ v2 = q.2.1 ∧ v3 = q.2.2.1 ∧ v4 = q.2.2.2.2 ∧ FA q.2.2.2.2) := h
  refine ok_i (fun c => ?_) (fun c => ?_)
  · refine ok_bx (fun n2 e => ?_)
    exact ok_s (ok_w h (fun q hq => ⟨Int32.toInt_inj.mp (by have hq1 := hq.1; show q.2.2.2.1.toInt = (0 : Int32).toInt; omega), fun _ => by rw [← hq.2.1 (by omega)]; exact e, hq.2.2⟩))
  · refine ok_i (fun c => ?_) (fun c => ?_)
    · exact ok_s (ok_w h (fun q hq => ⟨Int32.toInt_inj.mp (by have hq1 := hq.1; show q.2.2.2.1.toInt = (1 : Int32).toInt; omega), fun h0 => absurd (show (1 : Int32) = 0 from h0) (by decide), hq.2.2⟩))
    · exfalso
      obtain ⟨q, _, hq⟩ := h
      have hq1 := hq.1
      omega
set_option maxHeartbeats 1000000 in
theorem sL_start (n : Int64) (ac : Int32) (rf : Int32) (ce : Int32) (fo : Nat → Int64) (ta : Int64) (p0 : Int32) (hp0 : FA fo) (hp1 : CT ta ce) : ok (F_L_start ac rf fo ta (ce.toInt64) n p0) (fun r => ok (F_X9_start ta ce ac rf fo p0) (fun q => q.2.2.2.2.2 = r.1 ∧ (r.1 = 0 → r.2.2.2.2.2 = q.1.toInt64) ∧ r.2.1 = q.2.2.2.1 ∧ r.2.2.1 = q.2.2.2.2.1 ∧ r.2.2.2.1 = q.2.1 ∧ r.2.2.2.2.1 = q.2.2.1.toInt64 ∧ CT q.2.1 q.2.2.1)) := by
  have l0 : (0 : Int32).toInt = 0 := by decide
  have l1 : (1 : Int32).toInt = 1 := by decide
  have l2 : (2 : Int32).toInt = 2 := by decide
  unfold F_L_start
  refine ok_o6 (s7_start ac rf ce fo ta p0 hp0 hp1) (fun xc v1 v2 v3 v4 v5 h => ?_)
  have h : ok (F_X9_start ta ce ac rf fo p0) (fun q => ((xc = 0 ∧ q.2.2.2.2.2.toInt = 0) ∨ (xc = 1 ∧ q.2.2.2.2.2.toInt = 1)) ∧ (xc = 0 → v1 = q.1) ∧ v2 = q.2.2.2.1 ∧ v3 = q.2.2.2.2.1 ∧ v4 = q.2.1 ∧ v5 = q.2.2.1.toInt64 ∧ CT q.2.1 q.2.2.1) := h
  refine ok_i (fun c => ?_) (fun c => ?_)
  · refine ok_bx (fun n2 e => ?_)
    exact ok_s (ok_w h (fun q hq => ⟨Int32.toInt_inj.mp (by have hq1 := hq.1; show q.2.2.2.2.2.toInt = (0 : Int32).toInt; omega), fun _ => by rw [← hq.2.1 (by omega)]; exact e, hq.2.2⟩))
  · refine ok_i (fun c => ?_) (fun c => ?_)
    · exact ok_s (ok_w h (fun q hq => ⟨Int32.toInt_inj.mp (by have hq1 := hq.1; show q.2.2.2.2.2.toInt = (1 : Int32).toInt; omega), fun h0 => absurd (show (1 : Int32) = 0 from h0) (by decide), hq.2.2⟩))
    · exfalso
      obtain ⟨q, _, hq⟩ := h
      have hq1 := hq.1
      omega
set_option maxHeartbeats 1000000 in
theorem sL_step (n : Int64) (ac : Int32) (ce : Int32) (ta : Int64) (p0 : Int32) (hp0 : CT ta ce) : ok (F_L_step ac ta (ce.toInt64) n p0) (fun r => ok (F_X9_step ta ce ac p0) (fun q => q.2.2.2 = r.1 ∧ (r.1 = 0 → r.2.2.2 = q.1.toInt64) ∧ r.2.1 = q.2.2.1 ∧ r.2.2.1 = q.2.1.toInt64 ∧ CT ta q.2.1)) := by
  have l0 : (0 : Int32).toInt = 0 := by decide
  have l1 : (1 : Int32).toInt = 1 := by decide
  have l2 : (2 : Int32).toInt = 2 := by decide
  unfold F_L_step
  refine ok_o4 (s7_step ac ce ta p0 hp0) (fun xc v1 v2 v3 h => ?_)
  have h : ok (F_X9_step ta ce ac p0) (fun q => ((xc = 0 ∧ q.2.2.2.toInt = 0) ∨ (xc = 2 ∧ q.2.2.2.toInt = 1)) ∧ (xc = 0 → v1 = q.1) ∧ v2 = q.2.2.1 ∧ v3 = q.2.1.toInt64 ∧ CT ta q.2.1) := h
  refine ok_i (fun c => ?_) (fun c => ?_)
  · refine ok_bx (fun n2 e => ?_)
    exact ok_s (ok_w h (fun q hq => ⟨Int32.toInt_inj.mp (by have hq1 := hq.1; show q.2.2.2.toInt = (0 : Int32).toInt; omega), fun _ => by rw [← hq.2.1 (by omega)]; exact e, hq.2.2⟩))
  · refine ok_i (fun c => ?_) (fun c => ?_)
    · exact ok_s (ok_w h (fun q hq => ⟨Int32.toInt_inj.mp (by have hq1 := hq.1; show q.2.2.2.toInt = (1 : Int32).toInt; omega), fun h0 => absurd (show (1 : Int32) = 0 from h0) (by decide), hq.2.2⟩))
    · exfalso
      obtain ⟨q, _, hq⟩ := h
      have hq1 := hq.1
      omega
set_option maxHeartbeats 1000000 in
theorem sL_load (n : Int64) (ac : Int32) (rf : Int32) (ce : Int32) (ta : Int64) (p0 : Int32) (hp0 : CT ta ce) : ok (F_L_load ac rf ta (ce.toInt64) n p0) (fun r => ok (F_X9_load ta ce ac rf p0) (fun q => q.2.2.2.2 = r.1 ∧ (r.1 = 0 → r.2.2.2.2 = q.1.toInt64) ∧ r.2.1 = q.2.2.1 ∧ r.2.2.1 = q.2.2.2.1 ∧ r.2.2.2.1 = q.2.1.toInt64 ∧ CT ta q.2.1)) := by
  have l0 : (0 : Int32).toInt = 0 := by decide
  have l1 : (1 : Int32).toInt = 1 := by decide
  have l2 : (2 : Int32).toInt = 2 := by decide
  unfold F_L_load
  refine ok_o5 (s7_load ac rf ce ta p0 hp0) (fun xc v1 v2 v3 v4 h => ?_)
  have h : ok (F_X9_load ta ce ac rf p0) (fun q => ((xc = 0 ∧ q.2.2.2.2.toInt = 0) ∨ (xc = 2 ∧ q.2.2.2.2.toInt = 1)) ∧ (xc = 0 → v1 = q.1) ∧ v2 = q.2.2.1 ∧ v3 = q.2.2.2.1 ∧ v4 = q.2.1.toInt64 ∧ CT ta q.2.1) := h
  refine ok_i (fun c => ?_) (fun c => ?_)
  · refine ok_bx (fun n2 e => ?_)
    exact ok_s (ok_w h (fun q hq => ⟨Int32.toInt_inj.mp (by have hq1 := hq.1; show q.2.2.2.2.toInt = (0 : Int32).toInt; omega), fun _ => by rw [← hq.2.1 (by omega)]; exact e, hq.2.2⟩))
  · refine ok_i (fun c => ?_) (fun c => ?_)
    · exact ok_s (ok_w h (fun q hq => ⟨Int32.toInt_inj.mp (by have hq1 := hq.1; show q.2.2.2.2.toInt = (1 : Int32).toInt; omega), fun h0 => absurd (show (1 : Int32) = 0 from h0) (by decide), hq.2.2⟩))
    · exfalso
      obtain ⟨q, _, hq⟩ := h
      have hq1 := hq.1
      omega
