/-! S8. the walk of two: the class's method and the reference's from one and the same state -/
theorem fy_X1_findByTrying (f : Nat → Int64) (p0 : Int64) (h1 : 1 ≤ DG p0) (h2 : DG p0 ≤ 10) : ok (F_X1_findByTrying f p0) (fun r => r.1 = fN p0 ∧ r.2 = fA f p0 ∧ 1 ≤ r.1.toInt ∧ r.1.toInt ≤ 11) := by
  have b := fN_b h1 h2
  exact ok_w (fx_X1_findByTrying f p0 h1 h2) (fun r h => ⟨h.1, h.2, by rw [h.1]; exact b.1, by rw [h.1]; exact b.2.1⟩)
theorem fy_X1_findByDegrees (c : Int32) (h f : Nat → Int64) (p0 : Int64) (h1 : 1 ≤ DG p0) (h2 : DG p0 ≤ 10) (h3 : 0 ≤ c.toInt) (h4 : c.toInt ≤ 12) : ok (F_X1_findByDegrees c h f p0) (fun r => r.2.2.1 = fN p0 ∧ r.2.2.2 = upl f (fB p0) ∧ 0 ≤ r.1.toInt ∧ r.1.toInt ≤ 12 ∧ 1 ≤ r.2.2.1.toInt ∧ r.2.2.1.toInt ≤ 11) := by
  have b := fN_b h1 h2
  exact ok_w (fx_X1_findByDegrees c h f p0 h1 h2 h3 h4) (fun r h => ⟨h.1, h.2.1, h.2.2.1, h.2.2.2, by rw [h.1]; exact b.1, by rw [h.1]; exact b.2.1⟩)
theorem sw_at (f : Nat → Int64) (i j : Nat) : vp_updL (vp_updL f i (f j)) j (f i) i = f j := by
  by_cases h : i = j
  · subst h; exact uu_a _ _ _
  · rw [uu_n h, uu_a]
theorem mu_init1 {z : Nat → Int64} {a : Int64} : ∀ i, i < 3 → vp_updL (vp_updL (vp_updL z (0 : Int32).toNatClampNeg a) (1 : Int32).toNatClampNeg (1 : Int64)) (2 : Int32).toNatClampNeg (0 : Int64) i = ma a i := (mu_init (z := z) (z' := z) (a := a) (b := a)).1
theorem mu_init2 {z : Nat → Int64} {b : Int64} : ∀ i, i < 3 → vp_updL (vp_updL (vp_updL z (0 : Int32).toNatClampNeg b) (1 : Int32).toNatClampNeg (0 : Int64)) (2 : Int32).toNatClampNeg (1 : Int64) i = mb b i := (mu_init (z := z) (z' := z) (a := b) (b := b)).2
set_option maxHeartbeats 1000000 in
theorem fx_X7_testForm (p0 : Int32)  : ok (F_X7_testForm p0) (fun r => (r = 0 ∧ 0 ≤ p0.toInt ∧ p0.toInt ≤ 5) ∨ (r = 1 ∧ (p0.toInt < 0 ∨ 5 < p0.toInt))) := by
  have l032 : (0 : Int32).toInt = 0 := by decide
  have l532 : (5 : Int32).toInt = 5 := by decide
  unfold F_X7_testForm
  refine ok_o (sp_X7_isBetween p0 (0 : Int32) (5 : Int32) ) (fun r3 h1 => ?_)
  have h1 : (r3.toInt = 0 ∧ (p0.toInt < (0 : Int32).toInt ∨ (5 : Int32).toInt < p0.toInt)) ∨ (r3.toInt = 1 ∧ (0 : Int32).toInt ≤ p0.toInt ∧ p0.toInt ≤ (5 : Int32).toInt) := h1
  refine ok_eq (fun c2 => ?_) (fun c2 => ?_)
  · exact ok_s (show (1 = 0 ∧ 0 ≤ p0.toInt ∧ p0.toInt ≤ 5) ∨ (1 = 1 ∧ (p0.toInt < 0 ∨ 5 < p0.toInt)) from by first | omega | assumption | trivial | (refine ⟨?_, ?_⟩ <;> first | omega | assumption | trivial | rfl) | (refine ⟨?_, ?_, ?_⟩ <;> first | omega | assumption | trivial | rfl) | (refine ⟨?_, ?_, ?_, ?_⟩ <;> first | omega | assumption | trivial | rfl) | (refine ⟨?_, ?_, ?_, ?_, ?_⟩ <;> first | omega | assumption | trivial | rfl) | (refine ⟨?_, ?_, ?_, ?_, ?_, ?_⟩ <;> first | omega | assumption | trivial | rfl) | (refine ⟨?_, ?_, ?_, ?_, ?_, ?_, ?_⟩ <;> first | omega | assumption | trivial | rfl) | (refine ⟨?_, ?_, ?_, ?_, ?_, ?_, ?_, ?_⟩ <;> first | omega | assumption | trivial | rfl))
  · exact ok_s (show (0 = 0 ∧ 0 ≤ p0.toInt ∧ p0.toInt ≤ 5) ∨ (0 = 1 ∧ (p0.toInt < 0 ∨ 5 < p0.toInt)) from by first | omega | assumption | trivial | (refine ⟨?_, ?_⟩ <;> first | omega | assumption | trivial | rfl) | (refine ⟨?_, ?_, ?_⟩ <;> first | omega | assumption | trivial | rfl) | (refine ⟨?_, ?_, ?_, ?_⟩ <;> first | omega | assumption | trivial | rfl) | (refine ⟨?_, ?_, ?_, ?_, ?_⟩ <;> first | omega | assumption | trivial | rfl) | (refine ⟨?_, ?_, ?_, ?_, ?_, ?_⟩ <;> first | omega | assumption | trivial | rfl) | (refine ⟨?_, ?_, ?_, ?_, ?_, ?_, ?_⟩ <;> first | omega | assumption | trivial | rfl) | (refine ⟨?_, ?_, ?_, ?_, ?_, ?_, ?_, ?_⟩ <;> first | omega | assumption | trivial | rfl))
set_option maxHeartbeats 1000000 in
theorem fx_X7_testPlace (p0 : Int32)  : ok (F_X7_testPlace p0) (fun r => (r = 0 ∧ 0 ≤ p0.toInt ∧ p0.toInt ≤ 39) ∨ (r = 1 ∧ (p0.toInt < 0 ∨ 39 < p0.toInt))) := by
  have l032 : (0 : Int32).toInt = 0 := by decide
  have l3932 : (39 : Int32).toInt = 39 := by decide
  unfold F_X7_testPlace
  refine ok_o (sp_X7_isBetween p0 (0 : Int32) (39 : Int32) ) (fun r4 h1 => ?_)
  have h1 : (r4.toInt = 0 ∧ (p0.toInt < (0 : Int32).toInt ∨ (39 : Int32).toInt < p0.toInt)) ∨ (r4.toInt = 1 ∧ (0 : Int32).toInt ≤ p0.toInt ∧ p0.toInt ≤ (39 : Int32).toInt) := h1
  refine ok_eq (fun c2 => ?_) (fun c2 => ?_)
  · exact ok_s (show (1 = 0 ∧ 0 ≤ p0.toInt ∧ p0.toInt ≤ 39) ∨ (1 = 1 ∧ (p0.toInt < 0 ∨ 39 < p0.toInt)) from by first | omega | assumption | trivial | (refine ⟨?_, ?_⟩ <;> first | omega | assumption | trivial | rfl) | (refine ⟨?_, ?_, ?_⟩ <;> first | omega | assumption | trivial | rfl) | (refine ⟨?_, ?_, ?_, ?_⟩ <;> first | omega | assumption | trivial | rfl) | (refine ⟨?_, ?_, ?_, ?_, ?_⟩ <;> first | omega | assumption | trivial | rfl) | (refine ⟨?_, ?_, ?_, ?_, ?_, ?_⟩ <;> first | omega | assumption | trivial | rfl) | (refine ⟨?_, ?_, ?_, ?_, ?_, ?_, ?_⟩ <;> first | omega | assumption | trivial | rfl) | (refine ⟨?_, ?_, ?_, ?_, ?_, ?_, ?_, ?_⟩ <;> first | omega | assumption | trivial | rfl))
  · exact ok_s (show (0 = 0 ∧ 0 ≤ p0.toInt ∧ p0.toInt ≤ 39) ∨ (0 = 1 ∧ (p0.toInt < 0 ∨ 39 < p0.toInt)) from by first | omega | assumption | trivial | (refine ⟨?_, ?_⟩ <;> first | omega | assumption | trivial | rfl) | (refine ⟨?_, ?_, ?_⟩ <;> first | omega | assumption | trivial | rfl) | (refine ⟨?_, ?_, ?_, ?_⟩ <;> first | omega | assumption | trivial | rfl) | (refine ⟨?_, ?_, ?_, ?_, ?_⟩ <;> first | omega | assumption | trivial | rfl) | (refine ⟨?_, ?_, ?_, ?_, ?_, ?_⟩ <;> first | omega | assumption | trivial | rfl) | (refine ⟨?_, ?_, ?_, ?_, ?_, ?_, ?_⟩ <;> first | omega | assumption | trivial | rfl) | (refine ⟨?_, ?_, ?_, ?_, ?_, ?_, ?_, ?_⟩ <;> first | omega | assumption | trivial | rfl))
set_option maxHeartbeats 1000000 in
theorem fx_X7_testForms (p0 : Int32) (p1 : Int32) (p2 : Int32)  : ok (F_X7_testForms p0 p1 p2) (fun r => (r = 0 ∧ 0 ≤ p0.toInt ∧ p0.toInt ≤ 5 ∧ 0 ≤ p1.toInt ∧ p1.toInt ≤ 5 ∧ 0 ≤ p2.toInt ∧ p2.toInt ≤ 5) ∨ (r = 1 ∧ (p0.toInt < 0 ∨ 5 < p0.toInt ∨ p1.toInt < 0 ∨ 5 < p1.toInt ∨ p2.toInt < 0 ∨ 5 < p2.toInt))) := by
  have l032 : (0 : Int32).toInt = 0 := by decide
  unfold F_X7_testForms
  refine ok_o (fx_X7_testForm p0 ) (fun xc1 h1 => ?_)
  have h1 : (xc1 = 0 ∧ 0 ≤ p0.toInt ∧ p0.toInt ≤ 5) ∨ (xc1 = 1 ∧ (p0.toInt < 0 ∨ 5 < p0.toInt)) := h1
  refine ok_i (fun c2 => ?_) (fun c2 => ?_)
  · refine ok_o (fx_X7_testForm p1 ) (fun xc5 h3 => ?_)
    have h3 : (xc5 = 0 ∧ 0 ≤ p1.toInt ∧ p1.toInt ≤ 5) ∨ (xc5 = 1 ∧ (p1.toInt < 0 ∨ 5 < p1.toInt)) := h3
    refine ok_i (fun c4 => ?_) (fun c4 => ?_)
    · refine ok_o (fx_X7_testForm p2 ) (fun xc9 h5 => ?_)
      have h5 : (xc9 = 0 ∧ 0 ≤ p2.toInt ∧ p2.toInt ≤ 5) ∨ (xc9 = 1 ∧ (p2.toInt < 0 ∨ 5 < p2.toInt)) := h5
      refine ok_i (fun c6 => ?_) (fun c6 => ?_)
      · exact ok_s (show (0 = 0 ∧ 0 ≤ p0.toInt ∧ p0.toInt ≤ 5 ∧ 0 ≤ p1.toInt ∧ p1.toInt ≤ 5 ∧ 0 ≤ p2.toInt ∧ p2.toInt ≤ 5) ∨ (0 = 1 ∧ (p0.toInt < 0 ∨ 5 < p0.toInt ∨ p1.toInt < 0 ∨ 5 < p1.toInt ∨ p2.toInt < 0 ∨ 5 < p2.toInt)) from by first | omega | assumption | trivial | (refine ⟨?_, ?_⟩ <;> first | omega | assumption | trivial | rfl) | (refine ⟨?_, ?_, ?_⟩ <;> first | omega | assumption | trivial | rfl) | (refine ⟨?_, ?_, ?_, ?_⟩ <;> first | omega | assumption | trivial | rfl) | (refine ⟨?_, ?_, ?_, ?_, ?_⟩ <;> first | omega | assumption | trivial | rfl) | (refine ⟨?_, ?_, ?_, ?_, ?_, ?_⟩ <;> first | omega | assumption | trivial | rfl) | (refine ⟨?_, ?_, ?_, ?_, ?_, ?_, ?_⟩ <;> first | omega | assumption | trivial | rfl) | (refine ⟨?_, ?_, ?_, ?_, ?_, ?_, ?_, ?_⟩ <;> first | omega | assumption | trivial | rfl))
      · exact ok_s (show (xc9 = 0 ∧ 0 ≤ p0.toInt ∧ p0.toInt ≤ 5 ∧ 0 ≤ p1.toInt ∧ p1.toInt ≤ 5 ∧ 0 ≤ p2.toInt ∧ p2.toInt ≤ 5) ∨ (xc9 = 1 ∧ (p0.toInt < 0 ∨ 5 < p0.toInt ∨ p1.toInt < 0 ∨ 5 < p1.toInt ∨ p2.toInt < 0 ∨ 5 < p2.toInt)) from by first | omega | assumption | trivial | (refine ⟨?_, ?_⟩ <;> first | omega | assumption | trivial | rfl) | (refine ⟨?_, ?_, ?_⟩ <;> first | omega | assumption | trivial | rfl) | (refine ⟨?_, ?_, ?_, ?_⟩ <;> first | omega | assumption | trivial | rfl) | (refine ⟨?_, ?_, ?_, ?_, ?_⟩ <;> first | omega | assumption | trivial | rfl) | (refine ⟨?_, ?_, ?_, ?_, ?_, ?_⟩ <;> first | omega | assumption | trivial | rfl) | (refine ⟨?_, ?_, ?_, ?_, ?_, ?_, ?_⟩ <;> first | omega | assumption | trivial | rfl) | (refine ⟨?_, ?_, ?_, ?_, ?_, ?_, ?_, ?_⟩ <;> first | omega | assumption | trivial | rfl))
    · exact ok_s (show (xc5 = 0 ∧ 0 ≤ p0.toInt ∧ p0.toInt ≤ 5 ∧ 0 ≤ p1.toInt ∧ p1.toInt ≤ 5 ∧ 0 ≤ p2.toInt ∧ p2.toInt ≤ 5) ∨ (xc5 = 1 ∧ (p0.toInt < 0 ∨ 5 < p0.toInt ∨ p1.toInt < 0 ∨ 5 < p1.toInt ∨ p2.toInt < 0 ∨ 5 < p2.toInt)) from by first | omega | assumption | trivial | (refine ⟨?_, ?_⟩ <;> first | omega | assumption | trivial | rfl) | (refine ⟨?_, ?_, ?_⟩ <;> first | omega | assumption | trivial | rfl) | (refine ⟨?_, ?_, ?_, ?_⟩ <;> first | omega | assumption | trivial | rfl) | (refine ⟨?_, ?_, ?_, ?_, ?_⟩ <;> first | omega | assumption | trivial | rfl) | (refine ⟨?_, ?_, ?_, ?_, ?_, ?_⟩ <;> first | omega | assumption | trivial | rfl) | (refine ⟨?_, ?_, ?_, ?_, ?_, ?_, ?_⟩ <;> first | omega | assumption | trivial | rfl) | (refine ⟨?_, ?_, ?_, ?_, ?_, ?_, ?_, ?_⟩ <;> first | omega | assumption | trivial | rfl))
  · exact ok_s (show (xc1 = 0 ∧ 0 ≤ p0.toInt ∧ p0.toInt ≤ 5 ∧ 0 ≤ p1.toInt ∧ p1.toInt ≤ 5 ∧ 0 ≤ p2.toInt ∧ p2.toInt ≤ 5) ∨ (xc1 = 1 ∧ (p0.toInt < 0 ∨ 5 < p0.toInt ∨ p1.toInt < 0 ∨ 5 < p1.toInt ∨ p2.toInt < 0 ∨ 5 < p2.toInt)) from by first | omega | assumption | trivial | (refine ⟨?_, ?_⟩ <;> first | omega | assumption | trivial | rfl) | (refine ⟨?_, ?_, ?_⟩ <;> first | omega | assumption | trivial | rfl) | (refine ⟨?_, ?_, ?_, ?_⟩ <;> first | omega | assumption | trivial | rfl) | (refine ⟨?_, ?_, ?_, ?_, ?_⟩ <;> first | omega | assumption | trivial | rfl) | (refine ⟨?_, ?_, ?_, ?_, ?_, ?_⟩ <;> first | omega | assumption | trivial | rfl) | (refine ⟨?_, ?_, ?_, ?_, ?_, ?_, ?_⟩ <;> first | omega | assumption | trivial | rfl) | (refine ⟨?_, ?_, ?_, ?_, ?_, ?_, ?_, ?_⟩ <;> first | omega | assumption | trivial | rfl))
set_option maxHeartbeats 1000000 in
theorem fx_X7_testRolled (c_t_roll_size : Int32) (p0 : Int32) (hp0 : 0 ≤ c_t_roll_size.toInt) (hp1 : c_t_roll_size.toInt ≤ 12) : ok (F_X7_testRolled c_t_roll_size p0) (fun r => (r = 0 ∧ 0 ≤ p0.toInt ∧ p0.toInt ≤ c_t_roll_size.toInt - 1) ∨ (r = 1 ∧ (p0.toInt < 0 ∨ c_t_roll_size.toInt ≤ p0.toInt))) := by
  have l032 : (0 : Int32).toInt = 0 := by decide
  have l132 : (1 : Int32).toInt = 1 := by decide
  unfold F_X7_testRolled
  obtain ⟨w1, e_w1⟩ : ∃ w : Int32, w = c_t_roll_size - (1 : Int32) := ⟨_, rfl⟩
  try have t_w1 : w1.toInt = c_t_roll_size.toInt - 1 := by rw [e_w1]; exact subT1 (show (1 : Int32).toInt = 1 from by decide) (by omega) (by omega)
  try rw [← e_w1]
  refine ok_o (sp_X7_isBetween p0 (0 : Int32) w1 ) (fun r11 h2 => ?_)
  have h2 : (r11.toInt = 0 ∧ (p0.toInt < (0 : Int32).toInt ∨ w1.toInt < p0.toInt)) ∨ (r11.toInt = 1 ∧ (0 : Int32).toInt ≤ p0.toInt ∧ p0.toInt ≤ w1.toInt) := h2
  refine ok_eq (fun c3 => ?_) (fun c3 => ?_)
  · exact ok_s (show (1 = 0 ∧ 0 ≤ p0.toInt ∧ p0.toInt ≤ c_t_roll_size.toInt - 1) ∨ (1 = 1 ∧ (p0.toInt < 0 ∨ c_t_roll_size.toInt ≤ p0.toInt)) from by first | omega | assumption | trivial | (refine ⟨?_, ?_⟩ <;> first | omega | assumption | trivial | rfl) | (refine ⟨?_, ?_, ?_⟩ <;> first | omega | assumption | trivial | rfl) | (refine ⟨?_, ?_, ?_, ?_⟩ <;> first | omega | assumption | trivial | rfl) | (refine ⟨?_, ?_, ?_, ?_, ?_⟩ <;> first | omega | assumption | trivial | rfl) | (refine ⟨?_, ?_, ?_, ?_, ?_, ?_⟩ <;> first | omega | assumption | trivial | rfl) | (refine ⟨?_, ?_, ?_, ?_, ?_, ?_, ?_⟩ <;> first | omega | assumption | trivial | rfl) | (refine ⟨?_, ?_, ?_, ?_, ?_, ?_, ?_, ?_⟩ <;> first | omega | assumption | trivial | rfl))
  · exact ok_s (show (0 = 0 ∧ 0 ≤ p0.toInt ∧ p0.toInt ≤ c_t_roll_size.toInt - 1) ∨ (0 = 1 ∧ (p0.toInt < 0 ∨ c_t_roll_size.toInt ≤ p0.toInt)) from by first | omega | assumption | trivial | (refine ⟨?_, ?_⟩ <;> first | omega | assumption | trivial | rfl) | (refine ⟨?_, ?_, ?_⟩ <;> first | omega | assumption | trivial | rfl) | (refine ⟨?_, ?_, ?_, ?_⟩ <;> first | omega | assumption | trivial | rfl) | (refine ⟨?_, ?_, ?_, ?_, ?_⟩ <;> first | omega | assumption | trivial | rfl) | (refine ⟨?_, ?_, ?_, ?_, ?_, ?_⟩ <;> first | omega | assumption | trivial | rfl) | (refine ⟨?_, ?_, ?_, ?_, ?_, ?_, ?_⟩ <;> first | omega | assumption | trivial | rfl) | (refine ⟨?_, ?_, ?_, ?_, ?_, ?_, ?_, ?_⟩ <;> first | omega | assumption | trivial | rfl))
set_option maxHeartbeats 1000000 in
theorem fx_X9_areNot (p0 : Int32) (p1 : Int32) (p2 : Int32)  : ok (F_X9_areNot p0 p1 p2) (fun r => (r.1.toInt = 0 ∧ r.2.toInt = 0 ∧ 0 ≤ p0.toInt ∧ p0.toInt ≤ 5 ∧ 0 ≤ p1.toInt ∧ p1.toInt ≤ 5 ∧ 0 ≤ p2.toInt ∧ p2.toInt ≤ 5) ∨ (r.1.toInt = 1 ∧ r.2.toInt = 1 ∧ (p0.toInt < 0 ∨ 5 < p0.toInt ∨ p1.toInt < 0 ∨ 5 < p1.toInt ∨ p2.toInt < 0 ∨ 5 < p2.toInt))) := by
  have l032 : (0 : Int32).toInt = 0 := by decide
  have l132 : (1 : Int32).toInt = 1 := by decide
  unfold F_X9_areNot
  refine ok_o (sp_X9_isForm p0 ) (fun r2 h1 => ?_)
  have h1 : (r2.toInt = 1 ∧ 0 ≤ p0.toInt ∧ p0.toInt ≤ 5) ∨ (r2.toInt = 0 ∧ (p0.toInt < 0 ∨ 6 ≤ p0.toInt)) := h1
  refine ok_eq (fun c2 => ?_) (fun c2 => ?_)
  · refine ok_o2 (sp_X9_isThrown_ (1 : Int32) ) (fun r27 c_t_thrown_27 h3 => ?_)
    have h3 : (r27.toInt = 0 ∧ c_t_thrown_27.toInt = 0 ∧ (1 : Int32).toInt = 0) ∨ (r27.toInt = 1 ∧ c_t_thrown_27.toInt = 1 ∧ (1 : Int32).toInt ≠ 0) := h3
    refine ok_z (by first | omega | exact zr_of (by omega) | assumption) ?_
    exact ok_s (show (r27.toInt = 0 ∧ c_t_thrown_27.toInt = 0 ∧ 0 ≤ p0.toInt ∧ p0.toInt ≤ 5 ∧ 0 ≤ p1.toInt ∧ p1.toInt ≤ 5 ∧ 0 ≤ p2.toInt ∧ p2.toInt ≤ 5) ∨ (r27.toInt = 1 ∧ c_t_thrown_27.toInt = 1 ∧ (p0.toInt < 0 ∨ 5 < p0.toInt ∨ p1.toInt < 0 ∨ 5 < p1.toInt ∨ p2.toInt < 0 ∨ 5 < p2.toInt)) from by first | omega | assumption | trivial | (refine ⟨?_, ?_⟩ <;> first | omega | assumption | trivial | rfl) | (refine ⟨?_, ?_, ?_⟩ <;> first | omega | assumption | trivial | rfl) | (refine ⟨?_, ?_, ?_, ?_⟩ <;> first | omega | assumption | trivial | rfl) | (refine ⟨?_, ?_, ?_, ?_, ?_⟩ <;> first | omega | assumption | trivial | rfl) | (refine ⟨?_, ?_, ?_, ?_, ?_, ?_⟩ <;> first | omega | assumption | trivial | rfl) | (refine ⟨?_, ?_, ?_, ?_, ?_, ?_, ?_⟩ <;> first | omega | assumption | trivial | rfl) | (refine ⟨?_, ?_, ?_, ?_, ?_, ?_, ?_, ?_⟩ <;> first | omega | assumption | trivial | rfl))
  · refine ok_o (sp_X9_isForm p1 ) (fun r9 h4 => ?_)
    have h4 : (r9.toInt = 1 ∧ 0 ≤ p1.toInt ∧ p1.toInt ≤ 5) ∨ (r9.toInt = 0 ∧ (p1.toInt < 0 ∨ 6 ≤ p1.toInt)) := h4
    refine ok_eq (fun c5 => ?_) (fun c5 => ?_)
    · refine ok_o2 (sp_X9_isThrown_ (1 : Int32) ) (fun r27_2 c_t_thrown_27_2 h6 => ?_)
      have h6 : (r27_2.toInt = 0 ∧ c_t_thrown_27_2.toInt = 0 ∧ (1 : Int32).toInt = 0) ∨ (r27_2.toInt = 1 ∧ c_t_thrown_27_2.toInt = 1 ∧ (1 : Int32).toInt ≠ 0) := h6
      refine ok_z (by first | omega | exact zr_of (by omega) | assumption) ?_
      exact ok_s (show (r27_2.toInt = 0 ∧ c_t_thrown_27_2.toInt = 0 ∧ 0 ≤ p0.toInt ∧ p0.toInt ≤ 5 ∧ 0 ≤ p1.toInt ∧ p1.toInt ≤ 5 ∧ 0 ≤ p2.toInt ∧ p2.toInt ≤ 5) ∨ (r27_2.toInt = 1 ∧ c_t_thrown_27_2.toInt = 1 ∧ (p0.toInt < 0 ∨ 5 < p0.toInt ∨ p1.toInt < 0 ∨ 5 < p1.toInt ∨ p2.toInt < 0 ∨ 5 < p2.toInt)) from by first | omega | assumption | trivial | (refine ⟨?_, ?_⟩ <;> first | omega | assumption | trivial | rfl) | (refine ⟨?_, ?_, ?_⟩ <;> first | omega | assumption | trivial | rfl) | (refine ⟨?_, ?_, ?_, ?_⟩ <;> first | omega | assumption | trivial | rfl) | (refine ⟨?_, ?_, ?_, ?_, ?_⟩ <;> first | omega | assumption | trivial | rfl) | (refine ⟨?_, ?_, ?_, ?_, ?_, ?_⟩ <;> first | omega | assumption | trivial | rfl) | (refine ⟨?_, ?_, ?_, ?_, ?_, ?_, ?_⟩ <;> first | omega | assumption | trivial | rfl) | (refine ⟨?_, ?_, ?_, ?_, ?_, ?_, ?_, ?_⟩ <;> first | omega | assumption | trivial | rfl))
    · refine ok_o (sp_X9_isForm p2 ) (fun r16 h7 => ?_)
      have h7 : (r16.toInt = 1 ∧ 0 ≤ p2.toInt ∧ p2.toInt ≤ 5) ∨ (r16.toInt = 0 ∧ (p2.toInt < 0 ∨ 6 ≤ p2.toInt)) := h7
      refine ok_eq (fun c8 => ?_) (fun c8 => ?_)
      · refine ok_o2 (sp_X9_isThrown_ (1 : Int32) ) (fun r27_3 c_t_thrown_27_3 h9 => ?_)
        have h9 : (r27_3.toInt = 0 ∧ c_t_thrown_27_3.toInt = 0 ∧ (1 : Int32).toInt = 0) ∨ (r27_3.toInt = 1 ∧ c_t_thrown_27_3.toInt = 1 ∧ (1 : Int32).toInt ≠ 0) := h9
        refine ok_z (by first | omega | exact zr_of (by omega) | assumption) ?_
        exact ok_s (show (r27_3.toInt = 0 ∧ c_t_thrown_27_3.toInt = 0 ∧ 0 ≤ p0.toInt ∧ p0.toInt ≤ 5 ∧ 0 ≤ p1.toInt ∧ p1.toInt ≤ 5 ∧ 0 ≤ p2.toInt ∧ p2.toInt ≤ 5) ∨ (r27_3.toInt = 1 ∧ c_t_thrown_27_3.toInt = 1 ∧ (p0.toInt < 0 ∨ 5 < p0.toInt ∨ p1.toInt < 0 ∨ 5 < p1.toInt ∨ p2.toInt < 0 ∨ 5 < p2.toInt)) from by first | omega | assumption | trivial | (refine ⟨?_, ?_⟩ <;> first | omega | assumption | trivial | rfl) | (refine ⟨?_, ?_, ?_⟩ <;> first | omega | assumption | trivial | rfl) | (refine ⟨?_, ?_, ?_, ?_⟩ <;> first | omega | assumption | trivial | rfl) | (refine ⟨?_, ?_, ?_, ?_, ?_⟩ <;> first | omega | assumption | trivial | rfl) | (refine ⟨?_, ?_, ?_, ?_, ?_, ?_⟩ <;> first | omega | assumption | trivial | rfl) | (refine ⟨?_, ?_, ?_, ?_, ?_, ?_, ?_⟩ <;> first | omega | assumption | trivial | rfl) | (refine ⟨?_, ?_, ?_, ?_, ?_, ?_, ?_, ?_⟩ <;> first | omega | assumption | trivial | rfl))
      · refine ok_o2 (sp_X9_isThrown_ (0 : Int32) ) (fun r27_4 c_t_thrown_27_4 h10 => ?_)
        have h10 : (r27_4.toInt = 0 ∧ c_t_thrown_27_4.toInt = 0 ∧ (0 : Int32).toInt = 0) ∨ (r27_4.toInt = 1 ∧ c_t_thrown_27_4.toInt = 1 ∧ (0 : Int32).toInt ≠ 0) := h10
        refine ok_z (by first | omega | exact zr_of (by omega) | assumption) ?_
        exact ok_s (show (r27_4.toInt = 0 ∧ c_t_thrown_27_4.toInt = 0 ∧ 0 ≤ p0.toInt ∧ p0.toInt ≤ 5 ∧ 0 ≤ p1.toInt ∧ p1.toInt ≤ 5 ∧ 0 ≤ p2.toInt ∧ p2.toInt ≤ 5) ∨ (r27_4.toInt = 1 ∧ c_t_thrown_27_4.toInt = 1 ∧ (p0.toInt < 0 ∨ 5 < p0.toInt ∨ p1.toInt < 0 ∨ 5 < p1.toInt ∨ p2.toInt < 0 ∨ 5 < p2.toInt)) from by first | omega | assumption | trivial | (refine ⟨?_, ?_⟩ <;> first | omega | assumption | trivial | rfl) | (refine ⟨?_, ?_, ?_⟩ <;> first | omega | assumption | trivial | rfl) | (refine ⟨?_, ?_, ?_, ?_⟩ <;> first | omega | assumption | trivial | rfl) | (refine ⟨?_, ?_, ?_, ?_, ?_⟩ <;> first | omega | assumption | trivial | rfl) | (refine ⟨?_, ?_, ?_, ?_, ?_, ?_⟩ <;> first | omega | assumption | trivial | rfl) | (refine ⟨?_, ?_, ?_, ?_, ?_, ?_, ?_⟩ <;> first | omega | assumption | trivial | rfl) | (refine ⟨?_, ?_, ?_, ?_, ?_, ?_, ?_, ?_⟩ <;> first | omega | assumption | trivial | rfl))
set_option maxHeartbeats 1000000 in
theorem fx_X9_isNoSeal (p0 : Int64) (p1 : Int64) (p2 : Int32) (hp0 : DG p0 ≤ 39) (hp1 : DG p1 ≤ 39) : ok (F_X9_isNoSeal p0 p1 p2) (fun r => (r.toInt = 0 ∧ 1 ≤ DG p1 ∧ DG p1 ≤ p2.toInt ∧ DG p0 + DG p1 ≤ 39) ∨ (r.toInt = 1 ∧ (DG p1 < 1 ∨ p2.toInt < DG p1 ∨ 40 ≤ DG p0 + DG p1))) := by
  have l032 : (0 : Int32).toInt = 0 := by decide
  have l132 : (1 : Int32).toInt = 1 := by decide
  have l4032 : (40 : Int32).toInt = 40 := by decide
  unfold F_X9_isNoSeal
  refine ok_o (fx_X9_degreeOf p1 ) (fun r1 h1 => ?_)
  have h1 : r1 = DI p1 ∧ r1.toInt = DG p1 ∧ -1 ≤ r1.toInt ∧ r1.toInt ≤ 63 := h1
  obtain ⟨h1_0, h1_1, h1_2, h1_3⟩ := h1
  refine ok_lt (fun c2 => ?_) (fun c2 => ?_)
  · exact ok_s (show ((1 : Int32).toInt = 0 ∧ 1 ≤ DG p1 ∧ DG p1 ≤ p2.toInt ∧ DG p0 + DG p1 ≤ 39) ∨ ((1 : Int32).toInt = 1 ∧ (DG p1 < 1 ∨ p2.toInt < DG p1 ∨ 40 ≤ DG p0 + DG p1)) from by first | omega | assumption | trivial | (refine ⟨?_, ?_⟩ <;> first | omega | assumption | trivial | rfl) | (refine ⟨?_, ?_, ?_⟩ <;> first | omega | assumption | trivial | rfl) | (refine ⟨?_, ?_, ?_, ?_⟩ <;> first | omega | assumption | trivial | rfl) | (refine ⟨?_, ?_, ?_, ?_, ?_⟩ <;> first | omega | assumption | trivial | rfl) | (refine ⟨?_, ?_, ?_, ?_, ?_, ?_⟩ <;> first | omega | assumption | trivial | rfl) | (refine ⟨?_, ?_, ?_, ?_, ?_, ?_, ?_⟩ <;> first | omega | assumption | trivial | rfl) | (refine ⟨?_, ?_, ?_, ?_, ?_, ?_, ?_, ?_⟩ <;> first | omega | assumption | trivial | rfl))
  · refine ok_o (fx_X9_degreeOf p1 ) (fun r9 h3 => ?_)
    have h3 : r9 = DI p1 ∧ r9.toInt = DG p1 ∧ -1 ≤ r9.toInt ∧ r9.toInt ≤ 63 := h3
    obtain ⟨h3_0, h3_1, h3_2, h3_3⟩ := h3
    refine ok_lt (fun c4 => ?_) (fun c4 => ?_)
    · exact ok_s (show ((1 : Int32).toInt = 0 ∧ 1 ≤ DG p1 ∧ DG p1 ≤ p2.toInt ∧ DG p0 + DG p1 ≤ 39) ∨ ((1 : Int32).toInt = 1 ∧ (DG p1 < 1 ∨ p2.toInt < DG p1 ∨ 40 ≤ DG p0 + DG p1)) from by first | omega | assumption | trivial | (refine ⟨?_, ?_⟩ <;> first | omega | assumption | trivial | rfl) | (refine ⟨?_, ?_, ?_⟩ <;> first | omega | assumption | trivial | rfl) | (refine ⟨?_, ?_, ?_, ?_⟩ <;> first | omega | assumption | trivial | rfl) | (refine ⟨?_, ?_, ?_, ?_, ?_⟩ <;> first | omega | assumption | trivial | rfl) | (refine ⟨?_, ?_, ?_, ?_, ?_, ?_⟩ <;> first | omega | assumption | trivial | rfl) | (refine ⟨?_, ?_, ?_, ?_, ?_, ?_, ?_⟩ <;> first | omega | assumption | trivial | rfl) | (refine ⟨?_, ?_, ?_, ?_, ?_, ?_, ?_, ?_⟩ <;> first | omega | assumption | trivial | rfl))
    · refine ok_o (fx_X9_degreeOf p0 ) (fun r18 h5 => ?_)
      have h5 : r18 = DI p0 ∧ r18.toInt = DG p0 ∧ -1 ≤ r18.toInt ∧ r18.toInt ≤ 63 := h5
      obtain ⟨h5_0, h5_1, h5_2, h5_3⟩ := h5
      refine ok_o (fx_X9_degreeOf p1 ) (fun r22 h6 => ?_)
      have h6 : r22 = DI p1 ∧ r22.toInt = DG p1 ∧ -1 ≤ r22.toInt ∧ r22.toInt ≤ 63 := h6
      obtain ⟨h6_0, h6_1, h6_2, h6_3⟩ := h6
      obtain ⟨w7, e_w7⟩ : ∃ w : Int32, w = r18 + r22 := ⟨_, rfl⟩
      try have t_w7 : w7.toInt = r18.toInt + r22.toInt := by rw [e_w7]; exact addT1 (Eq.refl _) (by omega) (by omega)
      try rw [← e_w7]
      refine ok_lt (fun c8 => ?_) (fun c8 => ?_)
      · exact ok_s (show ((0 : Int32).toInt = 0 ∧ 1 ≤ DG p1 ∧ DG p1 ≤ p2.toInt ∧ DG p0 + DG p1 ≤ 39) ∨ ((0 : Int32).toInt = 1 ∧ (DG p1 < 1 ∨ p2.toInt < DG p1 ∨ 40 ≤ DG p0 + DG p1)) from by first | omega | assumption | trivial | (refine ⟨?_, ?_⟩ <;> first | omega | assumption | trivial | rfl) | (refine ⟨?_, ?_, ?_⟩ <;> first | omega | assumption | trivial | rfl) | (refine ⟨?_, ?_, ?_, ?_⟩ <;> first | omega | assumption | trivial | rfl) | (refine ⟨?_, ?_, ?_, ?_, ?_⟩ <;> first | omega | assumption | trivial | rfl) | (refine ⟨?_, ?_, ?_, ?_, ?_, ?_⟩ <;> first | omega | assumption | trivial | rfl) | (refine ⟨?_, ?_, ?_, ?_, ?_, ?_, ?_⟩ <;> first | omega | assumption | trivial | rfl) | (refine ⟨?_, ?_, ?_, ?_, ?_, ?_, ?_, ?_⟩ <;> first | omega | assumption | trivial | rfl))
      · exact ok_s (show ((1 : Int32).toInt = 0 ∧ 1 ≤ DG p1 ∧ DG p1 ≤ p2.toInt ∧ DG p0 + DG p1 ≤ 39) ∨ ((1 : Int32).toInt = 1 ∧ (DG p1 < 1 ∨ p2.toInt < DG p1 ∨ 40 ≤ DG p0 + DG p1)) from by first | omega | assumption | trivial | (refine ⟨?_, ?_⟩ <;> first | omega | assumption | trivial | rfl) | (refine ⟨?_, ?_, ?_⟩ <;> first | omega | assumption | trivial | rfl) | (refine ⟨?_, ?_, ?_, ?_⟩ <;> first | omega | assumption | trivial | rfl) | (refine ⟨?_, ?_, ?_, ?_, ?_⟩ <;> first | omega | assumption | trivial | rfl) | (refine ⟨?_, ?_, ?_, ?_, ?_, ?_⟩ <;> first | omega | assumption | trivial | rfl) | (refine ⟨?_, ?_, ?_, ?_, ?_, ?_, ?_⟩ <;> first | omega | assumption | trivial | rfl) | (refine ⟨?_, ?_, ?_, ?_, ?_, ?_, ?_, ?_⟩ <;> first | omega | assumption | trivial | rfl))
set_option maxHeartbeats 1000000 in
theorem fx_X0_haveProduct (p0 : Int64) (p1 : Int64) (hp0 : DG p0 ≤ 39) (hp1 : DG p1 ≤ 39) : ok (F_X0_haveProduct p0 p1) (fun r => (r.toInt = 1 ∧ (DG p0 = -1 ∨ DG p1 = -1 ∨ DG p0 + DG p1 ≤ 39)) ∨ (r.toInt = 0 ∧ 0 ≤ DG p0 ∧ 0 ≤ DG p1 ∧ 40 ≤ DG p0 + DG p1)) := by
  have l032 : (0 : Int32).toInt = 0 := by decide
  have l064 : (0 : Int64).toInt = 0 := by decide
  have l132 : (1 : Int32).toInt = 1 := by decide
  have l3932 : (39 : Int32).toInt = 39 := by decide
  unfold F_X0_haveProduct
  have z_c1 := DG_z p0
  refine ok_eqL (fun c1 => ?_) (fun c1 => ?_)
  · exact ok_s (show ((1 : Int32).toInt = 1 ∧ (DG p0 = -1 ∨ DG p1 = -1 ∨ DG p0 + DG p1 ≤ 39)) ∨ ((1 : Int32).toInt = 0 ∧ 0 ≤ DG p0 ∧ 0 ≤ DG p1 ∧ 40 ≤ DG p0 + DG p1) from by first | omega | assumption | trivial | (refine ⟨?_, ?_⟩ <;> first | omega | assumption | trivial | rfl) | (refine ⟨?_, ?_, ?_⟩ <;> first | omega | assumption | trivial | rfl) | (refine ⟨?_, ?_, ?_, ?_⟩ <;> first | omega | assumption | trivial | rfl) | (refine ⟨?_, ?_, ?_, ?_, ?_⟩ <;> first | omega | assumption | trivial | rfl) | (refine ⟨?_, ?_, ?_, ?_, ?_, ?_⟩ <;> first | omega | assumption | trivial | rfl) | (refine ⟨?_, ?_, ?_, ?_, ?_, ?_, ?_⟩ <;> first | omega | assumption | trivial | rfl) | (refine ⟨?_, ?_, ?_, ?_, ?_, ?_, ?_, ?_⟩ <;> first | omega | assumption | trivial | rfl))
  · have z_c2 := DG_z p1
    refine ok_eqL (fun c2 => ?_) (fun c2 => ?_)
    · exact ok_s (show ((1 : Int32).toInt = 1 ∧ (DG p0 = -1 ∨ DG p1 = -1 ∨ DG p0 + DG p1 ≤ 39)) ∨ ((1 : Int32).toInt = 0 ∧ 0 ≤ DG p0 ∧ 0 ≤ DG p1 ∧ 40 ≤ DG p0 + DG p1) from by first | omega | assumption | trivial | (refine ⟨?_, ?_⟩ <;> first | omega | assumption | trivial | rfl) | (refine ⟨?_, ?_, ?_⟩ <;> first | omega | assumption | trivial | rfl) | (refine ⟨?_, ?_, ?_, ?_⟩ <;> first | omega | assumption | trivial | rfl) | (refine ⟨?_, ?_, ?_, ?_, ?_⟩ <;> first | omega | assumption | trivial | rfl) | (refine ⟨?_, ?_, ?_, ?_, ?_, ?_⟩ <;> first | omega | assumption | trivial | rfl) | (refine ⟨?_, ?_, ?_, ?_, ?_, ?_, ?_⟩ <;> first | omega | assumption | trivial | rfl) | (refine ⟨?_, ?_, ?_, ?_, ?_, ?_, ?_, ?_⟩ <;> first | omega | assumption | trivial | rfl))
    · refine ok_o (fx_X0_degreeOf p0 ) (fun r13 h3 => ?_)
      have h3 : r13 = DI p0 ∧ r13.toInt = DG p0 ∧ -1 ≤ r13.toInt ∧ r13.toInt ≤ 63 := h3
      obtain ⟨h3_0, h3_1, h3_2, h3_3⟩ := h3
      refine ok_o (fx_X0_degreeOf p1 ) (fun r17 h4 => ?_)
      have h4 : r17 = DI p1 ∧ r17.toInt = DG p1 ∧ -1 ≤ r17.toInt ∧ r17.toInt ≤ 63 := h4
      obtain ⟨h4_0, h4_1, h4_2, h4_3⟩ := h4
      obtain ⟨w5, e_w5⟩ : ∃ w : Int32, w = r13 + r17 := ⟨_, rfl⟩
      try have t_w5 : w5.toInt = r13.toInt + r17.toInt := by rw [e_w5]; exact addT1 (Eq.refl _) (by omega) (by omega)
      try rw [← e_w5]
      refine ok_lt (fun c6 => ?_) (fun c6 => ?_)
      · exact ok_s (show ((0 : Int32).toInt = 1 ∧ (DG p0 = -1 ∨ DG p1 = -1 ∨ DG p0 + DG p1 ≤ 39)) ∨ ((0 : Int32).toInt = 0 ∧ 0 ≤ DG p0 ∧ 0 ≤ DG p1 ∧ 40 ≤ DG p0 + DG p1) from by first | omega | assumption | trivial | (refine ⟨?_, ?_⟩ <;> first | omega | assumption | trivial | rfl) | (refine ⟨?_, ?_, ?_⟩ <;> first | omega | assumption | trivial | rfl) | (refine ⟨?_, ?_, ?_, ?_⟩ <;> first | omega | assumption | trivial | rfl) | (refine ⟨?_, ?_, ?_, ?_, ?_⟩ <;> first | omega | assumption | trivial | rfl) | (refine ⟨?_, ?_, ?_, ?_, ?_, ?_⟩ <;> first | omega | assumption | trivial | rfl) | (refine ⟨?_, ?_, ?_, ?_, ?_, ?_, ?_⟩ <;> first | omega | assumption | trivial | rfl) | (refine ⟨?_, ?_, ?_, ?_, ?_, ?_, ?_, ?_⟩ <;> first | omega | assumption | trivial | rfl))
      · exact ok_s (show ((1 : Int32).toInt = 1 ∧ (DG p0 = -1 ∨ DG p1 = -1 ∨ DG p0 + DG p1 ≤ 39)) ∨ ((1 : Int32).toInt = 0 ∧ 0 ≤ DG p0 ∧ 0 ≤ DG p1 ∧ 40 ≤ DG p0 + DG p1) from by first | omega | assumption | trivial | (refine ⟨?_, ?_⟩ <;> first | omega | assumption | trivial | rfl) | (refine ⟨?_, ?_, ?_⟩ <;> first | omega | assumption | trivial | rfl) | (refine ⟨?_, ?_, ?_, ?_⟩ <;> first | omega | assumption | trivial | rfl) | (refine ⟨?_, ?_, ?_, ?_, ?_⟩ <;> first | omega | assumption | trivial | rfl) | (refine ⟨?_, ?_, ?_, ?_, ?_, ?_⟩ <;> first | omega | assumption | trivial | rfl) | (refine ⟨?_, ?_, ?_, ?_, ?_, ?_, ?_⟩ <;> first | omega | assumption | trivial | rfl) | (refine ⟨?_, ?_, ?_, ?_, ?_, ?_, ?_, ?_⟩ <;> first | omega | assumption | trivial | rfl))
set_option maxHeartbeats 1000000 in
theorem fx_X7_canBeSealed (f_t_forms : Nat → Int64) (p0 : Int32) (p1 : Int32) (hp0 : FA f_t_forms) (hp1 : 0 ≤ p0.toInt) (hp2 : p0.toInt ≤ 5) (hp3 : 0 ≤ p1.toInt) (hp4 : p1.toInt ≤ 5) : ok (F_X7_canBeSealed f_t_forms p0 p1) (fun r => (r.toInt = 1 ∧ DG (f_t_forms p0.toNatClampNeg) + DG (f_t_forms p1.toNatClampNeg) ≤ 39) ∨ (r.toInt = 0 ∧ 40 ≤ DG (f_t_forms p0.toNatClampNeg) + DG (f_t_forms p1.toNatClampNeg))) := by
  have l032 : (0 : Int32).toInt = 0 := by decide
  have l132 : (1 : Int32).toInt = 1 := by decide
  have l3932 : (39 : Int32).toInt = 39 := by decide
  unfold F_X7_canBeSealed
  refine ok_c (ixo (by omega) (by omega)) ?_
  try have a1 := FA_at (f := f_t_forms) (by assumption) p0.toNatClampNeg
  refine ok_o (fx_X0_degreeOf (f_t_forms p0.toNatClampNeg) ) (fun r6 h2 => ?_)
  have h2 : r6 = DI (f_t_forms p0.toNatClampNeg) ∧ r6.toInt = DG (f_t_forms p0.toNatClampNeg) ∧ -1 ≤ r6.toInt ∧ r6.toInt ≤ 63 := h2
  obtain ⟨h2_0, h2_1, h2_2, h2_3⟩ := h2
  refine ok_c (ixo (by omega) (by omega)) ?_
  try have a3 := FA_at (f := f_t_forms) (by assumption) p1.toNatClampNeg
  refine ok_o (fx_X0_degreeOf (f_t_forms p1.toNatClampNeg) ) (fun r15 h4 => ?_)
  have h4 : r15 = DI (f_t_forms p1.toNatClampNeg) ∧ r15.toInt = DG (f_t_forms p1.toNatClampNeg) ∧ -1 ≤ r15.toInt ∧ r15.toInt ≤ 63 := h4
  obtain ⟨h4_0, h4_1, h4_2, h4_3⟩ := h4
  obtain ⟨w5, e_w5⟩ : ∃ w : Int32, w = r6 + r15 := ⟨_, rfl⟩
  try have t_w5 : w5.toInt = r6.toInt + r15.toInt := by rw [e_w5]; exact addT1 (Eq.refl _) (by omega) (by omega)
  try rw [← e_w5]
  refine ok_lt (fun c6 => ?_) (fun c6 => ?_)
  · exact ok_s (show ((0 : Int32).toInt = 1 ∧ DG (f_t_forms p0.toNatClampNeg) + DG (f_t_forms p1.toNatClampNeg) ≤ 39) ∨ ((0 : Int32).toInt = 0 ∧ 40 ≤ DG (f_t_forms p0.toNatClampNeg) + DG (f_t_forms p1.toNatClampNeg)) from by first | omega | assumption | trivial | (refine ⟨?_, ?_⟩ <;> first | omega | assumption | trivial | rfl) | (refine ⟨?_, ?_, ?_⟩ <;> first | omega | assumption | trivial | rfl) | (refine ⟨?_, ?_, ?_, ?_⟩ <;> first | omega | assumption | trivial | rfl) | (refine ⟨?_, ?_, ?_, ?_, ?_⟩ <;> first | omega | assumption | trivial | rfl) | (refine ⟨?_, ?_, ?_, ?_, ?_, ?_⟩ <;> first | omega | assumption | trivial | rfl) | (refine ⟨?_, ?_, ?_, ?_, ?_, ?_, ?_⟩ <;> first | omega | assumption | trivial | rfl) | (refine ⟨?_, ?_, ?_, ?_, ?_, ?_, ?_, ?_⟩ <;> first | omega | assumption | trivial | rfl))
  · exact ok_s (show ((1 : Int32).toInt = 1 ∧ DG (f_t_forms p0.toNatClampNeg) + DG (f_t_forms p1.toNatClampNeg) ≤ 39) ∨ ((1 : Int32).toInt = 0 ∧ 40 ≤ DG (f_t_forms p0.toNatClampNeg) + DG (f_t_forms p1.toNatClampNeg)) from by first | omega | assumption | trivial | (refine ⟨?_, ?_⟩ <;> first | omega | assumption | trivial | rfl) | (refine ⟨?_, ?_, ?_⟩ <;> first | omega | assumption | trivial | rfl) | (refine ⟨?_, ?_, ?_, ?_⟩ <;> first | omega | assumption | trivial | rfl) | (refine ⟨?_, ?_, ?_, ?_, ?_⟩ <;> first | omega | assumption | trivial | rfl) | (refine ⟨?_, ?_, ?_, ?_, ?_, ?_⟩ <;> first | omega | assumption | trivial | rfl) | (refine ⟨?_, ?_, ?_, ?_, ?_, ?_, ?_⟩ <;> first | omega | assumption | trivial | rfl) | (refine ⟨?_, ?_, ?_, ?_, ?_, ?_, ?_, ?_⟩ <;> first | omega | assumption | trivial | rfl))
set_option maxHeartbeats 1000000 in
theorem s7_set (ac : Int32) (fo : Nat → Int64) (th : Int32) (p0 : Int32) (p1 : Int32) (hp0 : FA fo) : ok (F_X7_set ac fo p0 p1) (fun r => ok (F_X9_set ac th fo p0 p1) (fun q => ((r.1 = 0 ∧ q.2.2.1.toInt = 0) ∨ (r.1 = 1 ∧ q.2.2.1.toInt = 1) ∨ (r.1 = 2 ∧ q.2.2.1.toInt = 2)) ∧ (r.1 = 0 → r.2.1 = q.1) ∧ r.2.2.1 = q.2.1 ∧ r.2.2.2 = q.2.2.2 ∧ FA q.2.2.2)) := by
  have l032 : (0 : Int32).toInt = 0 := by decide
  have l132 : (1 : Int32).toInt = 1 := by decide
  have hpl := p1.toInt_lt
  have l214 : (2147483647 : Int32).toInt = 2147483647 := by decide
  unfold F_X7_set
  refine ok_o (fx_X7_testForm p0 ) (fun xc1 h1 => ?_)
  have h1 : (xc1 = 0 ∧ 0 ≤ p0.toInt ∧ p0.toInt ≤ 5) ∨ (xc1 = 1 ∧ (p0.toInt < 0 ∨ 5 < p0.toInt)) := h1
  refine ok_i (fun c2 => ?_) (fun c2 => ?_)
  · refine ok_o (sp_X7_testRange p1 (0 : Int32) (2147483647 : Int32) ) (fun xc8 h3 => ?_)
    have h3 : (xc8 = 0 ∧ (0 : Int32).toInt ≤ p1.toInt ∧ p1.toInt ≤ (2147483647 : Int32).toInt) ∨ (xc8 = 2 ∧ (p1.toInt < (0 : Int32).toInt ∨ (2147483647 : Int32).toInt < p1.toInt)) := h3
    refine ok_i (fun c4 => ?_) (fun c4 => ?_)
    · refine ok_c (ixo (by omega) (by omega)) ?_
      try have a5 := FA_at (f := fo) (by assumption) p0.toNatClampNeg
      refine ok_o (fx_X0_degreeOf (fo p0.toNatClampNeg) ) (fun r17 h6 => ?_)
      have h6 : r17 = DI (fo p0.toNatClampNeg) ∧ r17.toInt = DG (fo p0.toNatClampNeg) ∧ -1 ≤ r17.toInt ∧ r17.toInt ≤ 63 := h6
      obtain ⟨h6_0, h6_1, h6_2, h6_3⟩ := h6
      refine ok_c (ixo (by omega) (by omega)) ?_
      refine ok_bx (fun f_t_forms_28 e_f_t_forms_28 => ?_)
      try have t_f_t_forms_28 : FA f_t_forms_28 := by rw [e_f_t_forms_28]; exact FA_upd (by first | assumption | exact FA_0) _ (by first | omega | assumption | trivial)
      refine ok_o2 (fx_X7_done ac r17 ) (fun r31 c_t_acts_31 h7 => ?_)
      have h7 : r31 = r17 ∧ c_t_acts_31 = ac + (1 : Int32) := h7
      obtain ⟨h7_0, h7_1⟩ := h7
      refine ok_s ?_
      show ok (F_X9_set ac th fo p0 p1) (fun q => ((0 = 0 ∧ q.2.2.1.toInt = 0) ∨ (0 = 1 ∧ q.2.2.1.toInt = 1) ∨ (0 = 2 ∧ q.2.2.1.toInt = 2)) ∧ (0 = 0 → r31 = q.1) ∧ c_t_acts_31 = q.2.1 ∧ f_t_forms_28 = q.2.2.2 ∧ FA q.2.2.2)
      unfold F_X9_set
      refine ok_o (sp_X9_isForm p0 ) (fun r2 h8 => ?_)
      have h8 : (r2.toInt = 1 ∧ 0 ≤ p0.toInt ∧ p0.toInt ≤ 5) ∨ (r2.toInt = 0 ∧ (p0.toInt < 0 ∨ 6 ≤ p0.toInt)) := h8
      refine ok_eq (fun c9 => ?_) (fun c9 => ?_)
      · exfalso; omega
      · first | unfold J_X9_set_13 | skip
        refine ok_le (fun c10 => ?_) (fun c10 => ?_)
        · first | unfold J_X9_set_22 | skip
          refine ok_o2 (sp_X9_isThrown (0 : Int32) (0 : Int32) ) (fun r22 c_t_thrown_22 h11 => ?_)
          have h11 : (r22.toInt = 0 ∧ c_t_thrown_22.toInt = 0 ∧ (0 : Int32).toInt = 0 ∧ (0 : Int32).toInt = 0) ∨ (r22.toInt = 1 ∧ c_t_thrown_22.toInt = 1 ∧ (0 : Int32).toInt ≠ 0) ∨ (r22.toInt = 1 ∧ c_t_thrown_22.toInt = 2 ∧ (0 : Int32).toInt = 0 ∧ (0 : Int32).toInt ≠ 0) := h11
          refine ok_eq (fun c12 => ?_) (fun c12 => ?_)
          · refine ok_c (ixo (by omega) (by omega)) ?_
            try have a13 := FA_at (f := fo) (by assumption) p0.toNatClampNeg
            refine ok_o (fx_X9_degreeOf (fo p0.toNatClampNeg) ) (fun r36 h14 => ?_)
            have h14 : r36 = DI (fo p0.toNatClampNeg) ∧ r36.toInt = DG (fo p0.toNatClampNeg) ∧ -1 ≤ r36.toInt ∧ r36.toInt ≤ 63 := h14
            obtain ⟨h14_0, h14_1, h14_2, h14_3⟩ := h14
            refine ok_c (ixo (by omega) (by omega)) ?_
            have hd := DG_i2 (p := p1) (by omega)
            refine ok_bx (fun f_t_forms_47 e_f_t_forms_47 => ?_)
            try have t_f_t_forms_47 : FA f_t_forms_47 := by rw [e_f_t_forms_47]; exact FA_upd (by first | assumption | exact FA_0) _ (by first | omega | assumption | trivial)
            refine ok_o2 (fx_X9_done ac r36 ) (fun r50 c_t_acts_50 h15 => ?_)
            have h15 : r50 = r36 ∧ c_t_acts_50 = ac + (1 : Int32) := h15
            obtain ⟨h15_0, h15_1⟩ := h15
            refine ok_s (show ((0 = 0 ∧ c_t_thrown_22.toInt = 0) ∨ (0 = 1 ∧ c_t_thrown_22.toInt = 1) ∨ (0 = 2 ∧ c_t_thrown_22.toInt = 2)) ∧ (0 = 0 → r31 = r50) ∧ c_t_acts_31 = c_t_acts_50 ∧ f_t_forms_28 = f_t_forms_47 ∧ FA f_t_forms_47 from ?_)
            first | (exfalso; omega) | (subst_vars; first | (exfalso; omega) | (refine ⟨?_, ?_, ?_, ?_, ?_⟩ <;> (first | assumption | rfl | omega | (intro hx; first | rfl | assumption | (exfalso; omega) | exact Int32.toInt_inj.mp (by omega)) | exact Int32.toInt_inj.mp (by omega) | (rw [uu_a, uu_a]))))
          · exfalso; omega
        · exfalso; omega
    · refine ok_s ?_
      show ok (F_X9_set ac th fo p0 p1) (fun q => ((xc8 = 0 ∧ q.2.2.1.toInt = 0) ∨ (xc8 = 1 ∧ q.2.2.1.toInt = 1) ∨ (xc8 = 2 ∧ q.2.2.1.toInt = 2)) ∧ (xc8 = 0 → (0 : Int32) = q.1) ∧ ac = q.2.1 ∧ fo = q.2.2.2 ∧ FA q.2.2.2)
      unfold F_X9_set
      refine ok_o (sp_X9_isForm p0 ) (fun r2_2 h16 => ?_)
      have h16 : (r2_2.toInt = 1 ∧ 0 ≤ p0.toInt ∧ p0.toInt ≤ 5) ∨ (r2_2.toInt = 0 ∧ (p0.toInt < 0 ∨ 6 ≤ p0.toInt)) := h16
      refine ok_eq (fun c17 => ?_) (fun c17 => ?_)
      · exfalso; omega
      · first | unfold J_X9_set_13 | skip
        refine ok_le (fun c18 => ?_) (fun c18 => ?_)
        · first | unfold J_X9_set_22 | skip
          refine ok_o2 (sp_X9_isThrown (0 : Int32) (0 : Int32) ) (fun r22_2 c_t_thrown_22_2 h19 => ?_)
          have h19 : (r22_2.toInt = 0 ∧ c_t_thrown_22_2.toInt = 0 ∧ (0 : Int32).toInt = 0 ∧ (0 : Int32).toInt = 0) ∨ (r22_2.toInt = 1 ∧ c_t_thrown_22_2.toInt = 1 ∧ (0 : Int32).toInt ≠ 0) ∨ (r22_2.toInt = 1 ∧ c_t_thrown_22_2.toInt = 2 ∧ (0 : Int32).toInt = 0 ∧ (0 : Int32).toInt ≠ 0) := h19
          refine ok_eq (fun c20 => ?_) (fun c20 => ?_)
          · refine ok_c (ixo (by omega) (by omega)) ?_
            try have a21 := FA_at (f := fo) (by assumption) p0.toNatClampNeg
            refine ok_o (fx_X9_degreeOf (fo p0.toNatClampNeg) ) (fun r36_2 h22 => ?_)
            have h22 : r36_2 = DI (fo p0.toNatClampNeg) ∧ r36_2.toInt = DG (fo p0.toNatClampNeg) ∧ -1 ≤ r36_2.toInt ∧ r36_2.toInt ≤ 63 := h22
            obtain ⟨h22_0, h22_1, h22_2, h22_3⟩ := h22
            refine ok_c (ixo (by omega) (by omega)) ?_
            have hd := DG_i2 (p := p1) (by omega)
            refine ok_bx (fun f_t_forms_47_2 e_f_t_forms_47_2 => ?_)
            try have t_f_t_forms_47_2 : FA f_t_forms_47_2 := by rw [e_f_t_forms_47_2]; exact FA_upd (by first | assumption | exact FA_0) _ (by first | omega | assumption | trivial)
            refine ok_o2 (fx_X9_done ac r36_2 ) (fun r50_2 c_t_acts_50_2 h23 => ?_)
            have h23 : r50_2 = r36_2 ∧ c_t_acts_50_2 = ac + (1 : Int32) := h23
            obtain ⟨h23_0, h23_1⟩ := h23
            refine ok_s (show ((xc8 = 0 ∧ c_t_thrown_22_2.toInt = 0) ∨ (xc8 = 1 ∧ c_t_thrown_22_2.toInt = 1) ∨ (xc8 = 2 ∧ c_t_thrown_22_2.toInt = 2)) ∧ (xc8 = 0 → (0 : Int32) = r50_2) ∧ ac = c_t_acts_50_2 ∧ fo = f_t_forms_47_2 ∧ FA f_t_forms_47_2 from ?_)
            first | (exfalso; omega) | (subst_vars; first | (exfalso; omega) | (refine ⟨?_, ?_, ?_, ?_, ?_⟩ <;> (first | assumption | rfl | omega | (intro hx; first | rfl | assumption | (exfalso; omega) | exact Int32.toInt_inj.mp (by omega)) | exact Int32.toInt_inj.mp (by omega) | (rw [uu_a, uu_a]))))
          · exfalso; omega
        · first | unfold J_X9_set_22 | skip
          refine ok_o2 (sp_X9_isThrown (0 : Int32) (1 : Int32) ) (fun r22_3 c_t_thrown_22_3 h24 => ?_)
          have h24 : (r22_3.toInt = 0 ∧ c_t_thrown_22_3.toInt = 0 ∧ (0 : Int32).toInt = 0 ∧ (1 : Int32).toInt = 0) ∨ (r22_3.toInt = 1 ∧ c_t_thrown_22_3.toInt = 1 ∧ (0 : Int32).toInt ≠ 0) ∨ (r22_3.toInt = 1 ∧ c_t_thrown_22_3.toInt = 2 ∧ (0 : Int32).toInt = 0 ∧ (1 : Int32).toInt ≠ 0) := h24
          refine ok_eq (fun c25 => ?_) (fun c25 => ?_)
          · exfalso; omega
          · refine ok_s (show ((xc8 = 0 ∧ c_t_thrown_22_3.toInt = 0) ∨ (xc8 = 1 ∧ c_t_thrown_22_3.toInt = 1) ∨ (xc8 = 2 ∧ c_t_thrown_22_3.toInt = 2)) ∧ (xc8 = 0 → (0 : Int32) = (0 : Int32)) ∧ ac = ac ∧ fo = fo ∧ FA fo from ?_)
            first | (exfalso; omega) | (subst_vars; first | (exfalso; omega) | (refine ⟨?_, ?_, ?_, ?_, ?_⟩ <;> (first | assumption | rfl | omega | (intro hx; first | rfl | assumption | (exfalso; omega) | exact Int32.toInt_inj.mp (by omega)) | exact Int32.toInt_inj.mp (by omega) | (rw [uu_a, uu_a]))))
  · refine ok_s ?_
    show ok (F_X9_set ac th fo p0 p1) (fun q => ((xc1 = 0 ∧ q.2.2.1.toInt = 0) ∨ (xc1 = 1 ∧ q.2.2.1.toInt = 1) ∨ (xc1 = 2 ∧ q.2.2.1.toInt = 2)) ∧ (xc1 = 0 → (0 : Int32) = q.1) ∧ ac = q.2.1 ∧ fo = q.2.2.2 ∧ FA q.2.2.2)
    unfold F_X9_set
    refine ok_o (sp_X9_isForm p0 ) (fun r2_3 h26 => ?_)
    have h26 : (r2_3.toInt = 1 ∧ 0 ≤ p0.toInt ∧ p0.toInt ≤ 5) ∨ (r2_3.toInt = 0 ∧ (p0.toInt < 0 ∨ 6 ≤ p0.toInt)) := h26
    refine ok_eq (fun c27 => ?_) (fun c27 => ?_)
    · first | unfold J_X9_set_13 | skip
      refine ok_le (fun c28 => ?_) (fun c28 => ?_)
      · first | unfold J_X9_set_22 | skip
        refine ok_o2 (sp_X9_isThrown (1 : Int32) (0 : Int32) ) (fun r22_4 c_t_thrown_22_4 h29 => ?_)
        have h29 : (r22_4.toInt = 0 ∧ c_t_thrown_22_4.toInt = 0 ∧ (1 : Int32).toInt = 0 ∧ (0 : Int32).toInt = 0) ∨ (r22_4.toInt = 1 ∧ c_t_thrown_22_4.toInt = 1 ∧ (1 : Int32).toInt ≠ 0) ∨ (r22_4.toInt = 1 ∧ c_t_thrown_22_4.toInt = 2 ∧ (1 : Int32).toInt = 0 ∧ (0 : Int32).toInt ≠ 0) := h29
        refine ok_eq (fun c30 => ?_) (fun c30 => ?_)
        · exfalso; omega
        · refine ok_s (show ((xc1 = 0 ∧ c_t_thrown_22_4.toInt = 0) ∨ (xc1 = 1 ∧ c_t_thrown_22_4.toInt = 1) ∨ (xc1 = 2 ∧ c_t_thrown_22_4.toInt = 2)) ∧ (xc1 = 0 → (0 : Int32) = (0 : Int32)) ∧ ac = ac ∧ fo = fo ∧ FA fo from ?_)
          first | (exfalso; omega) | (subst_vars; first | (exfalso; omega) | (refine ⟨?_, ?_, ?_, ?_, ?_⟩ <;> (first | assumption | rfl | omega | (intro hx; first | rfl | assumption | (exfalso; omega) | exact Int32.toInt_inj.mp (by omega)) | exact Int32.toInt_inj.mp (by omega) | (rw [uu_a, uu_a]))))
      · first | unfold J_X9_set_22 | skip
        refine ok_o2 (sp_X9_isThrown (1 : Int32) (1 : Int32) ) (fun r22_5 c_t_thrown_22_5 h31 => ?_)
        have h31 : (r22_5.toInt = 0 ∧ c_t_thrown_22_5.toInt = 0 ∧ (1 : Int32).toInt = 0 ∧ (1 : Int32).toInt = 0) ∨ (r22_5.toInt = 1 ∧ c_t_thrown_22_5.toInt = 1 ∧ (1 : Int32).toInt ≠ 0) ∨ (r22_5.toInt = 1 ∧ c_t_thrown_22_5.toInt = 2 ∧ (1 : Int32).toInt = 0 ∧ (1 : Int32).toInt ≠ 0) := h31
        refine ok_eq (fun c32 => ?_) (fun c32 => ?_)
        · exfalso; omega
        · refine ok_s (show ((xc1 = 0 ∧ c_t_thrown_22_5.toInt = 0) ∨ (xc1 = 1 ∧ c_t_thrown_22_5.toInt = 1) ∨ (xc1 = 2 ∧ c_t_thrown_22_5.toInt = 2)) ∧ (xc1 = 0 → (0 : Int32) = (0 : Int32)) ∧ ac = ac ∧ fo = fo ∧ FA fo from ?_)
          first | (exfalso; omega) | (subst_vars; first | (exfalso; omega) | (refine ⟨?_, ?_, ?_, ?_, ?_⟩ <;> (first | assumption | rfl | omega | (intro hx; first | rfl | assumption | (exfalso; omega) | exact Int32.toInt_inj.mp (by omega)) | exact Int32.toInt_inj.mp (by omega) | (rw [uu_a, uu_a]))))
    · exfalso; omega
set_option maxHeartbeats 1000000 in
theorem s7_digit (ac : Int32) (fo : Nat → Int64) (th : Int32) (p0 : Int32) (p1 : Int32) (p2 : Int32) (hp0 : FA fo) : ok (F_X7_digit ac fo p0 p1 p2) (fun r => ok (F_X9_digit ac th fo p0 p1 p2) (fun q => ((r.1 = 0 ∧ q.2.2.1.toInt = 0) ∨ (r.1 = 1 ∧ q.2.2.1.toInt = 1) ∨ (r.1 = 2 ∧ q.2.2.1.toInt = 2)) ∧ (r.1 = 0 → r.2.1 = q.1) ∧ r.2.2.1 = q.2.1 ∧ r.2.2.2 = q.2.2.2 ∧ FA q.2.2.2)) := by
  have lm164 : (-1 : Int64).toInt = -1 := by decide
  have l032 : (0 : Int32).toInt = 0 := by decide
  have l132 : (1 : Int32).toInt = 1 := by decide
  have l164 : (1 : Int64).toInt = 1 := by decide
  have l232 : (2 : Int32).toInt = 2 := by decide
  unfold F_X7_digit
  refine ok_o (fx_X7_testForm p0 ) (fun xc1 h1 => ?_)
  have h1 : (xc1 = 0 ∧ 0 ≤ p0.toInt ∧ p0.toInt ≤ 5) ∨ (xc1 = 1 ∧ (p0.toInt < 0 ∨ 5 < p0.toInt)) := h1
  refine ok_i (fun c2 => ?_) (fun c2 => ?_)
  · refine ok_o (fx_X7_testPlace p1 ) (fun xc5 h3 => ?_)
    have h3 : (xc5 = 0 ∧ 0 ≤ p1.toInt ∧ p1.toInt ≤ 39) ∨ (xc5 = 1 ∧ (p1.toInt < 0 ∨ 39 < p1.toInt)) := h3
    refine ok_i (fun c4 => ?_) (fun c4 => ?_)
    · refine ok_o (sp_X7_testRange p2 (0 : Int32) (2 : Int32) ) (fun xc11 h5 => ?_)
      have h5 : (xc11 = 0 ∧ (0 : Int32).toInt ≤ p2.toInt ∧ p2.toInt ≤ (2 : Int32).toInt) ∨ (xc11 = 2 ∧ (p2.toInt < (0 : Int32).toInt ∨ (2 : Int32).toInt < p2.toInt)) := h5
      refine ok_i (fun c6 => ?_) (fun c6 => ?_)
      · refine ok_c (ixo (by omega) (by omega)) ?_
        try have a7 := FA_at (f := fo) (by assumption) p0.toNatClampNeg
        refine ok_o (fx_X0_hasOne (fo p0.toNatClampNeg) p1 ) (fun r21 h8 => ?_)
        have h8 : (r21.toInt = 1 ∧ (((fo p0.toNatClampNeg) >>> (p1.toInt64 &&& 63)) &&& (1 : Int64)).toInt = 1) ∨ (r21.toInt = 0 ∧ (((fo p0.toNatClampNeg) >>> (p1.toInt64 &&& 63)) &&& (1 : Int64)).toInt ≠ 1) := h8
        refine ok_eq (fun c9 => ?_) (fun c9 => ?_)
        · refine ok_eq (fun c10 => ?_) (fun c10 => ?_)
          · first | unfold J_X7_digit_54 | skip
            refine ok_eq (fun c11 => ?_) (fun c11 => ?_)
            · exfalso; omega
            · refine ok_c (ixo (by omega) (by omega)) ?_
              refine ok_c (ixo (by omega) (by omega)) ?_
              try have a12 := FA_at (f := fo) (by assumption) p0.toNatClampNeg
              refine ok_bx (fun f_t_forms_80 e_f_t_forms_80 => ?_)
              try have t_f_t_forms_80 : FA f_t_forms_80 := by rw [e_f_t_forms_80]; exact FA_upd (by first | assumption | exact FA_0) _ (by first | omega | assumption | trivial)
              refine ok_o2 (fx_X7_done ac (1 : Int32) ) (fun r83 c_t_acts_83 h13 => ?_)
              have h13 : r83 = (1 : Int32) ∧ c_t_acts_83 = ac + (1 : Int32) := h13
              obtain ⟨h13_0, h13_1⟩ := h13
              refine ok_s ?_
              show ok (F_X9_digit ac th fo p0 p1 p2) (fun q => ((0 = 0 ∧ q.2.2.1.toInt = 0) ∨ (0 = 1 ∧ q.2.2.1.toInt = 1) ∨ (0 = 2 ∧ q.2.2.1.toInt = 2)) ∧ (0 = 0 → r83 = q.1) ∧ c_t_acts_83 = q.2.1 ∧ f_t_forms_80 = q.2.2.2 ∧ FA q.2.2.2)
              unfold F_X9_digit
              refine ok_o (sp_X9_isForm p0 ) (fun r2 h14 => ?_)
              have h14 : (r2.toInt = 1 ∧ 0 ≤ p0.toInt ∧ p0.toInt ≤ 5) ∨ (r2.toInt = 0 ∧ (p0.toInt < 0 ∨ 6 ≤ p0.toInt)) := h14
              refine ok_eq (fun c15 => ?_) (fun c15 => ?_)
              · exfalso; omega
              · refine ok_o (sp_X9_isPlace p1 ) (fun r9 h16 => ?_)
                have h16 : (r9.toInt = 1 ∧ 0 ≤ p1.toInt ∧ p1.toInt ≤ 39) ∨ (r9.toInt = 0 ∧ (p1.toInt < 0 ∨ 40 ≤ p1.toInt)) := h16
                refine ok_eq (fun c17 => ?_) (fun c17 => ?_)
                · exfalso; omega
                · first | unfold J_X9_digit_20 | skip
                  refine ok_lt (fun c18 => ?_) (fun c18 => ?_)
                  · exfalso; omega
                  · refine ok_le (fun c19 => ?_) (fun c19 => ?_)
                    · first | unfold J_X9_digit_34 | skip
                      refine ok_o2 (sp_X9_isThrown (0 : Int32) (0 : Int32) ) (fun r34 c_t_thrown_34 h20 => ?_)
                      have h20 : (r34.toInt = 0 ∧ c_t_thrown_34.toInt = 0 ∧ (0 : Int32).toInt = 0 ∧ (0 : Int32).toInt = 0) ∨ (r34.toInt = 1 ∧ c_t_thrown_34.toInt = 1 ∧ (0 : Int32).toInt ≠ 0) ∨ (r34.toInt = 1 ∧ c_t_thrown_34.toInt = 2 ∧ (0 : Int32).toInt = 0 ∧ (0 : Int32).toInt ≠ 0) := h20
                      refine ok_eq (fun c21 => ?_) (fun c21 => ?_)
                      · refine ok_c (ixo (by omega) (by omega)) ?_
                        try have a22 := FA_at (f := fo) (by assumption) p0.toNatClampNeg
                        refine ok_bx (fun x4_48 e_x4_48 => ?_)
                        try have q_x4_48 : DG x4_48 = DG (fo p0.toNatClampNeg) := by rw [e_x4_48]
                        try have d_x4_48 : -1 ≤ DG x4_48 ∧ DG x4_48 ≤ 39 := by rw [e_x4_48]; exact FA_at (by assumption) _
                        have hda := dg_all (x := fo p0.toNatClampNeg) (p := p1) (by have := FA_at (f := fo) (by assumption) p0.toNatClampNeg; omega) (by omega) (by omega)
                        have hdt : ∀ v, DG (fo p0.toNatClampNeg) ≤ 39 → v = fo p0.toNatClampNeg ∨ v = (fo p0.toNatClampNeg) ^^^ ((1 : Int64) <<< (p1.toInt64 &&& 63)) → FA (vp_updL fo p0.toNatClampNeg v) := fun v hv hx => FA_upd (by assumption) _ (hx.elim (fun e => by rw [e]; exact hv) (fun e => by rw [e]; exact DG_xor hv (DG_shlx (by omega) (by omega) (by rw [DG_1]; omega) (by decide) (by decide))))
                        refine ok_bx (fun x6_53 e_x6_53 => ?_)
                        refine ok_eq (fun c23 => ?_) (fun c23 => ?_)
                        · exfalso; omega
                        · refine ok_eq (fun c24 => ?_) (fun c24 => ?_)
                          · exfalso; omega
                          · rw [jd_94 p0 x4_48 (x4_48 ^^^ x6_53) ac c_t_thrown_34 fo (by omega) (by omega)]
                            obtain ⟨w25, e_w25⟩ : ∃ w : Int32, w = ac + (1 : Int32) := ⟨_, rfl⟩
                            try have t_w25 : w25.toInt = ac.toInt + 1 := by rw [e_w25]; exact addT1 (show (1 : Int32).toInt = 1 from by decide) (by omega) (by omega)
                            try rw [← e_w25]
                            refine ok_s (show ((0 = 0 ∧ c_t_thrown_34.toInt = 0) ∨ (0 = 1 ∧ c_t_thrown_34.toInt = 1) ∨ (0 = 2 ∧ c_t_thrown_34.toInt = 2)) ∧ (0 = 0 → r83 = (if (x4_48 ^^^ x6_53) = x4_48 then (0 : Int32) else (1 : Int32))) ∧ c_t_acts_83 = w25 ∧ f_t_forms_80 = (vp_updL fo p0.toNatClampNeg (x4_48 ^^^ x6_53)) ∧ FA (vp_updL fo p0.toNatClampNeg (x4_48 ^^^ x6_53)) from ?_)
                            first | (exfalso; omega) | (subst_vars; first | (exfalso; omega) | (refine ⟨?_, ?_, ?_, ?_, ?_⟩ <;> (first | assumption | rfl | omega | (intro hx; first | rfl | assumption | (exfalso; omega) | exact Int32.toInt_inj.mp (by omega)) | exact Int32.toInt_inj.mp (by omega) | (rw [uu_a, uu_a]) | (((first | rw [(hda.1 (by omega)).1] | rw [(hda.1 (by omega)).2] | rw [(hda.2.1 (by omega)).1] | rw [(hda.2.1 (by omega)).2] | skip) <;> first | rfl | (intro _; rw [if_neg hda.2.2]) | (intro _; rw [if_pos rfl]) | exact (uu_i rfl).symm | exact hdt _ (FA_at (by assumption) _).2 (Or.inl rfl) | exact hdt _ (FA_at (by assumption) _).2 (Or.inr rfl))))))
                      · exfalso; omega
                    · exfalso; omega
          · first | unfold J_X7_digit_54 | skip
            refine ok_eq (fun c26 => ?_) (fun c26 => ?_)
            · exfalso; omega
            · refine ok_c (ixo (by omega) (by omega)) ?_
              refine ok_c (ixo (by omega) (by omega)) ?_
              try have a27 := FA_at (f := fo) (by assumption) p0.toNatClampNeg
              refine ok_bx (fun f_t_forms_80_2 e_f_t_forms_80_2 => ?_)
              try have t_f_t_forms_80_2 : FA f_t_forms_80_2 := by rw [e_f_t_forms_80_2]; exact FA_upd (by first | assumption | exact FA_0) _ (by first | omega | assumption | trivial)
              refine ok_o2 (fx_X7_done ac (1 : Int32) ) (fun r83_2 c_t_acts_83_2 h28 => ?_)
              have h28 : r83_2 = (1 : Int32) ∧ c_t_acts_83_2 = ac + (1 : Int32) := h28
              obtain ⟨h28_0, h28_1⟩ := h28
              refine ok_s ?_
              show ok (F_X9_digit ac th fo p0 p1 p2) (fun q => ((0 = 0 ∧ q.2.2.1.toInt = 0) ∨ (0 = 1 ∧ q.2.2.1.toInt = 1) ∨ (0 = 2 ∧ q.2.2.1.toInt = 2)) ∧ (0 = 0 → r83_2 = q.1) ∧ c_t_acts_83_2 = q.2.1 ∧ f_t_forms_80_2 = q.2.2.2 ∧ FA q.2.2.2)
              unfold F_X9_digit
              refine ok_o (sp_X9_isForm p0 ) (fun r2_2 h29 => ?_)
              have h29 : (r2_2.toInt = 1 ∧ 0 ≤ p0.toInt ∧ p0.toInt ≤ 5) ∨ (r2_2.toInt = 0 ∧ (p0.toInt < 0 ∨ 6 ≤ p0.toInt)) := h29
              refine ok_eq (fun c30 => ?_) (fun c30 => ?_)
              · exfalso; omega
              · refine ok_o (sp_X9_isPlace p1 ) (fun r9_2 h31 => ?_)
                have h31 : (r9_2.toInt = 1 ∧ 0 ≤ p1.toInt ∧ p1.toInt ≤ 39) ∨ (r9_2.toInt = 0 ∧ (p1.toInt < 0 ∨ 40 ≤ p1.toInt)) := h31
                refine ok_eq (fun c32 => ?_) (fun c32 => ?_)
                · exfalso; omega
                · first | unfold J_X9_digit_20 | skip
                  refine ok_lt (fun c33 => ?_) (fun c33 => ?_)
                  · exfalso; omega
                  · refine ok_le (fun c34 => ?_) (fun c34 => ?_)
                    · first | unfold J_X9_digit_34 | skip
                      refine ok_o2 (sp_X9_isThrown (0 : Int32) (0 : Int32) ) (fun r34_2 c_t_thrown_34_2 h35 => ?_)
                      have h35 : (r34_2.toInt = 0 ∧ c_t_thrown_34_2.toInt = 0 ∧ (0 : Int32).toInt = 0 ∧ (0 : Int32).toInt = 0) ∨ (r34_2.toInt = 1 ∧ c_t_thrown_34_2.toInt = 1 ∧ (0 : Int32).toInt ≠ 0) ∨ (r34_2.toInt = 1 ∧ c_t_thrown_34_2.toInt = 2 ∧ (0 : Int32).toInt = 0 ∧ (0 : Int32).toInt ≠ 0) := h35
                      refine ok_eq (fun c36 => ?_) (fun c36 => ?_)
                      · refine ok_c (ixo (by omega) (by omega)) ?_
                        try have a37 := FA_at (f := fo) (by assumption) p0.toNatClampNeg
                        refine ok_bx (fun x4_48_2 e_x4_48_2 => ?_)
                        try have q_x4_48_2 : DG x4_48_2 = DG (fo p0.toNatClampNeg) := by rw [e_x4_48_2]
                        try have d_x4_48_2 : -1 ≤ DG x4_48_2 ∧ DG x4_48_2 ≤ 39 := by rw [e_x4_48_2]; exact FA_at (by assumption) _
                        have hda := dg_all (x := fo p0.toNatClampNeg) (p := p1) (by have := FA_at (f := fo) (by assumption) p0.toNatClampNeg; omega) (by omega) (by omega)
                        have hdt : ∀ v, DG (fo p0.toNatClampNeg) ≤ 39 → v = fo p0.toNatClampNeg ∨ v = (fo p0.toNatClampNeg) ^^^ ((1 : Int64) <<< (p1.toInt64 &&& 63)) → FA (vp_updL fo p0.toNatClampNeg v) := fun v hv hx => FA_upd (by assumption) _ (hx.elim (fun e => by rw [e]; exact hv) (fun e => by rw [e]; exact DG_xor hv (DG_shlx (by omega) (by omega) (by rw [DG_1]; omega) (by decide) (by decide))))
                        refine ok_bx (fun x6_53_2 e_x6_53_2 => ?_)
                        refine ok_eq (fun c38 => ?_) (fun c38 => ?_)
                        · exfalso; omega
                        · refine ok_eq (fun c39 => ?_) (fun c39 => ?_)
                          · exfalso; omega
                          · rw [jd_94 p0 x4_48_2 (x4_48_2 ^^^ x6_53_2) ac c_t_thrown_34_2 fo (by omega) (by omega)]
                            obtain ⟨w40, e_w40⟩ : ∃ w : Int32, w = ac + (1 : Int32) := ⟨_, rfl⟩
                            try have t_w40 : w40.toInt = ac.toInt + 1 := by rw [e_w40]; exact addT1 (show (1 : Int32).toInt = 1 from by decide) (by omega) (by omega)
                            try rw [← e_w40]
                            refine ok_s (show ((0 = 0 ∧ c_t_thrown_34_2.toInt = 0) ∨ (0 = 1 ∧ c_t_thrown_34_2.toInt = 1) ∨ (0 = 2 ∧ c_t_thrown_34_2.toInt = 2)) ∧ (0 = 0 → r83_2 = (if (x4_48_2 ^^^ x6_53_2) = x4_48_2 then (0 : Int32) else (1 : Int32))) ∧ c_t_acts_83_2 = w40 ∧ f_t_forms_80_2 = (vp_updL fo p0.toNatClampNeg (x4_48_2 ^^^ x6_53_2)) ∧ FA (vp_updL fo p0.toNatClampNeg (x4_48_2 ^^^ x6_53_2)) from ?_)
                            first | (exfalso; omega) | (subst_vars; first | (exfalso; omega) | (refine ⟨?_, ?_, ?_, ?_, ?_⟩ <;> (first | assumption | rfl | omega | (intro hx; first | rfl | assumption | (exfalso; omega) | exact Int32.toInt_inj.mp (by omega)) | exact Int32.toInt_inj.mp (by omega) | (rw [uu_a, uu_a]) | (((first | rw [(hda.1 (by omega)).1] | rw [(hda.1 (by omega)).2] | rw [(hda.2.1 (by omega)).1] | rw [(hda.2.1 (by omega)).2] | skip) <;> first | rfl | (intro _; rw [if_neg hda.2.2]) | (intro _; rw [if_pos rfl]) | exact (uu_i rfl).symm | exact hdt _ (FA_at (by assumption) _).2 (Or.inl rfl) | exact hdt _ (FA_at (by assumption) _).2 (Or.inr rfl))))))
                      · exfalso; omega
                    · exfalso; omega
        · refine ok_eq (fun c41 => ?_) (fun c41 => ?_)
          · first | unfold J_X7_digit_54 | skip
            refine ok_eq (fun c42 => ?_) (fun c42 => ?_)
            · refine ok_o2 (fx_X7_done ac (0 : Int32) ) (fun r65 c_t_acts_65 h43 => ?_)
              have h43 : r65 = (0 : Int32) ∧ c_t_acts_65 = ac + (1 : Int32) := h43
              obtain ⟨h43_0, h43_1⟩ := h43
              refine ok_s ?_
              show ok (F_X9_digit ac th fo p0 p1 p2) (fun q => ((0 = 0 ∧ q.2.2.1.toInt = 0) ∨ (0 = 1 ∧ q.2.2.1.toInt = 1) ∨ (0 = 2 ∧ q.2.2.1.toInt = 2)) ∧ (0 = 0 → r65 = q.1) ∧ c_t_acts_65 = q.2.1 ∧ fo = q.2.2.2 ∧ FA q.2.2.2)
              unfold F_X9_digit
              refine ok_o (sp_X9_isForm p0 ) (fun r2_3 h44 => ?_)
              have h44 : (r2_3.toInt = 1 ∧ 0 ≤ p0.toInt ∧ p0.toInt ≤ 5) ∨ (r2_3.toInt = 0 ∧ (p0.toInt < 0 ∨ 6 ≤ p0.toInt)) := h44
              refine ok_eq (fun c45 => ?_) (fun c45 => ?_)
              · exfalso; omega
              · refine ok_o (sp_X9_isPlace p1 ) (fun r9_3 h46 => ?_)
                have h46 : (r9_3.toInt = 1 ∧ 0 ≤ p1.toInt ∧ p1.toInt ≤ 39) ∨ (r9_3.toInt = 0 ∧ (p1.toInt < 0 ∨ 40 ≤ p1.toInt)) := h46
                refine ok_eq (fun c47 => ?_) (fun c47 => ?_)
                · exfalso; omega
                · first | unfold J_X9_digit_20 | skip
                  refine ok_lt (fun c48 => ?_) (fun c48 => ?_)
                  · exfalso; omega
                  · refine ok_le (fun c49 => ?_) (fun c49 => ?_)
                    · first | unfold J_X9_digit_34 | skip
                      refine ok_o2 (sp_X9_isThrown (0 : Int32) (0 : Int32) ) (fun r34_3 c_t_thrown_34_3 h50 => ?_)
                      have h50 : (r34_3.toInt = 0 ∧ c_t_thrown_34_3.toInt = 0 ∧ (0 : Int32).toInt = 0 ∧ (0 : Int32).toInt = 0) ∨ (r34_3.toInt = 1 ∧ c_t_thrown_34_3.toInt = 1 ∧ (0 : Int32).toInt ≠ 0) ∨ (r34_3.toInt = 1 ∧ c_t_thrown_34_3.toInt = 2 ∧ (0 : Int32).toInt = 0 ∧ (0 : Int32).toInt ≠ 0) := h50
                      refine ok_eq (fun c51 => ?_) (fun c51 => ?_)
                      · refine ok_c (ixo (by omega) (by omega)) ?_
                        try have a52 := FA_at (f := fo) (by assumption) p0.toNatClampNeg
                        refine ok_bx (fun x4_48_3 e_x4_48_3 => ?_)
                        try have q_x4_48_3 : DG x4_48_3 = DG (fo p0.toNatClampNeg) := by rw [e_x4_48_3]
                        try have d_x4_48_3 : -1 ≤ DG x4_48_3 ∧ DG x4_48_3 ≤ 39 := by rw [e_x4_48_3]; exact FA_at (by assumption) _
                        have hda := dg_all (x := fo p0.toNatClampNeg) (p := p1) (by have := FA_at (f := fo) (by assumption) p0.toNatClampNeg; omega) (by omega) (by omega)
                        have hdt : ∀ v, DG (fo p0.toNatClampNeg) ≤ 39 → v = fo p0.toNatClampNeg ∨ v = (fo p0.toNatClampNeg) ^^^ ((1 : Int64) <<< (p1.toInt64 &&& 63)) → FA (vp_updL fo p0.toNatClampNeg v) := fun v hv hx => FA_upd (by assumption) _ (hx.elim (fun e => by rw [e]; exact hv) (fun e => by rw [e]; exact DG_xor hv (DG_shlx (by omega) (by omega) (by rw [DG_1]; omega) (by decide) (by decide))))
                        refine ok_bx (fun x6_53_3 e_x6_53_3 => ?_)
                        refine ok_eq (fun c53 => ?_) (fun c53 => ?_)
                        · exfalso; omega
                        · refine ok_eq (fun c54 => ?_) (fun c54 => ?_)
                          · rw [jd_94 p0 x4_48_3 (x4_48_3 ||| x6_53_3) ac c_t_thrown_34_3 fo (by omega) (by omega)]
                            obtain ⟨w55, e_w55⟩ : ∃ w : Int32, w = ac + (1 : Int32) := ⟨_, rfl⟩
                            try have t_w55 : w55.toInt = ac.toInt + 1 := by rw [e_w55]; exact addT1 (show (1 : Int32).toInt = 1 from by decide) (by omega) (by omega)
                            try rw [← e_w55]
                            refine ok_s (show ((0 = 0 ∧ c_t_thrown_34_3.toInt = 0) ∨ (0 = 1 ∧ c_t_thrown_34_3.toInt = 1) ∨ (0 = 2 ∧ c_t_thrown_34_3.toInt = 2)) ∧ (0 = 0 → r65 = (if (x4_48_3 ||| x6_53_3) = x4_48_3 then (0 : Int32) else (1 : Int32))) ∧ c_t_acts_65 = w55 ∧ fo = (vp_updL fo p0.toNatClampNeg (x4_48_3 ||| x6_53_3)) ∧ FA (vp_updL fo p0.toNatClampNeg (x4_48_3 ||| x6_53_3)) from ?_)
                            first | (exfalso; omega) | (subst_vars; first | (exfalso; omega) | (refine ⟨?_, ?_, ?_, ?_, ?_⟩ <;> (first | assumption | rfl | omega | (intro hx; first | rfl | assumption | (exfalso; omega) | exact Int32.toInt_inj.mp (by omega)) | exact Int32.toInt_inj.mp (by omega) | (rw [uu_a, uu_a]) | (((first | rw [(hda.1 (by omega)).1] | rw [(hda.1 (by omega)).2] | rw [(hda.2.1 (by omega)).1] | rw [(hda.2.1 (by omega)).2] | skip) <;> first | rfl | (intro _; rw [if_neg hda.2.2]) | (intro _; rw [if_pos rfl]) | exact (uu_i rfl).symm | exact hdt _ (FA_at (by assumption) _).2 (Or.inl rfl) | exact hdt _ (FA_at (by assumption) _).2 (Or.inr rfl))))))
                          · exfalso; omega
                      · exfalso; omega
                    · exfalso; omega
            · refine ok_c (ixo (by omega) (by omega)) ?_
              refine ok_c (ixo (by omega) (by omega)) ?_
              try have a56 := FA_at (f := fo) (by assumption) p0.toNatClampNeg
              refine ok_bx (fun f_t_forms_80_3 e_f_t_forms_80_3 => ?_)
              try have t_f_t_forms_80_3 : FA f_t_forms_80_3 := by rw [e_f_t_forms_80_3]; exact FA_upd (by first | assumption | exact FA_0) _ (by first | omega | assumption | trivial)
              refine ok_o2 (fx_X7_done ac (1 : Int32) ) (fun r83_3 c_t_acts_83_3 h57 => ?_)
              have h57 : r83_3 = (1 : Int32) ∧ c_t_acts_83_3 = ac + (1 : Int32) := h57
              obtain ⟨h57_0, h57_1⟩ := h57
              refine ok_s ?_
              show ok (F_X9_digit ac th fo p0 p1 p2) (fun q => ((0 = 0 ∧ q.2.2.1.toInt = 0) ∨ (0 = 1 ∧ q.2.2.1.toInt = 1) ∨ (0 = 2 ∧ q.2.2.1.toInt = 2)) ∧ (0 = 0 → r83_3 = q.1) ∧ c_t_acts_83_3 = q.2.1 ∧ f_t_forms_80_3 = q.2.2.2 ∧ FA q.2.2.2)
              unfold F_X9_digit
              refine ok_o (sp_X9_isForm p0 ) (fun r2_4 h58 => ?_)
              have h58 : (r2_4.toInt = 1 ∧ 0 ≤ p0.toInt ∧ p0.toInt ≤ 5) ∨ (r2_4.toInt = 0 ∧ (p0.toInt < 0 ∨ 6 ≤ p0.toInt)) := h58
              refine ok_eq (fun c59 => ?_) (fun c59 => ?_)
              · exfalso; omega
              · refine ok_o (sp_X9_isPlace p1 ) (fun r9_4 h60 => ?_)
                have h60 : (r9_4.toInt = 1 ∧ 0 ≤ p1.toInt ∧ p1.toInt ≤ 39) ∨ (r9_4.toInt = 0 ∧ (p1.toInt < 0 ∨ 40 ≤ p1.toInt)) := h60
                refine ok_eq (fun c61 => ?_) (fun c61 => ?_)
                · exfalso; omega
                · first | unfold J_X9_digit_20 | skip
                  refine ok_lt (fun c62 => ?_) (fun c62 => ?_)
                  · exfalso; omega
                  · refine ok_le (fun c63 => ?_) (fun c63 => ?_)
                    · first | unfold J_X9_digit_34 | skip
                      refine ok_o2 (sp_X9_isThrown (0 : Int32) (0 : Int32) ) (fun r34_4 c_t_thrown_34_4 h64 => ?_)
                      have h64 : (r34_4.toInt = 0 ∧ c_t_thrown_34_4.toInt = 0 ∧ (0 : Int32).toInt = 0 ∧ (0 : Int32).toInt = 0) ∨ (r34_4.toInt = 1 ∧ c_t_thrown_34_4.toInt = 1 ∧ (0 : Int32).toInt ≠ 0) ∨ (r34_4.toInt = 1 ∧ c_t_thrown_34_4.toInt = 2 ∧ (0 : Int32).toInt = 0 ∧ (0 : Int32).toInt ≠ 0) := h64
                      refine ok_eq (fun c65 => ?_) (fun c65 => ?_)
                      · refine ok_c (ixo (by omega) (by omega)) ?_
                        try have a66 := FA_at (f := fo) (by assumption) p0.toNatClampNeg
                        refine ok_bx (fun x4_48_4 e_x4_48_4 => ?_)
                        try have q_x4_48_4 : DG x4_48_4 = DG (fo p0.toNatClampNeg) := by rw [e_x4_48_4]
                        try have d_x4_48_4 : -1 ≤ DG x4_48_4 ∧ DG x4_48_4 ≤ 39 := by rw [e_x4_48_4]; exact FA_at (by assumption) _
                        have hda := dg_all (x := fo p0.toNatClampNeg) (p := p1) (by have := FA_at (f := fo) (by assumption) p0.toNatClampNeg; omega) (by omega) (by omega)
                        have hdt : ∀ v, DG (fo p0.toNatClampNeg) ≤ 39 → v = fo p0.toNatClampNeg ∨ v = (fo p0.toNatClampNeg) ^^^ ((1 : Int64) <<< (p1.toInt64 &&& 63)) → FA (vp_updL fo p0.toNatClampNeg v) := fun v hv hx => FA_upd (by assumption) _ (hx.elim (fun e => by rw [e]; exact hv) (fun e => by rw [e]; exact DG_xor hv (DG_shlx (by omega) (by omega) (by rw [DG_1]; omega) (by decide) (by decide))))
                        refine ok_bx (fun x6_53_4 e_x6_53_4 => ?_)
                        refine ok_eq (fun c67 => ?_) (fun c67 => ?_)
                        · exfalso; omega
                        · refine ok_eq (fun c68 => ?_) (fun c68 => ?_)
                          · rw [jd_94 p0 x4_48_4 (x4_48_4 ||| x6_53_4) ac c_t_thrown_34_4 fo (by omega) (by omega)]
                            obtain ⟨w69, e_w69⟩ : ∃ w : Int32, w = ac + (1 : Int32) := ⟨_, rfl⟩
                            try have t_w69 : w69.toInt = ac.toInt + 1 := by rw [e_w69]; exact addT1 (show (1 : Int32).toInt = 1 from by decide) (by omega) (by omega)
                            try rw [← e_w69]
                            refine ok_s (show ((0 = 0 ∧ c_t_thrown_34_4.toInt = 0) ∨ (0 = 1 ∧ c_t_thrown_34_4.toInt = 1) ∨ (0 = 2 ∧ c_t_thrown_34_4.toInt = 2)) ∧ (0 = 0 → r83_3 = (if (x4_48_4 ||| x6_53_4) = x4_48_4 then (0 : Int32) else (1 : Int32))) ∧ c_t_acts_83_3 = w69 ∧ f_t_forms_80_3 = (vp_updL fo p0.toNatClampNeg (x4_48_4 ||| x6_53_4)) ∧ FA (vp_updL fo p0.toNatClampNeg (x4_48_4 ||| x6_53_4)) from ?_)
                            first | (exfalso; omega) | (subst_vars; first | (exfalso; omega) | (refine ⟨?_, ?_, ?_, ?_, ?_⟩ <;> (first | assumption | rfl | omega | (intro hx; first | rfl | assumption | (exfalso; omega) | exact Int32.toInt_inj.mp (by omega)) | exact Int32.toInt_inj.mp (by omega) | (rw [uu_a, uu_a]) | (((first | rw [(hda.1 (by omega)).1] | rw [(hda.1 (by omega)).2] | rw [(hda.2.1 (by omega)).1] | rw [(hda.2.1 (by omega)).2] | skip) <;> first | rfl | (intro _; rw [if_neg hda.2.2]) | (intro _; rw [if_pos rfl]) | exact (uu_i rfl).symm | exact hdt _ (FA_at (by assumption) _).2 (Or.inl rfl) | exact hdt _ (FA_at (by assumption) _).2 (Or.inr rfl))))))
                          · exfalso; omega
                      · exfalso; omega
                    · exfalso; omega
          · first | unfold J_X7_digit_54 | skip
            refine ok_eq (fun c70 => ?_) (fun c70 => ?_)
            · refine ok_o2 (fx_X7_done ac (0 : Int32) ) (fun r65_2 c_t_acts_65_2 h71 => ?_)
              have h71 : r65_2 = (0 : Int32) ∧ c_t_acts_65_2 = ac + (1 : Int32) := h71
              obtain ⟨h71_0, h71_1⟩ := h71
              refine ok_s ?_
              show ok (F_X9_digit ac th fo p0 p1 p2) (fun q => ((0 = 0 ∧ q.2.2.1.toInt = 0) ∨ (0 = 1 ∧ q.2.2.1.toInt = 1) ∨ (0 = 2 ∧ q.2.2.1.toInt = 2)) ∧ (0 = 0 → r65_2 = q.1) ∧ c_t_acts_65_2 = q.2.1 ∧ fo = q.2.2.2 ∧ FA q.2.2.2)
              unfold F_X9_digit
              refine ok_o (sp_X9_isForm p0 ) (fun r2_5 h72 => ?_)
              have h72 : (r2_5.toInt = 1 ∧ 0 ≤ p0.toInt ∧ p0.toInt ≤ 5) ∨ (r2_5.toInt = 0 ∧ (p0.toInt < 0 ∨ 6 ≤ p0.toInt)) := h72
              refine ok_eq (fun c73 => ?_) (fun c73 => ?_)
              · exfalso; omega
              · refine ok_o (sp_X9_isPlace p1 ) (fun r9_5 h74 => ?_)
                have h74 : (r9_5.toInt = 1 ∧ 0 ≤ p1.toInt ∧ p1.toInt ≤ 39) ∨ (r9_5.toInt = 0 ∧ (p1.toInt < 0 ∨ 40 ≤ p1.toInt)) := h74
                refine ok_eq (fun c75 => ?_) (fun c75 => ?_)
                · exfalso; omega
                · first | unfold J_X9_digit_20 | skip
                  refine ok_lt (fun c76 => ?_) (fun c76 => ?_)
                  · exfalso; omega
                  · refine ok_le (fun c77 => ?_) (fun c77 => ?_)
                    · first | unfold J_X9_digit_34 | skip
                      refine ok_o2 (sp_X9_isThrown (0 : Int32) (0 : Int32) ) (fun r34_5 c_t_thrown_34_5 h78 => ?_)
                      have h78 : (r34_5.toInt = 0 ∧ c_t_thrown_34_5.toInt = 0 ∧ (0 : Int32).toInt = 0 ∧ (0 : Int32).toInt = 0) ∨ (r34_5.toInt = 1 ∧ c_t_thrown_34_5.toInt = 1 ∧ (0 : Int32).toInt ≠ 0) ∨ (r34_5.toInt = 1 ∧ c_t_thrown_34_5.toInt = 2 ∧ (0 : Int32).toInt = 0 ∧ (0 : Int32).toInt ≠ 0) := h78
                      refine ok_eq (fun c79 => ?_) (fun c79 => ?_)
                      · refine ok_c (ixo (by omega) (by omega)) ?_
                        try have a80 := FA_at (f := fo) (by assumption) p0.toNatClampNeg
                        refine ok_bx (fun x4_48_5 e_x4_48_5 => ?_)
                        try have q_x4_48_5 : DG x4_48_5 = DG (fo p0.toNatClampNeg) := by rw [e_x4_48_5]
                        try have d_x4_48_5 : -1 ≤ DG x4_48_5 ∧ DG x4_48_5 ≤ 39 := by rw [e_x4_48_5]; exact FA_at (by assumption) _
                        have hda := dg_all (x := fo p0.toNatClampNeg) (p := p1) (by have := FA_at (f := fo) (by assumption) p0.toNatClampNeg; omega) (by omega) (by omega)
                        have hdt : ∀ v, DG (fo p0.toNatClampNeg) ≤ 39 → v = fo p0.toNatClampNeg ∨ v = (fo p0.toNatClampNeg) ^^^ ((1 : Int64) <<< (p1.toInt64 &&& 63)) → FA (vp_updL fo p0.toNatClampNeg v) := fun v hv hx => FA_upd (by assumption) _ (hx.elim (fun e => by rw [e]; exact hv) (fun e => by rw [e]; exact DG_xor hv (DG_shlx (by omega) (by omega) (by rw [DG_1]; omega) (by decide) (by decide))))
                        refine ok_bx (fun x6_53_5 e_x6_53_5 => ?_)
                        refine ok_eq (fun c81 => ?_) (fun c81 => ?_)
                        · rw [jd_94 p0 x4_48_5 (x4_48_5 &&& (x6_53_5 ^^^ (-1 : Int64))) ac c_t_thrown_34_5 fo (by omega) (by omega)]
                          obtain ⟨w82, e_w82⟩ : ∃ w : Int32, w = ac + (1 : Int32) := ⟨_, rfl⟩
                          try have t_w82 : w82.toInt = ac.toInt + 1 := by rw [e_w82]; exact addT1 (show (1 : Int32).toInt = 1 from by decide) (by omega) (by omega)
                          try rw [← e_w82]
                          refine ok_s (show ((0 = 0 ∧ c_t_thrown_34_5.toInt = 0) ∨ (0 = 1 ∧ c_t_thrown_34_5.toInt = 1) ∨ (0 = 2 ∧ c_t_thrown_34_5.toInt = 2)) ∧ (0 = 0 → r65_2 = (if (x4_48_5 &&& (x6_53_5 ^^^ (-1 : Int64))) = x4_48_5 then (0 : Int32) else (1 : Int32))) ∧ c_t_acts_65_2 = w82 ∧ fo = (vp_updL fo p0.toNatClampNeg (x4_48_5 &&& (x6_53_5 ^^^ (-1 : Int64)))) ∧ FA (vp_updL fo p0.toNatClampNeg (x4_48_5 &&& (x6_53_5 ^^^ (-1 : Int64)))) from ?_)
                          first | (exfalso; omega) | (subst_vars; first | (exfalso; omega) | (refine ⟨?_, ?_, ?_, ?_, ?_⟩ <;> (first | assumption | rfl | omega | (intro hx; first | rfl | assumption | (exfalso; omega) | exact Int32.toInt_inj.mp (by omega)) | exact Int32.toInt_inj.mp (by omega) | (rw [uu_a, uu_a]) | (((first | rw [(hda.1 (by omega)).1] | rw [(hda.1 (by omega)).2] | rw [(hda.2.1 (by omega)).1] | rw [(hda.2.1 (by omega)).2] | skip) <;> first | rfl | (intro _; rw [if_neg hda.2.2]) | (intro _; rw [if_pos rfl]) | exact (uu_i rfl).symm | exact hdt _ (FA_at (by assumption) _).2 (Or.inl rfl) | exact hdt _ (FA_at (by assumption) _).2 (Or.inr rfl))))))
                        · refine ok_eq (fun c83 => ?_) (fun c83 => ?_)
                          · exfalso; omega
                          · rw [jd_94 p0 x4_48_5 (x4_48_5 ^^^ x6_53_5) ac c_t_thrown_34_5 fo (by omega) (by omega)]
                            obtain ⟨w84, e_w84⟩ : ∃ w : Int32, w = ac + (1 : Int32) := ⟨_, rfl⟩
                            try have t_w84 : w84.toInt = ac.toInt + 1 := by rw [e_w84]; exact addT1 (show (1 : Int32).toInt = 1 from by decide) (by omega) (by omega)
                            try rw [← e_w84]
                            refine ok_s (show ((0 = 0 ∧ c_t_thrown_34_5.toInt = 0) ∨ (0 = 1 ∧ c_t_thrown_34_5.toInt = 1) ∨ (0 = 2 ∧ c_t_thrown_34_5.toInt = 2)) ∧ (0 = 0 → r65_2 = (if (x4_48_5 ^^^ x6_53_5) = x4_48_5 then (0 : Int32) else (1 : Int32))) ∧ c_t_acts_65_2 = w84 ∧ fo = (vp_updL fo p0.toNatClampNeg (x4_48_5 ^^^ x6_53_5)) ∧ FA (vp_updL fo p0.toNatClampNeg (x4_48_5 ^^^ x6_53_5)) from ?_)
                            first | (exfalso; omega) | (subst_vars; first | (exfalso; omega) | (refine ⟨?_, ?_, ?_, ?_, ?_⟩ <;> (first | assumption | rfl | omega | (intro hx; first | rfl | assumption | (exfalso; omega) | exact Int32.toInt_inj.mp (by omega)) | exact Int32.toInt_inj.mp (by omega) | (rw [uu_a, uu_a]) | (((first | rw [(hda.1 (by omega)).1] | rw [(hda.1 (by omega)).2] | rw [(hda.2.1 (by omega)).1] | rw [(hda.2.1 (by omega)).2] | skip) <;> first | rfl | (intro _; rw [if_neg hda.2.2]) | (intro _; rw [if_pos rfl]) | exact (uu_i rfl).symm | exact hdt _ (FA_at (by assumption) _).2 (Or.inl rfl) | exact hdt _ (FA_at (by assumption) _).2 (Or.inr rfl))))))
                      · exfalso; omega
                    · exfalso; omega
            · refine ok_c (ixo (by omega) (by omega)) ?_
              refine ok_c (ixo (by omega) (by omega)) ?_
              try have a85 := FA_at (f := fo) (by assumption) p0.toNatClampNeg
              refine ok_bx (fun f_t_forms_80_4 e_f_t_forms_80_4 => ?_)
              try have t_f_t_forms_80_4 : FA f_t_forms_80_4 := by rw [e_f_t_forms_80_4]; exact FA_upd (by first | assumption | exact FA_0) _ (by first | omega | assumption | trivial)
              refine ok_o2 (fx_X7_done ac (1 : Int32) ) (fun r83_4 c_t_acts_83_4 h86 => ?_)
              have h86 : r83_4 = (1 : Int32) ∧ c_t_acts_83_4 = ac + (1 : Int32) := h86
              obtain ⟨h86_0, h86_1⟩ := h86
              refine ok_s ?_
              show ok (F_X9_digit ac th fo p0 p1 p2) (fun q => ((0 = 0 ∧ q.2.2.1.toInt = 0) ∨ (0 = 1 ∧ q.2.2.1.toInt = 1) ∨ (0 = 2 ∧ q.2.2.1.toInt = 2)) ∧ (0 = 0 → r83_4 = q.1) ∧ c_t_acts_83_4 = q.2.1 ∧ f_t_forms_80_4 = q.2.2.2 ∧ FA q.2.2.2)
              unfold F_X9_digit
              refine ok_o (sp_X9_isForm p0 ) (fun r2_6 h87 => ?_)
              have h87 : (r2_6.toInt = 1 ∧ 0 ≤ p0.toInt ∧ p0.toInt ≤ 5) ∨ (r2_6.toInt = 0 ∧ (p0.toInt < 0 ∨ 6 ≤ p0.toInt)) := h87
              refine ok_eq (fun c88 => ?_) (fun c88 => ?_)
              · exfalso; omega
              · refine ok_o (sp_X9_isPlace p1 ) (fun r9_6 h89 => ?_)
                have h89 : (r9_6.toInt = 1 ∧ 0 ≤ p1.toInt ∧ p1.toInt ≤ 39) ∨ (r9_6.toInt = 0 ∧ (p1.toInt < 0 ∨ 40 ≤ p1.toInt)) := h89
                refine ok_eq (fun c90 => ?_) (fun c90 => ?_)
                · exfalso; omega
                · first | unfold J_X9_digit_20 | skip
                  refine ok_lt (fun c91 => ?_) (fun c91 => ?_)
                  · exfalso; omega
                  · refine ok_le (fun c92 => ?_) (fun c92 => ?_)
                    · first | unfold J_X9_digit_34 | skip
                      refine ok_o2 (sp_X9_isThrown (0 : Int32) (0 : Int32) ) (fun r34_6 c_t_thrown_34_6 h93 => ?_)
                      have h93 : (r34_6.toInt = 0 ∧ c_t_thrown_34_6.toInt = 0 ∧ (0 : Int32).toInt = 0 ∧ (0 : Int32).toInt = 0) ∨ (r34_6.toInt = 1 ∧ c_t_thrown_34_6.toInt = 1 ∧ (0 : Int32).toInt ≠ 0) ∨ (r34_6.toInt = 1 ∧ c_t_thrown_34_6.toInt = 2 ∧ (0 : Int32).toInt = 0 ∧ (0 : Int32).toInt ≠ 0) := h93
                      refine ok_eq (fun c94 => ?_) (fun c94 => ?_)
                      · refine ok_c (ixo (by omega) (by omega)) ?_
                        try have a95 := FA_at (f := fo) (by assumption) p0.toNatClampNeg
                        refine ok_bx (fun x4_48_6 e_x4_48_6 => ?_)
                        try have q_x4_48_6 : DG x4_48_6 = DG (fo p0.toNatClampNeg) := by rw [e_x4_48_6]
                        try have d_x4_48_6 : -1 ≤ DG x4_48_6 ∧ DG x4_48_6 ≤ 39 := by rw [e_x4_48_6]; exact FA_at (by assumption) _
                        have hda := dg_all (x := fo p0.toNatClampNeg) (p := p1) (by have := FA_at (f := fo) (by assumption) p0.toNatClampNeg; omega) (by omega) (by omega)
                        have hdt : ∀ v, DG (fo p0.toNatClampNeg) ≤ 39 → v = fo p0.toNatClampNeg ∨ v = (fo p0.toNatClampNeg) ^^^ ((1 : Int64) <<< (p1.toInt64 &&& 63)) → FA (vp_updL fo p0.toNatClampNeg v) := fun v hv hx => FA_upd (by assumption) _ (hx.elim (fun e => by rw [e]; exact hv) (fun e => by rw [e]; exact DG_xor hv (DG_shlx (by omega) (by omega) (by rw [DG_1]; omega) (by decide) (by decide))))
                        refine ok_bx (fun x6_53_6 e_x6_53_6 => ?_)
                        refine ok_eq (fun c96 => ?_) (fun c96 => ?_)
                        · rw [jd_94 p0 x4_48_6 (x4_48_6 &&& (x6_53_6 ^^^ (-1 : Int64))) ac c_t_thrown_34_6 fo (by omega) (by omega)]
                          obtain ⟨w97, e_w97⟩ : ∃ w : Int32, w = ac + (1 : Int32) := ⟨_, rfl⟩
                          try have t_w97 : w97.toInt = ac.toInt + 1 := by rw [e_w97]; exact addT1 (show (1 : Int32).toInt = 1 from by decide) (by omega) (by omega)
                          try rw [← e_w97]
                          refine ok_s (show ((0 = 0 ∧ c_t_thrown_34_6.toInt = 0) ∨ (0 = 1 ∧ c_t_thrown_34_6.toInt = 1) ∨ (0 = 2 ∧ c_t_thrown_34_6.toInt = 2)) ∧ (0 = 0 → r83_4 = (if (x4_48_6 &&& (x6_53_6 ^^^ (-1 : Int64))) = x4_48_6 then (0 : Int32) else (1 : Int32))) ∧ c_t_acts_83_4 = w97 ∧ f_t_forms_80_4 = (vp_updL fo p0.toNatClampNeg (x4_48_6 &&& (x6_53_6 ^^^ (-1 : Int64)))) ∧ FA (vp_updL fo p0.toNatClampNeg (x4_48_6 &&& (x6_53_6 ^^^ (-1 : Int64)))) from ?_)
                          first | (exfalso; omega) | (subst_vars; first | (exfalso; omega) | (refine ⟨?_, ?_, ?_, ?_, ?_⟩ <;> (first | assumption | rfl | omega | (intro hx; first | rfl | assumption | (exfalso; omega) | exact Int32.toInt_inj.mp (by omega)) | exact Int32.toInt_inj.mp (by omega) | (rw [uu_a, uu_a]) | (((first | rw [(hda.1 (by omega)).1] | rw [(hda.1 (by omega)).2] | rw [(hda.2.1 (by omega)).1] | rw [(hda.2.1 (by omega)).2] | skip) <;> first | rfl | (intro _; rw [if_neg hda.2.2]) | (intro _; rw [if_pos rfl]) | exact (uu_i rfl).symm | exact hdt _ (FA_at (by assumption) _).2 (Or.inl rfl) | exact hdt _ (FA_at (by assumption) _).2 (Or.inr rfl))))))
                        · refine ok_eq (fun c98 => ?_) (fun c98 => ?_)
                          · exfalso; omega
                          · rw [jd_94 p0 x4_48_6 (x4_48_6 ^^^ x6_53_6) ac c_t_thrown_34_6 fo (by omega) (by omega)]
                            obtain ⟨w99, e_w99⟩ : ∃ w : Int32, w = ac + (1 : Int32) := ⟨_, rfl⟩
                            try have t_w99 : w99.toInt = ac.toInt + 1 := by rw [e_w99]; exact addT1 (show (1 : Int32).toInt = 1 from by decide) (by omega) (by omega)
                            try rw [← e_w99]
                            refine ok_s (show ((0 = 0 ∧ c_t_thrown_34_6.toInt = 0) ∨ (0 = 1 ∧ c_t_thrown_34_6.toInt = 1) ∨ (0 = 2 ∧ c_t_thrown_34_6.toInt = 2)) ∧ (0 = 0 → r83_4 = (if (x4_48_6 ^^^ x6_53_6) = x4_48_6 then (0 : Int32) else (1 : Int32))) ∧ c_t_acts_83_4 = w99 ∧ f_t_forms_80_4 = (vp_updL fo p0.toNatClampNeg (x4_48_6 ^^^ x6_53_6)) ∧ FA (vp_updL fo p0.toNatClampNeg (x4_48_6 ^^^ x6_53_6)) from ?_)
                            first | (exfalso; omega) | (subst_vars; first | (exfalso; omega) | (refine ⟨?_, ?_, ?_, ?_, ?_⟩ <;> (first | assumption | rfl | omega | (intro hx; first | rfl | assumption | (exfalso; omega) | exact Int32.toInt_inj.mp (by omega)) | exact Int32.toInt_inj.mp (by omega) | (rw [uu_a, uu_a]) | (((first | rw [(hda.1 (by omega)).1] | rw [(hda.1 (by omega)).2] | rw [(hda.2.1 (by omega)).1] | rw [(hda.2.1 (by omega)).2] | skip) <;> first | rfl | (intro _; rw [if_neg hda.2.2]) | (intro _; rw [if_pos rfl]) | exact (uu_i rfl).symm | exact hdt _ (FA_at (by assumption) _).2 (Or.inl rfl) | exact hdt _ (FA_at (by assumption) _).2 (Or.inr rfl))))))
                      · exfalso; omega
                    · exfalso; omega
      · refine ok_s ?_
        show ok (F_X9_digit ac th fo p0 p1 p2) (fun q => ((xc11 = 0 ∧ q.2.2.1.toInt = 0) ∨ (xc11 = 1 ∧ q.2.2.1.toInt = 1) ∨ (xc11 = 2 ∧ q.2.2.1.toInt = 2)) ∧ (xc11 = 0 → (0 : Int32) = q.1) ∧ ac = q.2.1 ∧ fo = q.2.2.2 ∧ FA q.2.2.2)
        unfold F_X9_digit
        refine ok_o (sp_X9_isForm p0 ) (fun r2_7 h100 => ?_)
        have h100 : (r2_7.toInt = 1 ∧ 0 ≤ p0.toInt ∧ p0.toInt ≤ 5) ∨ (r2_7.toInt = 0 ∧ (p0.toInt < 0 ∨ 6 ≤ p0.toInt)) := h100
        refine ok_eq (fun c101 => ?_) (fun c101 => ?_)
        · exfalso; omega
        · refine ok_o (sp_X9_isPlace p1 ) (fun r9_7 h102 => ?_)
          have h102 : (r9_7.toInt = 1 ∧ 0 ≤ p1.toInt ∧ p1.toInt ≤ 39) ∨ (r9_7.toInt = 0 ∧ (p1.toInt < 0 ∨ 40 ≤ p1.toInt)) := h102
          refine ok_eq (fun c103 => ?_) (fun c103 => ?_)
          · exfalso; omega
          · first | unfold J_X9_digit_20 | skip
            refine ok_lt (fun c104 => ?_) (fun c104 => ?_)
            · first | unfold J_X9_digit_29 | skip
              first | unfold J_X9_digit_34 | skip
              refine ok_o2 (sp_X9_isThrown (0 : Int32) (1 : Int32) ) (fun r34_7 c_t_thrown_34_7 h105 => ?_)
              have h105 : (r34_7.toInt = 0 ∧ c_t_thrown_34_7.toInt = 0 ∧ (0 : Int32).toInt = 0 ∧ (1 : Int32).toInt = 0) ∨ (r34_7.toInt = 1 ∧ c_t_thrown_34_7.toInt = 1 ∧ (0 : Int32).toInt ≠ 0) ∨ (r34_7.toInt = 1 ∧ c_t_thrown_34_7.toInt = 2 ∧ (0 : Int32).toInt = 0 ∧ (1 : Int32).toInt ≠ 0) := h105
              refine ok_eq (fun c106 => ?_) (fun c106 => ?_)
              · exfalso; omega
              · refine ok_s (show ((xc11 = 0 ∧ c_t_thrown_34_7.toInt = 0) ∨ (xc11 = 1 ∧ c_t_thrown_34_7.toInt = 1) ∨ (xc11 = 2 ∧ c_t_thrown_34_7.toInt = 2)) ∧ (xc11 = 0 → (0 : Int32) = (0 : Int32)) ∧ ac = ac ∧ fo = fo ∧ FA fo from ?_)
                first | (exfalso; omega) | (subst_vars; first | (exfalso; omega) | (refine ⟨?_, ?_, ?_, ?_, ?_⟩ <;> (first | assumption | rfl | omega | (intro hx; first | rfl | assumption | (exfalso; omega) | exact Int32.toInt_inj.mp (by omega)) | exact Int32.toInt_inj.mp (by omega) | (rw [uu_a, uu_a]) | (((first | rw [(hda.1 (by omega)).1] | rw [(hda.1 (by omega)).2] | rw [(hda.2.1 (by omega)).1] | rw [(hda.2.1 (by omega)).2] | skip) <;> first | rfl | (intro _; rw [if_neg hda.2.2]) | (intro _; rw [if_pos rfl]) | exact (uu_i rfl).symm | exact hdt _ (FA_at (by assumption) _).2 (Or.inl rfl) | exact hdt _ (FA_at (by assumption) _).2 (Or.inr rfl))))))
            · refine ok_le (fun c107 => ?_) (fun c107 => ?_)
              · exfalso; omega
              · first | unfold J_X9_digit_29 | skip
                first | unfold J_X9_digit_34 | skip
                refine ok_o2 (sp_X9_isThrown (0 : Int32) (1 : Int32) ) (fun r34_8 c_t_thrown_34_8 h108 => ?_)
                have h108 : (r34_8.toInt = 0 ∧ c_t_thrown_34_8.toInt = 0 ∧ (0 : Int32).toInt = 0 ∧ (1 : Int32).toInt = 0) ∨ (r34_8.toInt = 1 ∧ c_t_thrown_34_8.toInt = 1 ∧ (0 : Int32).toInt ≠ 0) ∨ (r34_8.toInt = 1 ∧ c_t_thrown_34_8.toInt = 2 ∧ (0 : Int32).toInt = 0 ∧ (1 : Int32).toInt ≠ 0) := h108
                refine ok_eq (fun c109 => ?_) (fun c109 => ?_)
                · exfalso; omega
                · refine ok_s (show ((xc11 = 0 ∧ c_t_thrown_34_8.toInt = 0) ∨ (xc11 = 1 ∧ c_t_thrown_34_8.toInt = 1) ∨ (xc11 = 2 ∧ c_t_thrown_34_8.toInt = 2)) ∧ (xc11 = 0 → (0 : Int32) = (0 : Int32)) ∧ ac = ac ∧ fo = fo ∧ FA fo from ?_)
                  first | (exfalso; omega) | (subst_vars; first | (exfalso; omega) | (refine ⟨?_, ?_, ?_, ?_, ?_⟩ <;> (first | assumption | rfl | omega | (intro hx; first | rfl | assumption | (exfalso; omega) | exact Int32.toInt_inj.mp (by omega)) | exact Int32.toInt_inj.mp (by omega) | (rw [uu_a, uu_a]) | (((first | rw [(hda.1 (by omega)).1] | rw [(hda.1 (by omega)).2] | rw [(hda.2.1 (by omega)).1] | rw [(hda.2.1 (by omega)).2] | skip) <;> first | rfl | (intro _; rw [if_neg hda.2.2]) | (intro _; rw [if_pos rfl]) | exact (uu_i rfl).symm | exact hdt _ (FA_at (by assumption) _).2 (Or.inl rfl) | exact hdt _ (FA_at (by assumption) _).2 (Or.inr rfl))))))
    · refine ok_s ?_
      show ok (F_X9_digit ac th fo p0 p1 p2) (fun q => ((xc5 = 0 ∧ q.2.2.1.toInt = 0) ∨ (xc5 = 1 ∧ q.2.2.1.toInt = 1) ∨ (xc5 = 2 ∧ q.2.2.1.toInt = 2)) ∧ (xc5 = 0 → (0 : Int32) = q.1) ∧ ac = q.2.1 ∧ fo = q.2.2.2 ∧ FA q.2.2.2)
      unfold F_X9_digit
      refine ok_o (sp_X9_isForm p0 ) (fun r2_8 h110 => ?_)
      have h110 : (r2_8.toInt = 1 ∧ 0 ≤ p0.toInt ∧ p0.toInt ≤ 5) ∨ (r2_8.toInt = 0 ∧ (p0.toInt < 0 ∨ 6 ≤ p0.toInt)) := h110
      refine ok_eq (fun c111 => ?_) (fun c111 => ?_)
      · exfalso; omega
      · refine ok_o (sp_X9_isPlace p1 ) (fun r9_8 h112 => ?_)
        have h112 : (r9_8.toInt = 1 ∧ 0 ≤ p1.toInt ∧ p1.toInt ≤ 39) ∨ (r9_8.toInt = 0 ∧ (p1.toInt < 0 ∨ 40 ≤ p1.toInt)) := h112
        refine ok_eq (fun c113 => ?_) (fun c113 => ?_)
        · first | unfold J_X9_digit_15 | skip
          first | unfold J_X9_digit_20 | skip
          refine ok_lt (fun c114 => ?_) (fun c114 => ?_)
          · first | unfold J_X9_digit_29 | skip
            first | unfold J_X9_digit_34 | skip
            refine ok_o2 (sp_X9_isThrown (1 : Int32) (1 : Int32) ) (fun r34_9 c_t_thrown_34_9 h115 => ?_)
            have h115 : (r34_9.toInt = 0 ∧ c_t_thrown_34_9.toInt = 0 ∧ (1 : Int32).toInt = 0 ∧ (1 : Int32).toInt = 0) ∨ (r34_9.toInt = 1 ∧ c_t_thrown_34_9.toInt = 1 ∧ (1 : Int32).toInt ≠ 0) ∨ (r34_9.toInt = 1 ∧ c_t_thrown_34_9.toInt = 2 ∧ (1 : Int32).toInt = 0 ∧ (1 : Int32).toInt ≠ 0) := h115
            refine ok_eq (fun c116 => ?_) (fun c116 => ?_)
            · exfalso; omega
            · refine ok_s (show ((xc5 = 0 ∧ c_t_thrown_34_9.toInt = 0) ∨ (xc5 = 1 ∧ c_t_thrown_34_9.toInt = 1) ∨ (xc5 = 2 ∧ c_t_thrown_34_9.toInt = 2)) ∧ (xc5 = 0 → (0 : Int32) = (0 : Int32)) ∧ ac = ac ∧ fo = fo ∧ FA fo from ?_)
              first | (exfalso; omega) | (subst_vars; first | (exfalso; omega) | (refine ⟨?_, ?_, ?_, ?_, ?_⟩ <;> (first | assumption | rfl | omega | (intro hx; first | rfl | assumption | (exfalso; omega) | exact Int32.toInt_inj.mp (by omega)) | exact Int32.toInt_inj.mp (by omega) | (rw [uu_a, uu_a]) | (((first | rw [(hda.1 (by omega)).1] | rw [(hda.1 (by omega)).2] | rw [(hda.2.1 (by omega)).1] | rw [(hda.2.1 (by omega)).2] | skip) <;> first | rfl | (intro _; rw [if_neg hda.2.2]) | (intro _; rw [if_pos rfl]) | exact (uu_i rfl).symm | exact hdt _ (FA_at (by assumption) _).2 (Or.inl rfl) | exact hdt _ (FA_at (by assumption) _).2 (Or.inr rfl))))))
          · refine ok_le (fun c117 => ?_) (fun c117 => ?_)
            · first | unfold J_X9_digit_34 | skip
              refine ok_o2 (sp_X9_isThrown (1 : Int32) (0 : Int32) ) (fun r34_10 c_t_thrown_34_10 h118 => ?_)
              have h118 : (r34_10.toInt = 0 ∧ c_t_thrown_34_10.toInt = 0 ∧ (1 : Int32).toInt = 0 ∧ (0 : Int32).toInt = 0) ∨ (r34_10.toInt = 1 ∧ c_t_thrown_34_10.toInt = 1 ∧ (1 : Int32).toInt ≠ 0) ∨ (r34_10.toInt = 1 ∧ c_t_thrown_34_10.toInt = 2 ∧ (1 : Int32).toInt = 0 ∧ (0 : Int32).toInt ≠ 0) := h118
              refine ok_eq (fun c119 => ?_) (fun c119 => ?_)
              · exfalso; omega
              · refine ok_s (show ((xc5 = 0 ∧ c_t_thrown_34_10.toInt = 0) ∨ (xc5 = 1 ∧ c_t_thrown_34_10.toInt = 1) ∨ (xc5 = 2 ∧ c_t_thrown_34_10.toInt = 2)) ∧ (xc5 = 0 → (0 : Int32) = (0 : Int32)) ∧ ac = ac ∧ fo = fo ∧ FA fo from ?_)
                first | (exfalso; omega) | (subst_vars; first | (exfalso; omega) | (refine ⟨?_, ?_, ?_, ?_, ?_⟩ <;> (first | assumption | rfl | omega | (intro hx; first | rfl | assumption | (exfalso; omega) | exact Int32.toInt_inj.mp (by omega)) | exact Int32.toInt_inj.mp (by omega) | (rw [uu_a, uu_a]) | (((first | rw [(hda.1 (by omega)).1] | rw [(hda.1 (by omega)).2] | rw [(hda.2.1 (by omega)).1] | rw [(hda.2.1 (by omega)).2] | skip) <;> first | rfl | (intro _; rw [if_neg hda.2.2]) | (intro _; rw [if_pos rfl]) | exact (uu_i rfl).symm | exact hdt _ (FA_at (by assumption) _).2 (Or.inl rfl) | exact hdt _ (FA_at (by assumption) _).2 (Or.inr rfl))))))
            · first | unfold J_X9_digit_29 | skip
              first | unfold J_X9_digit_34 | skip
              refine ok_o2 (sp_X9_isThrown (1 : Int32) (1 : Int32) ) (fun r34_11 c_t_thrown_34_11 h120 => ?_)
              have h120 : (r34_11.toInt = 0 ∧ c_t_thrown_34_11.toInt = 0 ∧ (1 : Int32).toInt = 0 ∧ (1 : Int32).toInt = 0) ∨ (r34_11.toInt = 1 ∧ c_t_thrown_34_11.toInt = 1 ∧ (1 : Int32).toInt ≠ 0) ∨ (r34_11.toInt = 1 ∧ c_t_thrown_34_11.toInt = 2 ∧ (1 : Int32).toInt = 0 ∧ (1 : Int32).toInt ≠ 0) := h120
              refine ok_eq (fun c121 => ?_) (fun c121 => ?_)
              · exfalso; omega
              · refine ok_s (show ((xc5 = 0 ∧ c_t_thrown_34_11.toInt = 0) ∨ (xc5 = 1 ∧ c_t_thrown_34_11.toInt = 1) ∨ (xc5 = 2 ∧ c_t_thrown_34_11.toInt = 2)) ∧ (xc5 = 0 → (0 : Int32) = (0 : Int32)) ∧ ac = ac ∧ fo = fo ∧ FA fo from ?_)
                first | (exfalso; omega) | (subst_vars; first | (exfalso; omega) | (refine ⟨?_, ?_, ?_, ?_, ?_⟩ <;> (first | assumption | rfl | omega | (intro hx; first | rfl | assumption | (exfalso; omega) | exact Int32.toInt_inj.mp (by omega)) | exact Int32.toInt_inj.mp (by omega) | (rw [uu_a, uu_a]) | (((first | rw [(hda.1 (by omega)).1] | rw [(hda.1 (by omega)).2] | rw [(hda.2.1 (by omega)).1] | rw [(hda.2.1 (by omega)).2] | skip) <;> first | rfl | (intro _; rw [if_neg hda.2.2]) | (intro _; rw [if_pos rfl]) | exact (uu_i rfl).symm | exact hdt _ (FA_at (by assumption) _).2 (Or.inl rfl) | exact hdt _ (FA_at (by assumption) _).2 (Or.inr rfl))))))
        · exfalso; omega
  · refine ok_s ?_
    show ok (F_X9_digit ac th fo p0 p1 p2) (fun q => ((xc1 = 0 ∧ q.2.2.1.toInt = 0) ∨ (xc1 = 1 ∧ q.2.2.1.toInt = 1) ∨ (xc1 = 2 ∧ q.2.2.1.toInt = 2)) ∧ (xc1 = 0 → (0 : Int32) = q.1) ∧ ac = q.2.1 ∧ fo = q.2.2.2 ∧ FA q.2.2.2)
    unfold F_X9_digit
    refine ok_o (sp_X9_isForm p0 ) (fun r2_9 h122 => ?_)
    have h122 : (r2_9.toInt = 1 ∧ 0 ≤ p0.toInt ∧ p0.toInt ≤ 5) ∨ (r2_9.toInt = 0 ∧ (p0.toInt < 0 ∨ 6 ≤ p0.toInt)) := h122
    refine ok_eq (fun c123 => ?_) (fun c123 => ?_)
    · first | unfold J_X9_digit_15 | skip
      first | unfold J_X9_digit_20 | skip
      refine ok_lt (fun c124 => ?_) (fun c124 => ?_)
      · first | unfold J_X9_digit_29 | skip
        first | unfold J_X9_digit_34 | skip
        refine ok_o2 (sp_X9_isThrown (1 : Int32) (1 : Int32) ) (fun r34_12 c_t_thrown_34_12 h125 => ?_)
        have h125 : (r34_12.toInt = 0 ∧ c_t_thrown_34_12.toInt = 0 ∧ (1 : Int32).toInt = 0 ∧ (1 : Int32).toInt = 0) ∨ (r34_12.toInt = 1 ∧ c_t_thrown_34_12.toInt = 1 ∧ (1 : Int32).toInt ≠ 0) ∨ (r34_12.toInt = 1 ∧ c_t_thrown_34_12.toInt = 2 ∧ (1 : Int32).toInt = 0 ∧ (1 : Int32).toInt ≠ 0) := h125
        refine ok_eq (fun c126 => ?_) (fun c126 => ?_)
        · exfalso; omega
        · refine ok_s (show ((xc1 = 0 ∧ c_t_thrown_34_12.toInt = 0) ∨ (xc1 = 1 ∧ c_t_thrown_34_12.toInt = 1) ∨ (xc1 = 2 ∧ c_t_thrown_34_12.toInt = 2)) ∧ (xc1 = 0 → (0 : Int32) = (0 : Int32)) ∧ ac = ac ∧ fo = fo ∧ FA fo from ?_)
          first | (exfalso; omega) | (subst_vars; first | (exfalso; omega) | (refine ⟨?_, ?_, ?_, ?_, ?_⟩ <;> (first | assumption | rfl | omega | (intro hx; first | rfl | assumption | (exfalso; omega) | exact Int32.toInt_inj.mp (by omega)) | exact Int32.toInt_inj.mp (by omega) | (rw [uu_a, uu_a]) | (((first | rw [(hda.1 (by omega)).1] | rw [(hda.1 (by omega)).2] | rw [(hda.2.1 (by omega)).1] | rw [(hda.2.1 (by omega)).2] | skip) <;> first | rfl | (intro _; rw [if_neg hda.2.2]) | (intro _; rw [if_pos rfl]) | exact (uu_i rfl).symm | exact hdt _ (FA_at (by assumption) _).2 (Or.inl rfl) | exact hdt _ (FA_at (by assumption) _).2 (Or.inr rfl))))))
      · refine ok_le (fun c127 => ?_) (fun c127 => ?_)
        · first | unfold J_X9_digit_34 | skip
          refine ok_o2 (sp_X9_isThrown (1 : Int32) (0 : Int32) ) (fun r34_13 c_t_thrown_34_13 h128 => ?_)
          have h128 : (r34_13.toInt = 0 ∧ c_t_thrown_34_13.toInt = 0 ∧ (1 : Int32).toInt = 0 ∧ (0 : Int32).toInt = 0) ∨ (r34_13.toInt = 1 ∧ c_t_thrown_34_13.toInt = 1 ∧ (1 : Int32).toInt ≠ 0) ∨ (r34_13.toInt = 1 ∧ c_t_thrown_34_13.toInt = 2 ∧ (1 : Int32).toInt = 0 ∧ (0 : Int32).toInt ≠ 0) := h128
          refine ok_eq (fun c129 => ?_) (fun c129 => ?_)
          · exfalso; omega
          · refine ok_s (show ((xc1 = 0 ∧ c_t_thrown_34_13.toInt = 0) ∨ (xc1 = 1 ∧ c_t_thrown_34_13.toInt = 1) ∨ (xc1 = 2 ∧ c_t_thrown_34_13.toInt = 2)) ∧ (xc1 = 0 → (0 : Int32) = (0 : Int32)) ∧ ac = ac ∧ fo = fo ∧ FA fo from ?_)
            first | (exfalso; omega) | (subst_vars; first | (exfalso; omega) | (refine ⟨?_, ?_, ?_, ?_, ?_⟩ <;> (first | assumption | rfl | omega | (intro hx; first | rfl | assumption | (exfalso; omega) | exact Int32.toInt_inj.mp (by omega)) | exact Int32.toInt_inj.mp (by omega) | (rw [uu_a, uu_a]) | (((first | rw [(hda.1 (by omega)).1] | rw [(hda.1 (by omega)).2] | rw [(hda.2.1 (by omega)).1] | rw [(hda.2.1 (by omega)).2] | skip) <;> first | rfl | (intro _; rw [if_neg hda.2.2]) | (intro _; rw [if_pos rfl]) | exact (uu_i rfl).symm | exact hdt _ (FA_at (by assumption) _).2 (Or.inl rfl) | exact hdt _ (FA_at (by assumption) _).2 (Or.inr rfl))))))
        · first | unfold J_X9_digit_29 | skip
          first | unfold J_X9_digit_34 | skip
          refine ok_o2 (sp_X9_isThrown (1 : Int32) (1 : Int32) ) (fun r34_14 c_t_thrown_34_14 h130 => ?_)
          have h130 : (r34_14.toInt = 0 ∧ c_t_thrown_34_14.toInt = 0 ∧ (1 : Int32).toInt = 0 ∧ (1 : Int32).toInt = 0) ∨ (r34_14.toInt = 1 ∧ c_t_thrown_34_14.toInt = 1 ∧ (1 : Int32).toInt ≠ 0) ∨ (r34_14.toInt = 1 ∧ c_t_thrown_34_14.toInt = 2 ∧ (1 : Int32).toInt = 0 ∧ (1 : Int32).toInt ≠ 0) := h130
          refine ok_eq (fun c131 => ?_) (fun c131 => ?_)
          · exfalso; omega
          · refine ok_s (show ((xc1 = 0 ∧ c_t_thrown_34_14.toInt = 0) ∨ (xc1 = 1 ∧ c_t_thrown_34_14.toInt = 1) ∨ (xc1 = 2 ∧ c_t_thrown_34_14.toInt = 2)) ∧ (xc1 = 0 → (0 : Int32) = (0 : Int32)) ∧ ac = ac ∧ fo = fo ∧ FA fo from ?_)
            first | (exfalso; omega) | (subst_vars; first | (exfalso; omega) | (refine ⟨?_, ?_, ?_, ?_, ?_⟩ <;> (first | assumption | rfl | omega | (intro hx; first | rfl | assumption | (exfalso; omega) | exact Int32.toInt_inj.mp (by omega)) | exact Int32.toInt_inj.mp (by omega) | (rw [uu_a, uu_a]) | (((first | rw [(hda.1 (by omega)).1] | rw [(hda.1 (by omega)).2] | rw [(hda.2.1 (by omega)).1] | rw [(hda.2.1 (by omega)).2] | skip) <;> first | rfl | (intro _; rw [if_neg hda.2.2]) | (intro _; rw [if_pos rfl]) | exact (uu_i rfl).symm | exact hdt _ (FA_at (by assumption) _).2 (Or.inl rfl) | exact hdt _ (FA_at (by assumption) _).2 (Or.inr rfl))))))
    · exfalso; omega
set_option maxHeartbeats 1000000 in
theorem s7_run (ac : Int32) (fo : Nat → Int64) (th : Int32) (p0 : Int32) (p1 : Int32) (p2 : Int32) (hp0 : FA fo) : ok (F_X7_run ac fo p0 p1 p2) (fun r => ok (F_X9_run ac th fo p0 p1 p2) (fun q => ((r.1 = 0 ∧ q.2.2.1.toInt = 0) ∨ (r.1 = 1 ∧ q.2.2.1.toInt = 1) ∨ (r.1 = 2 ∧ q.2.2.1.toInt = 2)) ∧ (r.1 = 0 → r.2.1 = q.1) ∧ r.2.2.1 = q.2.1 ∧ r.2.2.2 = q.2.2.2 ∧ FA q.2.2.2)) := by
  have l032 : (0 : Int32).toInt = 0 := by decide
  have l132 : (1 : Int32).toInt = 1 := by decide
  have l164 : (1 : Int64).toInt = 1 := by decide
  have l4032 : (40 : Int32).toInt = 40 := by decide
  unfold F_X7_run
  refine ok_o (fx_X7_testForm p0 ) (fun xc1 h1 => ?_)
  have h1 : (xc1 = 0 ∧ 0 ≤ p0.toInt ∧ p0.toInt ≤ 5) ∨ (xc1 = 1 ∧ (p0.toInt < 0 ∨ 5 < p0.toInt)) := h1
  refine ok_i (fun c2 => ?_) (fun c2 => ?_)
  · refine ok_o (sp_X7_testRange p2 (0 : Int32) (40 : Int32) ) (fun xc8 h3 => ?_)
    have h3 : (xc8 = 0 ∧ (0 : Int32).toInt ≤ p2.toInt ∧ p2.toInt ≤ (40 : Int32).toInt) ∨ (xc8 = 2 ∧ (p2.toInt < (0 : Int32).toInt ∨ (40 : Int32).toInt < p2.toInt)) := h3
    refine ok_i (fun c4 => ?_) (fun c4 => ?_)
    · refine ok_o (sp_X7_testRange p1 (0 : Int32) p2 ) (fun xc14 h5 => ?_)
      have h5 : (xc14 = 0 ∧ (0 : Int32).toInt ≤ p1.toInt ∧ p1.toInt ≤ p2.toInt) ∨ (xc14 = 2 ∧ (p1.toInt < (0 : Int32).toInt ∨ p2.toInt < p1.toInt)) := h5
      refine ok_i (fun c6 => ?_) (fun c6 => ?_)
      · refine ok_c (ixo (by omega) (by omega)) ?_
        refine ok_c (ixo (by omega) (by omega)) ?_
        try have a7 := FA_at (f := fo) (by assumption) p0.toNatClampNeg
        refine ok_bx (fun f_t_forms_32 e_f_t_forms_32 => ?_)
        try have t_f_t_forms_32 : FA f_t_forms_32 := by rw [e_f_t_forms_32]; exact FA_upd (by first | assumption | exact FA_0) _ (by first | omega | assumption | trivial)
        refine ok_c (ixo (by omega) (by omega)) ?_
        try have a8 := FA_at (f := f_t_forms_32) (by assumption) p0.toNatClampNeg
        refine ok_o (fx_X0_onesOf (f_t_forms_32 p0.toNatClampNeg) ) (fun r40 h9 => ?_)
        have h9 : r40 = BC (f_t_forms_32 p0.toNatClampNeg) := h9
        refine ok_o2 (fx_X7_done ac r40 ) (fun r43 c_t_acts_43 h10 => ?_)
        have h10 : r43 = r40 ∧ c_t_acts_43 = ac + (1 : Int32) := h10
        obtain ⟨h10_0, h10_1⟩ := h10
        refine ok_s ?_
        show ok (F_X9_run ac th fo p0 p1 p2) (fun q => ((0 = 0 ∧ q.2.2.1.toInt = 0) ∨ (0 = 1 ∧ q.2.2.1.toInt = 1) ∨ (0 = 2 ∧ q.2.2.1.toInt = 2)) ∧ (0 = 0 → r43 = q.1) ∧ c_t_acts_43 = q.2.1 ∧ f_t_forms_32 = q.2.2.2 ∧ FA q.2.2.2)
        unfold F_X9_run
        refine ok_o (sp_X9_isForm p0 ) (fun r2 h11 => ?_)
        have h11 : (r2.toInt = 1 ∧ 0 ≤ p0.toInt ∧ p0.toInt ≤ 5) ∨ (r2.toInt = 0 ∧ (p0.toInt < 0 ∨ 6 ≤ p0.toInt)) := h11
        refine ok_eq (fun c12 => ?_) (fun c12 => ?_)
        · exfalso; omega
        · first | unfold J_X9_run_13 | skip
          refine ok_lt (fun c13 => ?_) (fun c13 => ?_)
          · exfalso; omega
          · refine ok_lt (fun c14 => ?_) (fun c14 => ?_)
            · exfalso; omega
            · refine ok_le (fun c15 => ?_) (fun c15 => ?_)
              · first | unfold J_X9_run_33 | skip
                refine ok_o2 (sp_X9_isThrown (0 : Int32) (0 : Int32) ) (fun r33 c_t_thrown_33 h16 => ?_)
                have h16 : (r33.toInt = 0 ∧ c_t_thrown_33.toInt = 0 ∧ (0 : Int32).toInt = 0 ∧ (0 : Int32).toInt = 0) ∨ (r33.toInt = 1 ∧ c_t_thrown_33.toInt = 1 ∧ (0 : Int32).toInt ≠ 0) ∨ (r33.toInt = 1 ∧ c_t_thrown_33.toInt = 2 ∧ (0 : Int32).toInt = 0 ∧ (0 : Int32).toInt ≠ 0) := h16
                refine ok_eq (fun c17 => ?_) (fun c17 => ?_)
                · refine run_loop _ fo p0 p1 p2 (by assumption) (by omega) (by omega) (by omega) (by omega) (by omega) (fun f_t_forms_44_69 hI18 hrun => ?_)
                  refine ok_c (ixo (by omega) (by omega)) ?_
                  try have a19 := FA_at (f := f_t_forms_44_69) (by assumption) p0.toNatClampNeg
                  refine ok_o (fx_X9_onesOf (f_t_forms_44_69 p0.toNatClampNeg) ) (fun r76 h20 => ?_)
                  have h20 : 0 ≤ r76.toInt ∧ r76.toInt ≤ 127 ∧ r76 = BC (f_t_forms_44_69 p0.toNatClampNeg) := h20
                  obtain ⟨h20_0, h20_1, h20_2⟩ := h20
                  refine ok_o2 (fx_X9_done ac r76 ) (fun r79 c_t_acts_79 h21 => ?_)
                  have h21 : r79 = r76 ∧ c_t_acts_79 = ac + (1 : Int32) := h21
                  obtain ⟨h21_0, h21_1⟩ := h21
                  refine ok_s (show ((0 = 0 ∧ c_t_thrown_33.toInt = 0) ∨ (0 = 1 ∧ c_t_thrown_33.toInt = 1) ∨ (0 = 2 ∧ c_t_thrown_33.toInt = 2)) ∧ (0 = 0 → r43 = r79) ∧ c_t_acts_43 = c_t_acts_79 ∧ f_t_forms_32 = f_t_forms_44_69 ∧ FA f_t_forms_44_69 from ?_)
                  first | (exfalso; omega) | (subst_vars; first | (exfalso; omega) | (refine ⟨?_, ?_, ?_, ?_, ?_⟩ <;> (first | assumption | rfl | omega | (intro hx; first | rfl | assumption | (exfalso; omega) | exact Int32.toInt_inj.mp (by omega)) | exact Int32.toInt_inj.mp (by omega) | (rw [uu_a, uu_a]))))
                · exfalso; omega
              · exfalso; omega
      · refine ok_s ?_
        show ok (F_X9_run ac th fo p0 p1 p2) (fun q => ((xc14 = 0 ∧ q.2.2.1.toInt = 0) ∨ (xc14 = 1 ∧ q.2.2.1.toInt = 1) ∨ (xc14 = 2 ∧ q.2.2.1.toInt = 2)) ∧ (xc14 = 0 → (0 : Int32) = q.1) ∧ ac = q.2.1 ∧ fo = q.2.2.2 ∧ FA q.2.2.2)
        unfold F_X9_run
        refine ok_o (sp_X9_isForm p0 ) (fun r2_2 h22 => ?_)
        have h22 : (r2_2.toInt = 1 ∧ 0 ≤ p0.toInt ∧ p0.toInt ≤ 5) ∨ (r2_2.toInt = 0 ∧ (p0.toInt < 0 ∨ 6 ≤ p0.toInt)) := h22
        refine ok_eq (fun c23 => ?_) (fun c23 => ?_)
        · exfalso; omega
        · first | unfold J_X9_run_13 | skip
          refine ok_lt (fun c24 => ?_) (fun c24 => ?_)
          · first | unfold J_X9_run_28 | skip
            first | unfold J_X9_run_33 | skip
            refine ok_o2 (sp_X9_isThrown (0 : Int32) (1 : Int32) ) (fun r33_2 c_t_thrown_33_2 h25 => ?_)
            have h25 : (r33_2.toInt = 0 ∧ c_t_thrown_33_2.toInt = 0 ∧ (0 : Int32).toInt = 0 ∧ (1 : Int32).toInt = 0) ∨ (r33_2.toInt = 1 ∧ c_t_thrown_33_2.toInt = 1 ∧ (0 : Int32).toInt ≠ 0) ∨ (r33_2.toInt = 1 ∧ c_t_thrown_33_2.toInt = 2 ∧ (0 : Int32).toInt = 0 ∧ (1 : Int32).toInt ≠ 0) := h25
            refine ok_eq (fun c26 => ?_) (fun c26 => ?_)
            · exfalso; omega
            · refine ok_s (show ((xc14 = 0 ∧ c_t_thrown_33_2.toInt = 0) ∨ (xc14 = 1 ∧ c_t_thrown_33_2.toInt = 1) ∨ (xc14 = 2 ∧ c_t_thrown_33_2.toInt = 2)) ∧ (xc14 = 0 → (0 : Int32) = (0 : Int32)) ∧ ac = ac ∧ fo = fo ∧ FA fo from ?_)
              first | (exfalso; omega) | (subst_vars; first | (exfalso; omega) | (refine ⟨?_, ?_, ?_, ?_, ?_⟩ <;> (first | assumption | rfl | omega | (intro hx; first | rfl | assumption | (exfalso; omega) | exact Int32.toInt_inj.mp (by omega)) | exact Int32.toInt_inj.mp (by omega) | (rw [uu_a, uu_a]))))
          · refine ok_lt (fun c27 => ?_) (fun c27 => ?_)
            · first | unfold J_X9_run_28 | skip
              first | unfold J_X9_run_33 | skip
              refine ok_o2 (sp_X9_isThrown (0 : Int32) (1 : Int32) ) (fun r33_3 c_t_thrown_33_3 h28 => ?_)
              have h28 : (r33_3.toInt = 0 ∧ c_t_thrown_33_3.toInt = 0 ∧ (0 : Int32).toInt = 0 ∧ (1 : Int32).toInt = 0) ∨ (r33_3.toInt = 1 ∧ c_t_thrown_33_3.toInt = 1 ∧ (0 : Int32).toInt ≠ 0) ∨ (r33_3.toInt = 1 ∧ c_t_thrown_33_3.toInt = 2 ∧ (0 : Int32).toInt = 0 ∧ (1 : Int32).toInt ≠ 0) := h28
              refine ok_eq (fun c29 => ?_) (fun c29 => ?_)
              · exfalso; omega
              · refine ok_s (show ((xc14 = 0 ∧ c_t_thrown_33_3.toInt = 0) ∨ (xc14 = 1 ∧ c_t_thrown_33_3.toInt = 1) ∨ (xc14 = 2 ∧ c_t_thrown_33_3.toInt = 2)) ∧ (xc14 = 0 → (0 : Int32) = (0 : Int32)) ∧ ac = ac ∧ fo = fo ∧ FA fo from ?_)
                first | (exfalso; omega) | (subst_vars; first | (exfalso; omega) | (refine ⟨?_, ?_, ?_, ?_, ?_⟩ <;> (first | assumption | rfl | omega | (intro hx; first | rfl | assumption | (exfalso; omega) | exact Int32.toInt_inj.mp (by omega)) | exact Int32.toInt_inj.mp (by omega) | (rw [uu_a, uu_a]))))
            · exfalso; omega
    · refine ok_s ?_
      show ok (F_X9_run ac th fo p0 p1 p2) (fun q => ((xc8 = 0 ∧ q.2.2.1.toInt = 0) ∨ (xc8 = 1 ∧ q.2.2.1.toInt = 1) ∨ (xc8 = 2 ∧ q.2.2.1.toInt = 2)) ∧ (xc8 = 0 → (0 : Int32) = q.1) ∧ ac = q.2.1 ∧ fo = q.2.2.2 ∧ FA q.2.2.2)
      unfold F_X9_run
      refine ok_o (sp_X9_isForm p0 ) (fun r2_3 h30 => ?_)
      have h30 : (r2_3.toInt = 1 ∧ 0 ≤ p0.toInt ∧ p0.toInt ≤ 5) ∨ (r2_3.toInt = 0 ∧ (p0.toInt < 0 ∨ 6 ≤ p0.toInt)) := h30
      refine ok_eq (fun c31 => ?_) (fun c31 => ?_)
      · exfalso; omega
      · first | unfold J_X9_run_13 | skip
        refine ok_lt (fun c32 => ?_) (fun c32 => ?_)
        · first | unfold J_X9_run_28 | skip
          first | unfold J_X9_run_33 | skip
          refine ok_o2 (sp_X9_isThrown (0 : Int32) (1 : Int32) ) (fun r33_4 c_t_thrown_33_4 h33 => ?_)
          have h33 : (r33_4.toInt = 0 ∧ c_t_thrown_33_4.toInt = 0 ∧ (0 : Int32).toInt = 0 ∧ (1 : Int32).toInt = 0) ∨ (r33_4.toInt = 1 ∧ c_t_thrown_33_4.toInt = 1 ∧ (0 : Int32).toInt ≠ 0) ∨ (r33_4.toInt = 1 ∧ c_t_thrown_33_4.toInt = 2 ∧ (0 : Int32).toInt = 0 ∧ (1 : Int32).toInt ≠ 0) := h33
          refine ok_eq (fun c34 => ?_) (fun c34 => ?_)
          · exfalso; omega
          · refine ok_s (show ((xc8 = 0 ∧ c_t_thrown_33_4.toInt = 0) ∨ (xc8 = 1 ∧ c_t_thrown_33_4.toInt = 1) ∨ (xc8 = 2 ∧ c_t_thrown_33_4.toInt = 2)) ∧ (xc8 = 0 → (0 : Int32) = (0 : Int32)) ∧ ac = ac ∧ fo = fo ∧ FA fo from ?_)
            first | (exfalso; omega) | (subst_vars; first | (exfalso; omega) | (refine ⟨?_, ?_, ?_, ?_, ?_⟩ <;> (first | assumption | rfl | omega | (intro hx; first | rfl | assumption | (exfalso; omega) | exact Int32.toInt_inj.mp (by omega)) | exact Int32.toInt_inj.mp (by omega) | (rw [uu_a, uu_a]))))
        · refine ok_lt (fun c35 => ?_) (fun c35 => ?_)
          · first | unfold J_X9_run_28 | skip
            first | unfold J_X9_run_33 | skip
            refine ok_o2 (sp_X9_isThrown (0 : Int32) (1 : Int32) ) (fun r33_5 c_t_thrown_33_5 h36 => ?_)
            have h36 : (r33_5.toInt = 0 ∧ c_t_thrown_33_5.toInt = 0 ∧ (0 : Int32).toInt = 0 ∧ (1 : Int32).toInt = 0) ∨ (r33_5.toInt = 1 ∧ c_t_thrown_33_5.toInt = 1 ∧ (0 : Int32).toInt ≠ 0) ∨ (r33_5.toInt = 1 ∧ c_t_thrown_33_5.toInt = 2 ∧ (0 : Int32).toInt = 0 ∧ (1 : Int32).toInt ≠ 0) := h36
            refine ok_eq (fun c37 => ?_) (fun c37 => ?_)
            · exfalso; omega
            · refine ok_s (show ((xc8 = 0 ∧ c_t_thrown_33_5.toInt = 0) ∨ (xc8 = 1 ∧ c_t_thrown_33_5.toInt = 1) ∨ (xc8 = 2 ∧ c_t_thrown_33_5.toInt = 2)) ∧ (xc8 = 0 → (0 : Int32) = (0 : Int32)) ∧ ac = ac ∧ fo = fo ∧ FA fo from ?_)
              first | (exfalso; omega) | (subst_vars; first | (exfalso; omega) | (refine ⟨?_, ?_, ?_, ?_, ?_⟩ <;> (first | assumption | rfl | omega | (intro hx; first | rfl | assumption | (exfalso; omega) | exact Int32.toInt_inj.mp (by omega)) | exact Int32.toInt_inj.mp (by omega) | (rw [uu_a, uu_a]))))
          · refine ok_le (fun c38 => ?_) (fun c38 => ?_)
            · exfalso; omega
            · first | unfold J_X9_run_28 | skip
              first | unfold J_X9_run_33 | skip
              refine ok_o2 (sp_X9_isThrown (0 : Int32) (1 : Int32) ) (fun r33_6 c_t_thrown_33_6 h39 => ?_)
              have h39 : (r33_6.toInt = 0 ∧ c_t_thrown_33_6.toInt = 0 ∧ (0 : Int32).toInt = 0 ∧ (1 : Int32).toInt = 0) ∨ (r33_6.toInt = 1 ∧ c_t_thrown_33_6.toInt = 1 ∧ (0 : Int32).toInt ≠ 0) ∨ (r33_6.toInt = 1 ∧ c_t_thrown_33_6.toInt = 2 ∧ (0 : Int32).toInt = 0 ∧ (1 : Int32).toInt ≠ 0) := h39
              refine ok_eq (fun c40 => ?_) (fun c40 => ?_)
              · exfalso; omega
              · refine ok_s (show ((xc8 = 0 ∧ c_t_thrown_33_6.toInt = 0) ∨ (xc8 = 1 ∧ c_t_thrown_33_6.toInt = 1) ∨ (xc8 = 2 ∧ c_t_thrown_33_6.toInt = 2)) ∧ (xc8 = 0 → (0 : Int32) = (0 : Int32)) ∧ ac = ac ∧ fo = fo ∧ FA fo from ?_)
                first | (exfalso; omega) | (subst_vars; first | (exfalso; omega) | (refine ⟨?_, ?_, ?_, ?_, ?_⟩ <;> (first | assumption | rfl | omega | (intro hx; first | rfl | assumption | (exfalso; omega) | exact Int32.toInt_inj.mp (by omega)) | exact Int32.toInt_inj.mp (by omega) | (rw [uu_a, uu_a]))))
  · refine ok_s ?_
    show ok (F_X9_run ac th fo p0 p1 p2) (fun q => ((xc1 = 0 ∧ q.2.2.1.toInt = 0) ∨ (xc1 = 1 ∧ q.2.2.1.toInt = 1) ∨ (xc1 = 2 ∧ q.2.2.1.toInt = 2)) ∧ (xc1 = 0 → (0 : Int32) = q.1) ∧ ac = q.2.1 ∧ fo = q.2.2.2 ∧ FA q.2.2.2)
    unfold F_X9_run
    refine ok_o (sp_X9_isForm p0 ) (fun r2_4 h41 => ?_)
    have h41 : (r2_4.toInt = 1 ∧ 0 ≤ p0.toInt ∧ p0.toInt ≤ 5) ∨ (r2_4.toInt = 0 ∧ (p0.toInt < 0 ∨ 6 ≤ p0.toInt)) := h41
    refine ok_eq (fun c42 => ?_) (fun c42 => ?_)
    · first | unfold J_X9_run_13 | skip
      refine ok_lt (fun c43 => ?_) (fun c43 => ?_)
      · first | unfold J_X9_run_28 | skip
        first | unfold J_X9_run_33 | skip
        refine ok_o2 (sp_X9_isThrown (1 : Int32) (1 : Int32) ) (fun r33_7 c_t_thrown_33_7 h44 => ?_)
        have h44 : (r33_7.toInt = 0 ∧ c_t_thrown_33_7.toInt = 0 ∧ (1 : Int32).toInt = 0 ∧ (1 : Int32).toInt = 0) ∨ (r33_7.toInt = 1 ∧ c_t_thrown_33_7.toInt = 1 ∧ (1 : Int32).toInt ≠ 0) ∨ (r33_7.toInt = 1 ∧ c_t_thrown_33_7.toInt = 2 ∧ (1 : Int32).toInt = 0 ∧ (1 : Int32).toInt ≠ 0) := h44
        refine ok_eq (fun c45 => ?_) (fun c45 => ?_)
        · exfalso; omega
        · refine ok_s (show ((xc1 = 0 ∧ c_t_thrown_33_7.toInt = 0) ∨ (xc1 = 1 ∧ c_t_thrown_33_7.toInt = 1) ∨ (xc1 = 2 ∧ c_t_thrown_33_7.toInt = 2)) ∧ (xc1 = 0 → (0 : Int32) = (0 : Int32)) ∧ ac = ac ∧ fo = fo ∧ FA fo from ?_)
          first | (exfalso; omega) | (subst_vars; first | (exfalso; omega) | (refine ⟨?_, ?_, ?_, ?_, ?_⟩ <;> (first | assumption | rfl | omega | (intro hx; first | rfl | assumption | (exfalso; omega) | exact Int32.toInt_inj.mp (by omega)) | exact Int32.toInt_inj.mp (by omega) | (rw [uu_a, uu_a]))))
      · refine ok_lt (fun c46 => ?_) (fun c46 => ?_)
        · first | unfold J_X9_run_28 | skip
          first | unfold J_X9_run_33 | skip
          refine ok_o2 (sp_X9_isThrown (1 : Int32) (1 : Int32) ) (fun r33_8 c_t_thrown_33_8 h47 => ?_)
          have h47 : (r33_8.toInt = 0 ∧ c_t_thrown_33_8.toInt = 0 ∧ (1 : Int32).toInt = 0 ∧ (1 : Int32).toInt = 0) ∨ (r33_8.toInt = 1 ∧ c_t_thrown_33_8.toInt = 1 ∧ (1 : Int32).toInt ≠ 0) ∨ (r33_8.toInt = 1 ∧ c_t_thrown_33_8.toInt = 2 ∧ (1 : Int32).toInt = 0 ∧ (1 : Int32).toInt ≠ 0) := h47
          refine ok_eq (fun c48 => ?_) (fun c48 => ?_)
          · exfalso; omega
          · refine ok_s (show ((xc1 = 0 ∧ c_t_thrown_33_8.toInt = 0) ∨ (xc1 = 1 ∧ c_t_thrown_33_8.toInt = 1) ∨ (xc1 = 2 ∧ c_t_thrown_33_8.toInt = 2)) ∧ (xc1 = 0 → (0 : Int32) = (0 : Int32)) ∧ ac = ac ∧ fo = fo ∧ FA fo from ?_)
            first | (exfalso; omega) | (subst_vars; first | (exfalso; omega) | (refine ⟨?_, ?_, ?_, ?_, ?_⟩ <;> (first | assumption | rfl | omega | (intro hx; first | rfl | assumption | (exfalso; omega) | exact Int32.toInt_inj.mp (by omega)) | exact Int32.toInt_inj.mp (by omega) | (rw [uu_a, uu_a]))))
        · refine ok_le (fun c49 => ?_) (fun c49 => ?_)
          · first | unfold J_X9_run_33 | skip
            refine ok_o2 (sp_X9_isThrown (1 : Int32) (0 : Int32) ) (fun r33_9 c_t_thrown_33_9 h50 => ?_)
            have h50 : (r33_9.toInt = 0 ∧ c_t_thrown_33_9.toInt = 0 ∧ (1 : Int32).toInt = 0 ∧ (0 : Int32).toInt = 0) ∨ (r33_9.toInt = 1 ∧ c_t_thrown_33_9.toInt = 1 ∧ (1 : Int32).toInt ≠ 0) ∨ (r33_9.toInt = 1 ∧ c_t_thrown_33_9.toInt = 2 ∧ (1 : Int32).toInt = 0 ∧ (0 : Int32).toInt ≠ 0) := h50
            refine ok_eq (fun c51 => ?_) (fun c51 => ?_)
            · exfalso; omega
            · refine ok_s (show ((xc1 = 0 ∧ c_t_thrown_33_9.toInt = 0) ∨ (xc1 = 1 ∧ c_t_thrown_33_9.toInt = 1) ∨ (xc1 = 2 ∧ c_t_thrown_33_9.toInt = 2)) ∧ (xc1 = 0 → (0 : Int32) = (0 : Int32)) ∧ ac = ac ∧ fo = fo ∧ FA fo from ?_)
              first | (exfalso; omega) | (subst_vars; first | (exfalso; omega) | (refine ⟨?_, ?_, ?_, ?_, ?_⟩ <;> (first | assumption | rfl | omega | (intro hx; first | rfl | assumption | (exfalso; omega) | exact Int32.toInt_inj.mp (by omega)) | exact Int32.toInt_inj.mp (by omega) | (rw [uu_a, uu_a]))))
          · first | unfold J_X9_run_28 | skip
            first | unfold J_X9_run_33 | skip
            refine ok_o2 (sp_X9_isThrown (1 : Int32) (1 : Int32) ) (fun r33_10 c_t_thrown_33_10 h52 => ?_)
            have h52 : (r33_10.toInt = 0 ∧ c_t_thrown_33_10.toInt = 0 ∧ (1 : Int32).toInt = 0 ∧ (1 : Int32).toInt = 0) ∨ (r33_10.toInt = 1 ∧ c_t_thrown_33_10.toInt = 1 ∧ (1 : Int32).toInt ≠ 0) ∨ (r33_10.toInt = 1 ∧ c_t_thrown_33_10.toInt = 2 ∧ (1 : Int32).toInt = 0 ∧ (1 : Int32).toInt ≠ 0) := h52
            refine ok_eq (fun c53 => ?_) (fun c53 => ?_)
            · exfalso; omega
            · refine ok_s (show ((xc1 = 0 ∧ c_t_thrown_33_10.toInt = 0) ∨ (xc1 = 1 ∧ c_t_thrown_33_10.toInt = 1) ∨ (xc1 = 2 ∧ c_t_thrown_33_10.toInt = 2)) ∧ (xc1 = 0 → (0 : Int32) = (0 : Int32)) ∧ ac = ac ∧ fo = fo ∧ FA fo from ?_)
              first | (exfalso; omega) | (subst_vars; first | (exfalso; omega) | (refine ⟨?_, ?_, ?_, ?_, ?_⟩ <;> (first | assumption | rfl | omega | (intro hx; first | rfl | assumption | (exfalso; omega) | exact Int32.toInt_inj.mp (by omega)) | exact Int32.toInt_inj.mp (by omega) | (rw [uu_a, uu_a]))))
    · exfalso; omega
set_option maxHeartbeats 1000000 in
theorem s7_copy (ac : Int32) (fo : Nat → Int64) (p0 : Int32) (p1 : Int32) (hp0 : FA fo) : ok (F_X7_copy ac fo p0 p1) (fun r => ok (F_X9_copy ac fo p0 p1) (fun q => ((r.1 = 0 ∧ q.2.2.1.toInt = 0) ∨ (r.1 = 1 ∧ q.2.2.1.toInt = 1)) ∧ (r.1 = 0 → r.2.1 = q.1) ∧ r.2.2.1 = q.2.1 ∧ r.2.2.2 = q.2.2.2 ∧ FA q.2.2.2)) := by
  have l032 : (0 : Int32).toInt = 0 := by decide
  have l132 : (1 : Int32).toInt = 1 := by decide
  unfold F_X7_copy
  refine ok_o (fx_X7_testForm p0 ) (fun xc1 h1 => ?_)
  have h1 : (xc1 = 0 ∧ 0 ≤ p0.toInt ∧ p0.toInt ≤ 5) ∨ (xc1 = 1 ∧ (p0.toInt < 0 ∨ 5 < p0.toInt)) := h1
  refine ok_i (fun c2 => ?_) (fun c2 => ?_)
  · refine ok_o (fx_X7_testForm p1 ) (fun xc5 h3 => ?_)
    have h3 : (xc5 = 0 ∧ 0 ≤ p1.toInt ∧ p1.toInt ≤ 5) ∨ (xc5 = 1 ∧ (p1.toInt < 0 ∨ 5 < p1.toInt)) := h3
    refine ok_i (fun c4 => ?_) (fun c4 => ?_)
    · refine ok_c (ixo (by omega) (by omega)) ?_
      try have a5 := FA_at (f := fo) (by assumption) p0.toNatClampNeg
      refine ok_o3 (fx_X7_become ac fo p1 (fo p0.toNatClampNeg) (by first | omega | assumption | trivial | exact wt_of (by assumption) (by omega)) (by first | omega | assumption | trivial | exact wt_of (by assumption) (by omega))) (fun r16 c_t_acts_16 f_t_forms_16 h6 => ?_)
      have h6 : r16 = DI (fo p0.toNatClampNeg) ∧ c_t_acts_16 = ac + (1 : Int32) ∧ f_t_forms_16 = vp_updL fo p1.toNatClampNeg (fo p0.toNatClampNeg) := h6
      obtain ⟨h6_0, h6_1, h6_2⟩ := h6
      refine ok_s ?_
      show ok (F_X9_copy ac fo p0 p1) (fun q => ((0 = 0 ∧ q.2.2.1.toInt = 0) ∨ (0 = 1 ∧ q.2.2.1.toInt = 1)) ∧ (0 = 0 → r16 = q.1) ∧ c_t_acts_16 = q.2.1 ∧ f_t_forms_16 = q.2.2.2 ∧ FA q.2.2.2)
      unfold F_X9_copy
      refine ok_o (sp_X9_isForm p0 ) (fun r2 h7 => ?_)
      have h7 : (r2.toInt = 1 ∧ 0 ≤ p0.toInt ∧ p0.toInt ≤ 5) ∨ (r2.toInt = 0 ∧ (p0.toInt < 0 ∨ 6 ≤ p0.toInt)) := h7
      refine ok_eq (fun c8 => ?_) (fun c8 => ?_)
      · exfalso; omega
      · refine ok_o (sp_X9_isForm p1 ) (fun r9 h9 => ?_)
        have h9 : (r9.toInt = 1 ∧ 0 ≤ p1.toInt ∧ p1.toInt ≤ 5) ∨ (r9.toInt = 0 ∧ (p1.toInt < 0 ∨ 6 ≤ p1.toInt)) := h9
        refine ok_eq (fun c10 => ?_) (fun c10 => ?_)
        · exfalso; omega
        · refine ok_o2 (sp_X9_isThrown_ (0 : Int32) ) (fun r20 c_t_thrown_20 h11 => ?_)
          have h11 : (r20.toInt = 0 ∧ c_t_thrown_20.toInt = 0 ∧ (0 : Int32).toInt = 0) ∨ (r20.toInt = 1 ∧ c_t_thrown_20.toInt = 1 ∧ (0 : Int32).toInt ≠ 0) := h11
          refine ok_eq (fun c12 => ?_) (fun c12 => ?_)
          · refine ok_c (ixo (by omega) (by omega)) ?_
            try have a13 := FA_at (f := fo) (by assumption) p0.toNatClampNeg
            refine ok_o3 (fx_X9_give ac fo p1 (fo p0.toNatClampNeg) (by first | omega | assumption | trivial | exact wt_of (by assumption) (by omega)) (by first | omega | assumption | trivial | exact wt_of (by assumption) (by omega)) (by first | omega | assumption | trivial | exact wt_of (by assumption) (by omega)) (by first | omega | assumption | trivial | exact wt_of (by assumption) (by omega))) (fun r38 c_t_acts_38 f_t_forms_38 h14 => ?_)
            have h14 : r38 = DI (fo p0.toNatClampNeg) ∧ c_t_acts_38 = ac + (1 : Int32) ∧ f_t_forms_38 = vp_updL fo p1.toNatClampNeg (fo p0.toNatClampNeg) ∧ FA f_t_forms_38 := h14
            obtain ⟨h14_0, h14_1, h14_2, h14_3⟩ := h14
            refine ok_s (show ((0 = 0 ∧ c_t_thrown_20.toInt = 0) ∨ (0 = 1 ∧ c_t_thrown_20.toInt = 1)) ∧ (0 = 0 → r16 = r38) ∧ c_t_acts_16 = c_t_acts_38 ∧ f_t_forms_16 = f_t_forms_38 ∧ FA f_t_forms_38 from ?_)
            first | (exfalso; omega) | (subst_vars; first | (exfalso; omega) | (refine ⟨?_, ?_, ?_, ?_, ?_⟩ <;> (first | assumption | rfl | omega | (intro hx; first | rfl | assumption | (exfalso; omega) | exact Int32.toInt_inj.mp (by omega)) | exact Int32.toInt_inj.mp (by omega) | (rw [uu_a, uu_a]))))
          · exfalso; omega
    · refine ok_s ?_
      show ok (F_X9_copy ac fo p0 p1) (fun q => ((xc5 = 0 ∧ q.2.2.1.toInt = 0) ∨ (xc5 = 1 ∧ q.2.2.1.toInt = 1)) ∧ (xc5 = 0 → (0 : Int32) = q.1) ∧ ac = q.2.1 ∧ fo = q.2.2.2 ∧ FA q.2.2.2)
      unfold F_X9_copy
      refine ok_o (sp_X9_isForm p0 ) (fun r2_2 h15 => ?_)
      have h15 : (r2_2.toInt = 1 ∧ 0 ≤ p0.toInt ∧ p0.toInt ≤ 5) ∨ (r2_2.toInt = 0 ∧ (p0.toInt < 0 ∨ 6 ≤ p0.toInt)) := h15
      refine ok_eq (fun c16 => ?_) (fun c16 => ?_)
      · exfalso; omega
      · refine ok_o (sp_X9_isForm p1 ) (fun r9_2 h17 => ?_)
        have h17 : (r9_2.toInt = 1 ∧ 0 ≤ p1.toInt ∧ p1.toInt ≤ 5) ∨ (r9_2.toInt = 0 ∧ (p1.toInt < 0 ∨ 6 ≤ p1.toInt)) := h17
        refine ok_eq (fun c18 => ?_) (fun c18 => ?_)
        · refine ok_o2 (sp_X9_isThrown_ (1 : Int32) ) (fun r20_2 c_t_thrown_20_2 h19 => ?_)
          have h19 : (r20_2.toInt = 0 ∧ c_t_thrown_20_2.toInt = 0 ∧ (1 : Int32).toInt = 0) ∨ (r20_2.toInt = 1 ∧ c_t_thrown_20_2.toInt = 1 ∧ (1 : Int32).toInt ≠ 0) := h19
          refine ok_eq (fun c20 => ?_) (fun c20 => ?_)
          · exfalso; omega
          · refine ok_s (show ((xc5 = 0 ∧ c_t_thrown_20_2.toInt = 0) ∨ (xc5 = 1 ∧ c_t_thrown_20_2.toInt = 1)) ∧ (xc5 = 0 → (0 : Int32) = (0 : Int32)) ∧ ac = ac ∧ fo = fo ∧ FA fo from ?_)
            first | (exfalso; omega) | (subst_vars; first | (exfalso; omega) | (refine ⟨?_, ?_, ?_, ?_, ?_⟩ <;> (first | assumption | rfl | omega | (intro hx; first | rfl | assumption | (exfalso; omega) | exact Int32.toInt_inj.mp (by omega)) | exact Int32.toInt_inj.mp (by omega) | (rw [uu_a, uu_a]))))
        · exfalso; omega
  · refine ok_s ?_
    show ok (F_X9_copy ac fo p0 p1) (fun q => ((xc1 = 0 ∧ q.2.2.1.toInt = 0) ∨ (xc1 = 1 ∧ q.2.2.1.toInt = 1)) ∧ (xc1 = 0 → (0 : Int32) = q.1) ∧ ac = q.2.1 ∧ fo = q.2.2.2 ∧ FA q.2.2.2)
    unfold F_X9_copy
    refine ok_o (sp_X9_isForm p0 ) (fun r2_3 h21 => ?_)
    have h21 : (r2_3.toInt = 1 ∧ 0 ≤ p0.toInt ∧ p0.toInt ≤ 5) ∨ (r2_3.toInt = 0 ∧ (p0.toInt < 0 ∨ 6 ≤ p0.toInt)) := h21
    refine ok_eq (fun c22 => ?_) (fun c22 => ?_)
    · refine ok_o2 (sp_X9_isThrown_ (1 : Int32) ) (fun r20_3 c_t_thrown_20_3 h23 => ?_)
      have h23 : (r20_3.toInt = 0 ∧ c_t_thrown_20_3.toInt = 0 ∧ (1 : Int32).toInt = 0) ∨ (r20_3.toInt = 1 ∧ c_t_thrown_20_3.toInt = 1 ∧ (1 : Int32).toInt ≠ 0) := h23
      refine ok_eq (fun c24 => ?_) (fun c24 => ?_)
      · exfalso; omega
      · refine ok_s (show ((xc1 = 0 ∧ c_t_thrown_20_3.toInt = 0) ∨ (xc1 = 1 ∧ c_t_thrown_20_3.toInt = 1)) ∧ (xc1 = 0 → (0 : Int32) = (0 : Int32)) ∧ ac = ac ∧ fo = fo ∧ FA fo from ?_)
        first | (exfalso; omega) | (subst_vars; first | (exfalso; omega) | (refine ⟨?_, ?_, ?_, ?_, ?_⟩ <;> (first | assumption | rfl | omega | (intro hx; first | rfl | assumption | (exfalso; omega) | exact Int32.toInt_inj.mp (by omega)) | exact Int32.toInt_inj.mp (by omega) | (rw [uu_a, uu_a]))))
    · exfalso; omega
set_option maxHeartbeats 1000000 in
theorem s7_swap (ac : Int32) (fo : Nat → Int64) (th : Int32) (p0 : Int32) (p1 : Int32) (hp0 : FA fo) : ok (F_X7_swap ac fo p0 p1) (fun r => ok (F_X9_swap ac th fo p0 p1) (fun q => ((r.1 = 0 ∧ q.2.2.1.toInt = 0) ∨ (r.1 = 1 ∧ q.2.2.1.toInt = 1)) ∧ (r.1 = 0 → r.2.1 = q.1) ∧ r.2.2.1 = q.2.1 ∧ r.2.2.2 = q.2.2.2 ∧ FA q.2.2.2)) := by
  have l032 : (0 : Int32).toInt = 0 := by decide
  have l132 : (1 : Int32).toInt = 1 := by decide
  unfold F_X7_swap
  refine ok_o (fx_X7_testForm p0 ) (fun xc1 h1 => ?_)
  have h1 : (xc1 = 0 ∧ 0 ≤ p0.toInt ∧ p0.toInt ≤ 5) ∨ (xc1 = 1 ∧ (p0.toInt < 0 ∨ 5 < p0.toInt)) := h1
  refine ok_i (fun c2 => ?_) (fun c2 => ?_)
  · refine ok_o (fx_X7_testForm p1 ) (fun xc5 h3 => ?_)
    have h3 : (xc5 = 0 ∧ 0 ≤ p1.toInt ∧ p1.toInt ≤ 5) ∨ (xc5 = 1 ∧ (p1.toInt < 0 ∨ 5 < p1.toInt)) := h3
    refine ok_i (fun c4 => ?_) (fun c4 => ?_)
    · refine ok_c (ixo (by omega) (by omega)) ?_
      try have a5 := FA_at (f := fo) (by assumption) p0.toNatClampNeg
      refine ok_bx (fun x3_14 e_x3_14 => ?_)
      try have q_x3_14 : DG x3_14 = DG (fo p0.toNatClampNeg) := by rw [e_x3_14]
      try have d_x3_14 : -1 ≤ DG x3_14 ∧ DG x3_14 ≤ 39 := by rw [e_x3_14]; exact FA_at (by assumption) _
      refine ok_c (ixo (by omega) (by omega)) ?_
      refine ok_c (ixo (by omega) (by omega)) ?_
      try have a6 := FA_at (f := fo) (by assumption) p1.toNatClampNeg
      refine ok_bx (fun f_t_forms_26 e_f_t_forms_26 => ?_)
      try have t_f_t_forms_26 : FA f_t_forms_26 := by rw [e_f_t_forms_26]; exact FA_upd (by first | assumption | exact FA_0) _ (by first | omega | assumption | trivial)
      refine ok_c (ixo (by omega) (by omega)) ?_
      refine ok_bx (fun f_t_forms_33 e_f_t_forms_33 => ?_)
      try have t_f_t_forms_33 : FA f_t_forms_33 := by rw [e_f_t_forms_33]; exact FA_upd (by first | assumption | exact FA_0) _ (by first | omega | assumption | trivial)
      have hsw : (f_t_forms_33 p0.toNatClampNeg).toInt = (fo p1.toNatClampNeg).toInt := by rw [e_f_t_forms_33, e_f_t_forms_26, e_x3_14, sw_at]
      have hsx : x3_14.toInt = (fo p0.toNatClampNeg).toInt := by rw [e_x3_14]
      refine ok_c (ixo (by omega) (by omega)) ?_
      try have a8 := FA_at (f := f_t_forms_33) (by assumption) p0.toNatClampNeg
      refine ok_eqL (fun c7 => ?_) (fun c7 => ?_)
      · refine ok_o2 (fx_X7_done ac (0 : Int32) ) (fun r51 c_t_acts_51 h9 => ?_)
        have h9 : r51 = (0 : Int32) ∧ c_t_acts_51 = ac + (1 : Int32) := h9
        obtain ⟨h9_0, h9_1⟩ := h9
        refine ok_s ?_
        show ok (F_X9_swap ac th fo p0 p1) (fun q => ((0 = 0 ∧ q.2.2.1.toInt = 0) ∨ (0 = 1 ∧ q.2.2.1.toInt = 1)) ∧ (0 = 0 → r51 = q.1) ∧ c_t_acts_51 = q.2.1 ∧ f_t_forms_33 = q.2.2.2 ∧ FA q.2.2.2)
        unfold F_X9_swap
        refine ok_o (sp_X9_isForm p0 ) (fun r2 h10 => ?_)
        have h10 : (r2.toInt = 1 ∧ 0 ≤ p0.toInt ∧ p0.toInt ≤ 5) ∨ (r2.toInt = 0 ∧ (p0.toInt < 0 ∨ 6 ≤ p0.toInt)) := h10
        refine ok_eq (fun c11 => ?_) (fun c11 => ?_)
        · exfalso; omega
        · refine ok_o (sp_X9_isForm p1 ) (fun r9 h12 => ?_)
          have h12 : (r9.toInt = 1 ∧ 0 ≤ p1.toInt ∧ p1.toInt ≤ 5) ∨ (r9.toInt = 0 ∧ (p1.toInt < 0 ∨ 6 ≤ p1.toInt)) := h12
          refine ok_eq (fun c13 => ?_) (fun c13 => ?_)
          · exfalso; omega
          · first | unfold J_X9_swap_20 | skip
            refine ok_o2 (sp_X9_isThrown_ (0 : Int32) ) (fun r20 c_t_thrown_20 h14 => ?_)
            have h14 : (r20.toInt = 0 ∧ c_t_thrown_20.toInt = 0 ∧ (0 : Int32).toInt = 0) ∨ (r20.toInt = 1 ∧ c_t_thrown_20.toInt = 1 ∧ (0 : Int32).toInt ≠ 0) := h14
            refine ok_eq (fun c15 => ?_) (fun c15 => ?_)
            · refine ok_c (ixo (by omega) (by omega)) ?_
              try have a16 := FA_at (f := fo) (by assumption) p0.toNatClampNeg
              refine ok_bx (fun x3_34 e_x3_34 => ?_)
              try have q_x3_34 : DG x3_34 = DG (fo p0.toNatClampNeg) := by rw [e_x3_34]
              try have d_x3_34 : -1 ≤ DG x3_34 ∧ DG x3_34 ≤ 39 := by rw [e_x3_34]; exact FA_at (by assumption) _
              refine ok_c (ixo (by omega) (by omega)) ?_
              try have a18 := FA_at (f := fo) (by assumption) p1.toNatClampNeg
              refine ok_eqL (fun c17 => ?_) (fun c17 => ?_)
              · first | unfold J_X9_swap_51 | skip
                refine ok_c (ixo (by omega) (by omega)) ?_
                refine ok_c (ixo (by omega) (by omega)) ?_
                try have a19 := FA_at (f := fo) (by assumption) p1.toNatClampNeg
                refine ok_bx (fun f_t_forms_64 e_f_t_forms_64 => ?_)
                try have t_f_t_forms_64 : FA f_t_forms_64 := by rw [e_f_t_forms_64]; exact FA_upd (by first | assumption | exact FA_0) _ (by first | omega | assumption | trivial)
                refine ok_c (ixo (by omega) (by omega)) ?_
                refine ok_bx (fun f_t_forms_71 e_f_t_forms_71 => ?_)
                try have t_f_t_forms_71 : FA f_t_forms_71 := by rw [e_f_t_forms_71]; exact FA_upd (by first | assumption | exact FA_0) _ (by first | omega | assumption | trivial)
                refine ok_eq (fun c20 => ?_) (fun c20 => ?_)
                · exfalso; omega
                · refine ok_o2 (fx_X9_done ac (0 : Int32) ) (fun r83 c_t_acts_83 h21 => ?_)
                  have h21 : r83 = (0 : Int32) ∧ c_t_acts_83 = ac + (1 : Int32) := h21
                  obtain ⟨h21_0, h21_1⟩ := h21
                  refine ok_s (show ((0 = 0 ∧ c_t_thrown_20.toInt = 0) ∨ (0 = 1 ∧ c_t_thrown_20.toInt = 1)) ∧ (0 = 0 → r51 = r83) ∧ c_t_acts_51 = c_t_acts_83 ∧ f_t_forms_33 = f_t_forms_71 ∧ FA f_t_forms_71 from ?_)
                  first | (exfalso; omega) | (subst_vars; first | (exfalso; omega) | (refine ⟨?_, ?_, ?_, ?_, ?_⟩ <;> (first | assumption | rfl | omega | (intro hx; first | rfl | assumption | (exfalso; omega) | exact Int32.toInt_inj.mp (by omega)) | exact Int32.toInt_inj.mp (by omega) | (rw [uu_a, uu_a]))))
              · first | unfold J_X9_swap_51 | skip
                refine ok_c (ixo (by omega) (by omega)) ?_
                refine ok_c (ixo (by omega) (by omega)) ?_
                try have a22 := FA_at (f := fo) (by assumption) p1.toNatClampNeg
                refine ok_bx (fun f_t_forms_64_2 e_f_t_forms_64_2 => ?_)
                try have t_f_t_forms_64_2 : FA f_t_forms_64_2 := by rw [e_f_t_forms_64_2]; exact FA_upd (by first | assumption | exact FA_0) _ (by first | omega | assumption | trivial)
                refine ok_c (ixo (by omega) (by omega)) ?_
                refine ok_bx (fun f_t_forms_71_2 e_f_t_forms_71_2 => ?_)
                try have t_f_t_forms_71_2 : FA f_t_forms_71_2 := by rw [e_f_t_forms_71_2]; exact FA_upd (by first | assumption | exact FA_0) _ (by first | omega | assumption | trivial)
                refine ok_eq (fun c23 => ?_) (fun c23 => ?_)
                · refine ok_o2 (fx_X9_done ac (1 : Int32) ) (fun r83_2 c_t_acts_83_2 h24 => ?_)
                  have h24 : r83_2 = (1 : Int32) ∧ c_t_acts_83_2 = ac + (1 : Int32) := h24
                  obtain ⟨h24_0, h24_1⟩ := h24
                  refine ok_s (show ((0 = 0 ∧ c_t_thrown_20.toInt = 0) ∨ (0 = 1 ∧ c_t_thrown_20.toInt = 1)) ∧ (0 = 0 → r51 = r83_2) ∧ c_t_acts_51 = c_t_acts_83_2 ∧ f_t_forms_33 = f_t_forms_71_2 ∧ FA f_t_forms_71_2 from ?_)
                  first | (exfalso; omega) | (subst_vars; first | (exfalso; omega) | (refine ⟨?_, ?_, ?_, ?_, ?_⟩ <;> (first | assumption | rfl | omega | (intro hx; first | rfl | assumption | (exfalso; omega) | exact Int32.toInt_inj.mp (by omega)) | exact Int32.toInt_inj.mp (by omega) | (rw [uu_a, uu_a]))))
                · exfalso; omega
            · exfalso; omega
      · refine ok_o2 (fx_X7_done ac (1 : Int32) ) (fun r51_2 c_t_acts_51_2 h25 => ?_)
        have h25 : r51_2 = (1 : Int32) ∧ c_t_acts_51_2 = ac + (1 : Int32) := h25
        obtain ⟨h25_0, h25_1⟩ := h25
        refine ok_s ?_
        show ok (F_X9_swap ac th fo p0 p1) (fun q => ((0 = 0 ∧ q.2.2.1.toInt = 0) ∨ (0 = 1 ∧ q.2.2.1.toInt = 1)) ∧ (0 = 0 → r51_2 = q.1) ∧ c_t_acts_51_2 = q.2.1 ∧ f_t_forms_33 = q.2.2.2 ∧ FA q.2.2.2)
        unfold F_X9_swap
        refine ok_o (sp_X9_isForm p0 ) (fun r2_2 h26 => ?_)
        have h26 : (r2_2.toInt = 1 ∧ 0 ≤ p0.toInt ∧ p0.toInt ≤ 5) ∨ (r2_2.toInt = 0 ∧ (p0.toInt < 0 ∨ 6 ≤ p0.toInt)) := h26
        refine ok_eq (fun c27 => ?_) (fun c27 => ?_)
        · exfalso; omega
        · refine ok_o (sp_X9_isForm p1 ) (fun r9_2 h28 => ?_)
          have h28 : (r9_2.toInt = 1 ∧ 0 ≤ p1.toInt ∧ p1.toInt ≤ 5) ∨ (r9_2.toInt = 0 ∧ (p1.toInt < 0 ∨ 6 ≤ p1.toInt)) := h28
          refine ok_eq (fun c29 => ?_) (fun c29 => ?_)
          · exfalso; omega
          · first | unfold J_X9_swap_20 | skip
            refine ok_o2 (sp_X9_isThrown_ (0 : Int32) ) (fun r20_2 c_t_thrown_20_2 h30 => ?_)
            have h30 : (r20_2.toInt = 0 ∧ c_t_thrown_20_2.toInt = 0 ∧ (0 : Int32).toInt = 0) ∨ (r20_2.toInt = 1 ∧ c_t_thrown_20_2.toInt = 1 ∧ (0 : Int32).toInt ≠ 0) := h30
            refine ok_eq (fun c31 => ?_) (fun c31 => ?_)
            · refine ok_c (ixo (by omega) (by omega)) ?_
              try have a32 := FA_at (f := fo) (by assumption) p0.toNatClampNeg
              refine ok_bx (fun x3_34_2 e_x3_34_2 => ?_)
              try have q_x3_34_2 : DG x3_34_2 = DG (fo p0.toNatClampNeg) := by rw [e_x3_34_2]
              try have d_x3_34_2 : -1 ≤ DG x3_34_2 ∧ DG x3_34_2 ≤ 39 := by rw [e_x3_34_2]; exact FA_at (by assumption) _
              refine ok_c (ixo (by omega) (by omega)) ?_
              try have a34 := FA_at (f := fo) (by assumption) p1.toNatClampNeg
              refine ok_eqL (fun c33 => ?_) (fun c33 => ?_)
              · first | unfold J_X9_swap_51 | skip
                refine ok_c (ixo (by omega) (by omega)) ?_
                refine ok_c (ixo (by omega) (by omega)) ?_
                try have a35 := FA_at (f := fo) (by assumption) p1.toNatClampNeg
                refine ok_bx (fun f_t_forms_64_3 e_f_t_forms_64_3 => ?_)
                try have t_f_t_forms_64_3 : FA f_t_forms_64_3 := by rw [e_f_t_forms_64_3]; exact FA_upd (by first | assumption | exact FA_0) _ (by first | omega | assumption | trivial)
                refine ok_c (ixo (by omega) (by omega)) ?_
                refine ok_bx (fun f_t_forms_71_3 e_f_t_forms_71_3 => ?_)
                try have t_f_t_forms_71_3 : FA f_t_forms_71_3 := by rw [e_f_t_forms_71_3]; exact FA_upd (by first | assumption | exact FA_0) _ (by first | omega | assumption | trivial)
                refine ok_eq (fun c36 => ?_) (fun c36 => ?_)
                · exfalso; omega
                · refine ok_o2 (fx_X9_done ac (0 : Int32) ) (fun r83_3 c_t_acts_83_3 h37 => ?_)
                  have h37 : r83_3 = (0 : Int32) ∧ c_t_acts_83_3 = ac + (1 : Int32) := h37
                  obtain ⟨h37_0, h37_1⟩ := h37
                  refine ok_s (show ((0 = 0 ∧ c_t_thrown_20_2.toInt = 0) ∨ (0 = 1 ∧ c_t_thrown_20_2.toInt = 1)) ∧ (0 = 0 → r51_2 = r83_3) ∧ c_t_acts_51_2 = c_t_acts_83_3 ∧ f_t_forms_33 = f_t_forms_71_3 ∧ FA f_t_forms_71_3 from ?_)
                  first | (exfalso; omega) | (subst_vars; first | (exfalso; omega) | (refine ⟨?_, ?_, ?_, ?_, ?_⟩ <;> (first | assumption | rfl | omega | (intro hx; first | rfl | assumption | (exfalso; omega) | exact Int32.toInt_inj.mp (by omega)) | exact Int32.toInt_inj.mp (by omega) | (rw [uu_a, uu_a]))))
              · first | unfold J_X9_swap_51 | skip
                refine ok_c (ixo (by omega) (by omega)) ?_
                refine ok_c (ixo (by omega) (by omega)) ?_
                try have a38 := FA_at (f := fo) (by assumption) p1.toNatClampNeg
                refine ok_bx (fun f_t_forms_64_4 e_f_t_forms_64_4 => ?_)
                try have t_f_t_forms_64_4 : FA f_t_forms_64_4 := by rw [e_f_t_forms_64_4]; exact FA_upd (by first | assumption | exact FA_0) _ (by first | omega | assumption | trivial)
                refine ok_c (ixo (by omega) (by omega)) ?_
                refine ok_bx (fun f_t_forms_71_4 e_f_t_forms_71_4 => ?_)
                try have t_f_t_forms_71_4 : FA f_t_forms_71_4 := by rw [e_f_t_forms_71_4]; exact FA_upd (by first | assumption | exact FA_0) _ (by first | omega | assumption | trivial)
                refine ok_eq (fun c39 => ?_) (fun c39 => ?_)
                · refine ok_o2 (fx_X9_done ac (1 : Int32) ) (fun r83_4 c_t_acts_83_4 h40 => ?_)
                  have h40 : r83_4 = (1 : Int32) ∧ c_t_acts_83_4 = ac + (1 : Int32) := h40
                  obtain ⟨h40_0, h40_1⟩ := h40
                  refine ok_s (show ((0 = 0 ∧ c_t_thrown_20_2.toInt = 0) ∨ (0 = 1 ∧ c_t_thrown_20_2.toInt = 1)) ∧ (0 = 0 → r51_2 = r83_4) ∧ c_t_acts_51_2 = c_t_acts_83_4 ∧ f_t_forms_33 = f_t_forms_71_4 ∧ FA f_t_forms_71_4 from ?_)
                  first | (exfalso; omega) | (subst_vars; first | (exfalso; omega) | (refine ⟨?_, ?_, ?_, ?_, ?_⟩ <;> (first | assumption | rfl | omega | (intro hx; first | rfl | assumption | (exfalso; omega) | exact Int32.toInt_inj.mp (by omega)) | exact Int32.toInt_inj.mp (by omega) | (rw [uu_a, uu_a]))))
                · exfalso; omega
            · exfalso; omega
    · refine ok_s ?_
      show ok (F_X9_swap ac th fo p0 p1) (fun q => ((xc5 = 0 ∧ q.2.2.1.toInt = 0) ∨ (xc5 = 1 ∧ q.2.2.1.toInt = 1)) ∧ (xc5 = 0 → (0 : Int32) = q.1) ∧ ac = q.2.1 ∧ fo = q.2.2.2 ∧ FA q.2.2.2)
      unfold F_X9_swap
      refine ok_o (sp_X9_isForm p0 ) (fun r2_3 h41 => ?_)
      have h41 : (r2_3.toInt = 1 ∧ 0 ≤ p0.toInt ∧ p0.toInt ≤ 5) ∨ (r2_3.toInt = 0 ∧ (p0.toInt < 0 ∨ 6 ≤ p0.toInt)) := h41
      refine ok_eq (fun c42 => ?_) (fun c42 => ?_)
      · exfalso; omega
      · refine ok_o (sp_X9_isForm p1 ) (fun r9_3 h43 => ?_)
        have h43 : (r9_3.toInt = 1 ∧ 0 ≤ p1.toInt ∧ p1.toInt ≤ 5) ∨ (r9_3.toInt = 0 ∧ (p1.toInt < 0 ∨ 6 ≤ p1.toInt)) := h43
        refine ok_eq (fun c44 => ?_) (fun c44 => ?_)
        · first | unfold J_X9_swap_15 | skip
          first | unfold J_X9_swap_20 | skip
          refine ok_o2 (sp_X9_isThrown_ (1 : Int32) ) (fun r20_3 c_t_thrown_20_3 h45 => ?_)
          have h45 : (r20_3.toInt = 0 ∧ c_t_thrown_20_3.toInt = 0 ∧ (1 : Int32).toInt = 0) ∨ (r20_3.toInt = 1 ∧ c_t_thrown_20_3.toInt = 1 ∧ (1 : Int32).toInt ≠ 0) := h45
          refine ok_eq (fun c46 => ?_) (fun c46 => ?_)
          · exfalso; omega
          · refine ok_s (show ((xc5 = 0 ∧ c_t_thrown_20_3.toInt = 0) ∨ (xc5 = 1 ∧ c_t_thrown_20_3.toInt = 1)) ∧ (xc5 = 0 → (0 : Int32) = (0 : Int32)) ∧ ac = ac ∧ fo = fo ∧ FA fo from ?_)
            first | (exfalso; omega) | (subst_vars; first | (exfalso; omega) | (refine ⟨?_, ?_, ?_, ?_, ?_⟩ <;> (first | assumption | rfl | omega | (intro hx; first | rfl | assumption | (exfalso; omega) | exact Int32.toInt_inj.mp (by omega)) | exact Int32.toInt_inj.mp (by omega) | (rw [uu_a, uu_a]))))
        · exfalso; omega
  · refine ok_s ?_
    show ok (F_X9_swap ac th fo p0 p1) (fun q => ((xc1 = 0 ∧ q.2.2.1.toInt = 0) ∨ (xc1 = 1 ∧ q.2.2.1.toInt = 1)) ∧ (xc1 = 0 → (0 : Int32) = q.1) ∧ ac = q.2.1 ∧ fo = q.2.2.2 ∧ FA q.2.2.2)
    unfold F_X9_swap
    refine ok_o (sp_X9_isForm p0 ) (fun r2_4 h47 => ?_)
    have h47 : (r2_4.toInt = 1 ∧ 0 ≤ p0.toInt ∧ p0.toInt ≤ 5) ∨ (r2_4.toInt = 0 ∧ (p0.toInt < 0 ∨ 6 ≤ p0.toInt)) := h47
    refine ok_eq (fun c48 => ?_) (fun c48 => ?_)
    · first | unfold J_X9_swap_15 | skip
      first | unfold J_X9_swap_20 | skip
      refine ok_o2 (sp_X9_isThrown_ (1 : Int32) ) (fun r20_4 c_t_thrown_20_4 h49 => ?_)
      have h49 : (r20_4.toInt = 0 ∧ c_t_thrown_20_4.toInt = 0 ∧ (1 : Int32).toInt = 0) ∨ (r20_4.toInt = 1 ∧ c_t_thrown_20_4.toInt = 1 ∧ (1 : Int32).toInt ≠ 0) := h49
      refine ok_eq (fun c50 => ?_) (fun c50 => ?_)
      · exfalso; omega
      · refine ok_s (show ((xc1 = 0 ∧ c_t_thrown_20_4.toInt = 0) ∨ (xc1 = 1 ∧ c_t_thrown_20_4.toInt = 1)) ∧ (xc1 = 0 → (0 : Int32) = (0 : Int32)) ∧ ac = ac ∧ fo = fo ∧ FA fo from ?_)
        first | (exfalso; omega) | (subst_vars; first | (exfalso; omega) | (refine ⟨?_, ?_, ?_, ?_, ?_⟩ <;> (first | assumption | rfl | omega | (intro hx; first | rfl | assumption | (exfalso; omega) | exact Int32.toInt_inj.mp (by omega)) | exact Int32.toInt_inj.mp (by omega) | (rw [uu_a, uu_a]))))
    · exfalso; omega
set_option maxHeartbeats 1000000 in
theorem s7_shift (ac : Int32) (rf : Int32) (fo : Nat → Int64) (th : Int32) (p0 : Int32) (p1 : Int32) (hp0 : FA fo) : ok (F_X7_shift ac rf fo p0 p1) (fun r => ok (F_X9_shift ac rf th fo p0 p1) (fun q => ((r.1 = 0 ∧ q.2.2.2.1.toInt = 0) ∨ (r.1 = 1 ∧ q.2.2.2.1.toInt = 1) ∨ (r.1 = 2 ∧ q.2.2.2.1.toInt = 2)) ∧ (r.1 = 0 → r.2.1 = q.1) ∧ r.2.2.1 = q.2.1 ∧ r.2.2.2.1 = q.2.2.1 ∧ r.2.2.2.2 = q.2.2.2.2 ∧ FA q.2.2.2.2)) := by
  have lm4032 : (-40 : Int32).toInt = -40 := by decide
  have lm3932 : (-39 : Int32).toInt = -39 := by decide
  have l032 : (0 : Int32).toInt = 0 := by decide
  have l064 : (0 : Int64).toInt = 0 := by decide
  have l132 : (1 : Int32).toInt = 1 := by decide
  have l3932 : (39 : Int32).toInt = 39 := by decide
  have l4032 : (40 : Int32).toInt = 40 := by decide
  unfold F_X7_shift
  refine ok_o (fx_X7_testForm p0 ) (fun xc1 h1 => ?_)
  have h1 : (xc1 = 0 ∧ 0 ≤ p0.toInt ∧ p0.toInt ≤ 5) ∨ (xc1 = 1 ∧ (p0.toInt < 0 ∨ 5 < p0.toInt)) := h1
  refine ok_i (fun c2 => ?_) (fun c2 => ?_)
  · refine ok_o (sp_X7_testRange p1 (-39 : Int32) (39 : Int32) ) (fun xc9 h3 => ?_)
    have h3 : (xc9 = 0 ∧ (-39 : Int32).toInt ≤ p1.toInt ∧ p1.toInt ≤ (39 : Int32).toInt) ∨ (xc9 = 2 ∧ (p1.toInt < (-39 : Int32).toInt ∨ (39 : Int32).toInt < p1.toInt)) := h3
    refine ok_i (fun c4 => ?_) (fun c4 => ?_)
    · refine ok_c (ixo (by omega) (by omega)) ?_
      try have a5 := FA_at (f := fo) (by assumption) p0.toNatClampNeg
      refine ok_bx (fun x3_18 e_x3_18 => ?_)
      try have q_x3_18 : DG x3_18 = DG (fo p0.toNatClampNeg) := by rw [e_x3_18]
      try have d_x3_18 : -1 ≤ DG x3_18 ∧ DG x3_18 ≤ 39 := by rw [e_x3_18]; exact FA_at (by assumption) _
      refine ok_le (fun c6 => ?_) (fun c6 => ?_)
      · refine ok_o (fx_X0_degreeOf x3_18 ) (fun r34 h7 => ?_)
        have h7 : r34 = DI x3_18 ∧ r34.toInt = DG x3_18 ∧ -1 ≤ r34.toInt ∧ r34.toInt ≤ 63 := h7
        obtain ⟨h7_0, h7_1, h7_2, h7_3⟩ := h7
        obtain ⟨w8, e_w8⟩ : ∃ w : Int32, w = r34 + p1 := ⟨_, rfl⟩
        try have t_w8 : w8.toInt = r34.toInt + p1.toInt := by rw [e_w8]; exact addT1 (Eq.refl _) (by omega) (by omega)
        try rw [← e_w8]
        refine ok_le (fun c9 => ?_) (fun c9 => ?_)
        · refine ok_o3 (fx_X7_become ac fo p0 (x3_18 <<< (p1.toInt64 &&& 63)) (by first | omega | assumption | trivial | exact wt_of (by assumption) (by omega)) (by first | omega | assumption | trivial | exact wt_of (by assumption) (by omega))) (fun r54 c_t_acts_54 f_t_forms_54 h10 => ?_)
          have h10 : r54 = DI (x3_18 <<< (p1.toInt64 &&& 63)) ∧ c_t_acts_54 = ac + (1 : Int32) ∧ f_t_forms_54 = vp_updL fo p0.toNatClampNeg (x3_18 <<< (p1.toInt64 &&& 63)) := h10
          obtain ⟨h10_0, h10_1, h10_2⟩ := h10
          refine ok_s ?_
          show ok (F_X9_shift ac rf th fo p0 p1) (fun q => ((0 = 0 ∧ q.2.2.2.1.toInt = 0) ∨ (0 = 1 ∧ q.2.2.2.1.toInt = 1) ∨ (0 = 2 ∧ q.2.2.2.1.toInt = 2)) ∧ (0 = 0 → r54 = q.1) ∧ c_t_acts_54 = q.2.1 ∧ rf = q.2.2.1 ∧ f_t_forms_54 = q.2.2.2.2 ∧ FA q.2.2.2.2)
          unfold F_X9_shift
          refine ok_o (sp_X9_isForm p0 ) (fun r2 h11 => ?_)
          have h11 : (r2.toInt = 1 ∧ 0 ≤ p0.toInt ∧ p0.toInt ≤ 5) ∨ (r2.toInt = 0 ∧ (p0.toInt < 0 ∨ 6 ≤ p0.toInt)) := h11
          refine ok_eq (fun c12 => ?_) (fun c12 => ?_)
          · exfalso; omega
          · first | unfold J_X9_shift_13 | skip
            try rw [← e_w8]
            refine ok_le (fun c13 => ?_) (fun c13 => ?_)
            · exfalso; omega
            · refine ok_lt (fun c14 => ?_) (fun c14 => ?_)
              · first | unfold J_X9_shift_30 | skip
                try rw [← e_w8]
                refine ok_o2 (sp_X9_isThrown (0 : Int32) (0 : Int32) ) (fun r30 c_t_thrown_30 h15 => ?_)
                have h15 : (r30.toInt = 0 ∧ c_t_thrown_30.toInt = 0 ∧ (0 : Int32).toInt = 0 ∧ (0 : Int32).toInt = 0) ∨ (r30.toInt = 1 ∧ c_t_thrown_30.toInt = 1 ∧ (0 : Int32).toInt ≠ 0) ∨ (r30.toInt = 1 ∧ c_t_thrown_30.toInt = 2 ∧ (0 : Int32).toInt = 0 ∧ (0 : Int32).toInt ≠ 0) := h15
                refine ok_eq (fun c16 => ?_) (fun c16 => ?_)
                · refine ok_c (ixo (by omega) (by omega)) ?_
                  try have a18 := FA_at (f := fo) (by assumption) p0.toNatClampNeg
                  have z_c17 := DG_z (fo p0.toNatClampNeg)
                  refine ok_eqL (fun c17 => ?_) (fun c17 => ?_)
                  · first | unfold J_X9_shift_70 | skip
                    try rw [← e_w8]
                    refine ok_le (fun c19 => ?_) (fun c19 => ?_)
                    · refine ok_c (ixo (by omega) (by omega)) ?_
                      try have a20 := FA_at (f := fo) (by assumption) p0.toNatClampNeg
                      try have hs : DG ((fo p0.toNatClampNeg) <<< (p1.toInt64 &&& 63)) ≤ 39 := DG_shlx (by omega) (by omega) (by omega) (by decide) (by decide)
                      try have hn := negT (a := p1) (by omega)
                      try have hs : DG ((fo p0.toNatClampNeg) >>> ((-p1).toInt64 &&& 63)) ≤ 39 := Int.le_trans (DG_shr (by rw [hn]; omega) (by rw [hn]; omega) (by omega)) (by omega)
                      refine ok_o3 (fx_X9_give ac fo p0 ((fo p0.toNatClampNeg) <<< (p1.toInt64 &&& 63)) (by first | omega | assumption | trivial | exact wt_of (by assumption) (by omega)) (by first | omega | assumption | trivial | exact wt_of (by assumption) (by omega)) (by first | omega | assumption | trivial | exact wt_of (by assumption) (by omega)) (by first | omega | assumption | trivial | exact wt_of (by assumption) (by omega))) (fun r96 c_t_acts_96 f_t_forms_96 h21 => ?_)
                      have h21 : r96 = DI ((fo p0.toNatClampNeg) <<< (p1.toInt64 &&& 63)) ∧ c_t_acts_96 = ac + (1 : Int32) ∧ f_t_forms_96 = vp_updL fo p0.toNatClampNeg ((fo p0.toNatClampNeg) <<< (p1.toInt64 &&& 63)) ∧ FA f_t_forms_96 := h21
                      obtain ⟨h21_0, h21_1, h21_2, h21_3⟩ := h21
                      refine ok_s (show ((0 = 0 ∧ c_t_thrown_30.toInt = 0) ∨ (0 = 1 ∧ c_t_thrown_30.toInt = 1) ∨ (0 = 2 ∧ c_t_thrown_30.toInt = 2)) ∧ (0 = 0 → r54 = r96) ∧ c_t_acts_54 = c_t_acts_96 ∧ rf = rf ∧ f_t_forms_54 = f_t_forms_96 ∧ FA f_t_forms_96 from ?_)
                      first | (exfalso; omega) | (subst_vars; first | (exfalso; omega) | (refine ⟨?_, ?_, ?_, ?_, ?_, ?_⟩ <;> (first | assumption | rfl | omega | (intro hx; first | rfl | assumption | (exfalso; omega) | exact Int32.toInt_inj.mp (by omega)) | exact Int32.toInt_inj.mp (by omega) | (rw [uu_a, uu_a]))))
                    · exfalso; omega
                  · refine ok_c (ixo (by omega) (by omega)) ?_
                    try have a22 := FA_at (f := fo) (by assumption) p0.toNatClampNeg
                    refine ok_o (fx_X9_degreeOf (fo p0.toNatClampNeg) ) (fun r55 h23 => ?_)
                    have h23 : r55 = DI (fo p0.toNatClampNeg) ∧ r55.toInt = DG (fo p0.toNatClampNeg) ∧ -1 ≤ r55.toInt ∧ r55.toInt ≤ 63 := h23
                    obtain ⟨h23_0, h23_1, h23_2, h23_3⟩ := h23
                    obtain ⟨w24, e_w24⟩ : ∃ w : Int32, w = r55 + p1 := ⟨_, rfl⟩
                    try have t_w24 : w24.toInt = r55.toInt + p1.toInt := by rw [e_w24]; exact addT1 (Eq.refl _) (by omega) (by omega)
                    try rw [← e_w24]
                    refine ok_lt (fun c25 => ?_) (fun c25 => ?_)
                    · first | unfold J_X9_shift_70 | skip
                      try rw [← e_w8]
                      try rw [← e_w24]
                      refine ok_le (fun c26 => ?_) (fun c26 => ?_)
                      · refine ok_c (ixo (by omega) (by omega)) ?_
                        try have a27 := FA_at (f := fo) (by assumption) p0.toNatClampNeg
                        try have hs : DG ((fo p0.toNatClampNeg) <<< (p1.toInt64 &&& 63)) ≤ 39 := DG_shlx (by omega) (by omega) (by omega) (by decide) (by decide)
                        try have hn := negT (a := p1) (by omega)
                        try have hs : DG ((fo p0.toNatClampNeg) >>> ((-p1).toInt64 &&& 63)) ≤ 39 := Int.le_trans (DG_shr (by rw [hn]; omega) (by rw [hn]; omega) (by omega)) (by omega)
                        refine ok_o3 (fx_X9_give ac fo p0 ((fo p0.toNatClampNeg) <<< (p1.toInt64 &&& 63)) (by first | omega | assumption | trivial | exact wt_of (by assumption) (by omega)) (by first | omega | assumption | trivial | exact wt_of (by assumption) (by omega)) (by first | omega | assumption | trivial | exact wt_of (by assumption) (by omega)) (by first | omega | assumption | trivial | exact wt_of (by assumption) (by omega))) (fun r96_2 c_t_acts_96_2 f_t_forms_96_2 h28 => ?_)
                        have h28 : r96_2 = DI ((fo p0.toNatClampNeg) <<< (p1.toInt64 &&& 63)) ∧ c_t_acts_96_2 = ac + (1 : Int32) ∧ f_t_forms_96_2 = vp_updL fo p0.toNatClampNeg ((fo p0.toNatClampNeg) <<< (p1.toInt64 &&& 63)) ∧ FA f_t_forms_96_2 := h28
                        obtain ⟨h28_0, h28_1, h28_2, h28_3⟩ := h28
                        refine ok_s (show ((0 = 0 ∧ c_t_thrown_30.toInt = 0) ∨ (0 = 1 ∧ c_t_thrown_30.toInt = 1) ∨ (0 = 2 ∧ c_t_thrown_30.toInt = 2)) ∧ (0 = 0 → r54 = r96_2) ∧ c_t_acts_54 = c_t_acts_96_2 ∧ rf = rf ∧ f_t_forms_54 = f_t_forms_96_2 ∧ FA f_t_forms_96_2 from ?_)
                        first | (exfalso; omega) | (subst_vars; first | (exfalso; omega) | (refine ⟨?_, ?_, ?_, ?_, ?_, ?_⟩ <;> (first | assumption | rfl | omega | (intro hx; first | rfl | assumption | (exfalso; omega) | exact Int32.toInt_inj.mp (by omega)) | exact Int32.toInt_inj.mp (by omega) | (rw [uu_a, uu_a]))))
                      · exfalso; omega
                    · refine ok_o2 (fx_X9_no rf ) (fun r66 c_t_refused_66 h29 => ?_)
                      have h29 : r66 = (-9 : Int32) ∧ c_t_refused_66 = rf + (1 : Int32) := h29
                      obtain ⟨h29_0, h29_1⟩ := h29
                      refine ok_s (show ((0 = 0 ∧ c_t_thrown_30.toInt = 0) ∨ (0 = 1 ∧ c_t_thrown_30.toInt = 1) ∨ (0 = 2 ∧ c_t_thrown_30.toInt = 2)) ∧ (0 = 0 → r54 = r66) ∧ c_t_acts_54 = ac ∧ rf = c_t_refused_66 ∧ f_t_forms_54 = fo ∧ FA fo from ?_)
                      first | (exfalso; omega) | (subst_vars; first | (exfalso; omega) | (refine ⟨?_, ?_, ?_, ?_, ?_, ?_⟩ <;> (first | assumption | rfl | omega | (intro hx; first | rfl | assumption | (exfalso; omega) | exact Int32.toInt_inj.mp (by omega)) | exact Int32.toInt_inj.mp (by omega) | (rw [uu_a, uu_a]))))
                · exfalso; omega
              · exfalso; omega
        · refine ok_o2 (fx_X7_refuse rf ) (fun r45 c_t_refusals_45 h30 => ?_)
          have h30 : r45 = (-9 : Int32) ∧ c_t_refusals_45 = rf + (1 : Int32) := h30
          obtain ⟨h30_0, h30_1⟩ := h30
          refine ok_s ?_
          show ok (F_X9_shift ac rf th fo p0 p1) (fun q => ((0 = 0 ∧ q.2.2.2.1.toInt = 0) ∨ (0 = 1 ∧ q.2.2.2.1.toInt = 1) ∨ (0 = 2 ∧ q.2.2.2.1.toInt = 2)) ∧ (0 = 0 → r45 = q.1) ∧ ac = q.2.1 ∧ c_t_refusals_45 = q.2.2.1 ∧ fo = q.2.2.2.2 ∧ FA q.2.2.2.2)
          unfold F_X9_shift
          refine ok_o (sp_X9_isForm p0 ) (fun r2_2 h31 => ?_)
          have h31 : (r2_2.toInt = 1 ∧ 0 ≤ p0.toInt ∧ p0.toInt ≤ 5) ∨ (r2_2.toInt = 0 ∧ (p0.toInt < 0 ∨ 6 ≤ p0.toInt)) := h31
          refine ok_eq (fun c32 => ?_) (fun c32 => ?_)
          · exfalso; omega
          · first | unfold J_X9_shift_13 | skip
            try rw [← e_w8]
            refine ok_le (fun c33 => ?_) (fun c33 => ?_)
            · exfalso; omega
            · refine ok_lt (fun c34 => ?_) (fun c34 => ?_)
              · first | unfold J_X9_shift_30 | skip
                try rw [← e_w8]
                refine ok_o2 (sp_X9_isThrown (0 : Int32) (0 : Int32) ) (fun r30_2 c_t_thrown_30_2 h35 => ?_)
                have h35 : (r30_2.toInt = 0 ∧ c_t_thrown_30_2.toInt = 0 ∧ (0 : Int32).toInt = 0 ∧ (0 : Int32).toInt = 0) ∨ (r30_2.toInt = 1 ∧ c_t_thrown_30_2.toInt = 1 ∧ (0 : Int32).toInt ≠ 0) ∨ (r30_2.toInt = 1 ∧ c_t_thrown_30_2.toInt = 2 ∧ (0 : Int32).toInt = 0 ∧ (0 : Int32).toInt ≠ 0) := h35
                refine ok_eq (fun c36 => ?_) (fun c36 => ?_)
                · refine ok_c (ixo (by omega) (by omega)) ?_
                  try have a38 := FA_at (f := fo) (by assumption) p0.toNatClampNeg
                  have z_c37 := DG_z (fo p0.toNatClampNeg)
                  refine ok_eqL (fun c37 => ?_) (fun c37 => ?_)
                  · first | unfold J_X9_shift_70 | skip
                    try rw [← e_w8]
                    refine ok_le (fun c39 => ?_) (fun c39 => ?_)
                    · refine ok_c (ixo (by omega) (by omega)) ?_
                      try have a40 := FA_at (f := fo) (by assumption) p0.toNatClampNeg
                      try have hs : DG ((fo p0.toNatClampNeg) <<< (p1.toInt64 &&& 63)) ≤ 39 := DG_shlx (by omega) (by omega) (by omega) (by decide) (by decide)
                      try have hn := negT (a := p1) (by omega)
                      try have hs : DG ((fo p0.toNatClampNeg) >>> ((-p1).toInt64 &&& 63)) ≤ 39 := Int.le_trans (DG_shr (by rw [hn]; omega) (by rw [hn]; omega) (by omega)) (by omega)
                      refine ok_o3 (fx_X9_give ac fo p0 ((fo p0.toNatClampNeg) <<< (p1.toInt64 &&& 63)) (by first | omega | assumption | trivial | exact wt_of (by assumption) (by omega)) (by first | omega | assumption | trivial | exact wt_of (by assumption) (by omega)) (by first | omega | assumption | trivial | exact wt_of (by assumption) (by omega)) (by first | omega | assumption | trivial | exact wt_of (by assumption) (by omega))) (fun r96_3 c_t_acts_96_3 f_t_forms_96_3 h41 => ?_)
                      have h41 : r96_3 = DI ((fo p0.toNatClampNeg) <<< (p1.toInt64 &&& 63)) ∧ c_t_acts_96_3 = ac + (1 : Int32) ∧ f_t_forms_96_3 = vp_updL fo p0.toNatClampNeg ((fo p0.toNatClampNeg) <<< (p1.toInt64 &&& 63)) ∧ FA f_t_forms_96_3 := h41
                      obtain ⟨h41_0, h41_1, h41_2, h41_3⟩ := h41
                      refine ok_s (show ((0 = 0 ∧ c_t_thrown_30_2.toInt = 0) ∨ (0 = 1 ∧ c_t_thrown_30_2.toInt = 1) ∨ (0 = 2 ∧ c_t_thrown_30_2.toInt = 2)) ∧ (0 = 0 → r45 = r96_3) ∧ ac = c_t_acts_96_3 ∧ c_t_refusals_45 = rf ∧ fo = f_t_forms_96_3 ∧ FA f_t_forms_96_3 from ?_)
                      first | (exfalso; omega) | (subst_vars; first | (exfalso; omega) | (refine ⟨?_, ?_, ?_, ?_, ?_, ?_⟩ <;> (first | assumption | rfl | omega | (intro hx; first | rfl | assumption | (exfalso; omega) | exact Int32.toInt_inj.mp (by omega)) | exact Int32.toInt_inj.mp (by omega) | (rw [uu_a, uu_a]))))
                    · exfalso; omega
                  · refine ok_c (ixo (by omega) (by omega)) ?_
                    try have a42 := FA_at (f := fo) (by assumption) p0.toNatClampNeg
                    refine ok_o (fx_X9_degreeOf (fo p0.toNatClampNeg) ) (fun r55_2 h43 => ?_)
                    have h43 : r55_2 = DI (fo p0.toNatClampNeg) ∧ r55_2.toInt = DG (fo p0.toNatClampNeg) ∧ -1 ≤ r55_2.toInt ∧ r55_2.toInt ≤ 63 := h43
                    obtain ⟨h43_0, h43_1, h43_2, h43_3⟩ := h43
                    obtain ⟨w44, e_w44⟩ : ∃ w : Int32, w = r55_2 + p1 := ⟨_, rfl⟩
                    try have t_w44 : w44.toInt = r55_2.toInt + p1.toInt := by rw [e_w44]; exact addT1 (Eq.refl _) (by omega) (by omega)
                    try rw [← e_w44]
                    refine ok_lt (fun c45 => ?_) (fun c45 => ?_)
                    · first | unfold J_X9_shift_70 | skip
                      try rw [← e_w8]
                      try rw [← e_w44]
                      refine ok_le (fun c46 => ?_) (fun c46 => ?_)
                      · refine ok_c (ixo (by omega) (by omega)) ?_
                        try have a47 := FA_at (f := fo) (by assumption) p0.toNatClampNeg
                        try have hs : DG ((fo p0.toNatClampNeg) <<< (p1.toInt64 &&& 63)) ≤ 39 := DG_shlx (by omega) (by omega) (by omega) (by decide) (by decide)
                        try have hn := negT (a := p1) (by omega)
                        try have hs : DG ((fo p0.toNatClampNeg) >>> ((-p1).toInt64 &&& 63)) ≤ 39 := Int.le_trans (DG_shr (by rw [hn]; omega) (by rw [hn]; omega) (by omega)) (by omega)
                        refine ok_o3 (fx_X9_give ac fo p0 ((fo p0.toNatClampNeg) <<< (p1.toInt64 &&& 63)) (by first | omega | assumption | trivial | exact wt_of (by assumption) (by omega)) (by first | omega | assumption | trivial | exact wt_of (by assumption) (by omega)) (by first | omega | assumption | trivial | exact wt_of (by assumption) (by omega)) (by first | omega | assumption | trivial | exact wt_of (by assumption) (by omega))) (fun r96_4 c_t_acts_96_4 f_t_forms_96_4 h48 => ?_)
                        have h48 : r96_4 = DI ((fo p0.toNatClampNeg) <<< (p1.toInt64 &&& 63)) ∧ c_t_acts_96_4 = ac + (1 : Int32) ∧ f_t_forms_96_4 = vp_updL fo p0.toNatClampNeg ((fo p0.toNatClampNeg) <<< (p1.toInt64 &&& 63)) ∧ FA f_t_forms_96_4 := h48
                        obtain ⟨h48_0, h48_1, h48_2, h48_3⟩ := h48
                        refine ok_s (show ((0 = 0 ∧ c_t_thrown_30_2.toInt = 0) ∨ (0 = 1 ∧ c_t_thrown_30_2.toInt = 1) ∨ (0 = 2 ∧ c_t_thrown_30_2.toInt = 2)) ∧ (0 = 0 → r45 = r96_4) ∧ ac = c_t_acts_96_4 ∧ c_t_refusals_45 = rf ∧ fo = f_t_forms_96_4 ∧ FA f_t_forms_96_4 from ?_)
                        first | (exfalso; omega) | (subst_vars; first | (exfalso; omega) | (refine ⟨?_, ?_, ?_, ?_, ?_, ?_⟩ <;> (first | assumption | rfl | omega | (intro hx; first | rfl | assumption | (exfalso; omega) | exact Int32.toInt_inj.mp (by omega)) | exact Int32.toInt_inj.mp (by omega) | (rw [uu_a, uu_a]))))
                      · exfalso; omega
                    · refine ok_o2 (fx_X9_no rf ) (fun r66_2 c_t_refused_66_2 h49 => ?_)
                      have h49 : r66_2 = (-9 : Int32) ∧ c_t_refused_66_2 = rf + (1 : Int32) := h49
                      obtain ⟨h49_0, h49_1⟩ := h49
                      refine ok_s (show ((0 = 0 ∧ c_t_thrown_30_2.toInt = 0) ∨ (0 = 1 ∧ c_t_thrown_30_2.toInt = 1) ∨ (0 = 2 ∧ c_t_thrown_30_2.toInt = 2)) ∧ (0 = 0 → r45 = r66_2) ∧ ac = ac ∧ c_t_refusals_45 = c_t_refused_66_2 ∧ fo = fo ∧ FA fo from ?_)
                      first | (exfalso; omega) | (subst_vars; first | (exfalso; omega) | (refine ⟨?_, ?_, ?_, ?_, ?_, ?_⟩ <;> (first | assumption | rfl | omega | (intro hx; first | rfl | assumption | (exfalso; omega) | exact Int32.toInt_inj.mp (by omega)) | exact Int32.toInt_inj.mp (by omega) | (rw [uu_a, uu_a]))))
                · exfalso; omega
              · exfalso; omega
      · refine ok_o3 (fx_X7_become ac fo p0 (x3_18 >>> ((-p1).toInt64 &&& 63)) (by first | omega | assumption | trivial | exact wt_of (by assumption) (by omega)) (by first | omega | assumption | trivial | exact wt_of (by assumption) (by omega))) (fun r29 c_t_acts_29 f_t_forms_29 h50 => ?_)
        have h50 : r29 = DI (x3_18 >>> ((-p1).toInt64 &&& 63)) ∧ c_t_acts_29 = ac + (1 : Int32) ∧ f_t_forms_29 = vp_updL fo p0.toNatClampNeg (x3_18 >>> ((-p1).toInt64 &&& 63)) := h50
        obtain ⟨h50_0, h50_1, h50_2⟩ := h50
        refine ok_s ?_
        show ok (F_X9_shift ac rf th fo p0 p1) (fun q => ((0 = 0 ∧ q.2.2.2.1.toInt = 0) ∨ (0 = 1 ∧ q.2.2.2.1.toInt = 1) ∨ (0 = 2 ∧ q.2.2.2.1.toInt = 2)) ∧ (0 = 0 → r29 = q.1) ∧ c_t_acts_29 = q.2.1 ∧ rf = q.2.2.1 ∧ f_t_forms_29 = q.2.2.2.2 ∧ FA q.2.2.2.2)
        unfold F_X9_shift
        refine ok_o (sp_X9_isForm p0 ) (fun r2_3 h51 => ?_)
        have h51 : (r2_3.toInt = 1 ∧ 0 ≤ p0.toInt ∧ p0.toInt ≤ 5) ∨ (r2_3.toInt = 0 ∧ (p0.toInt < 0 ∨ 6 ≤ p0.toInt)) := h51
        refine ok_eq (fun c52 => ?_) (fun c52 => ?_)
        · exfalso; omega
        · first | unfold J_X9_shift_13 | skip
          refine ok_le (fun c53 => ?_) (fun c53 => ?_)
          · exfalso; omega
          · refine ok_lt (fun c54 => ?_) (fun c54 => ?_)
            · first | unfold J_X9_shift_30 | skip
              refine ok_o2 (sp_X9_isThrown (0 : Int32) (0 : Int32) ) (fun r30_3 c_t_thrown_30_3 h55 => ?_)
              have h55 : (r30_3.toInt = 0 ∧ c_t_thrown_30_3.toInt = 0 ∧ (0 : Int32).toInt = 0 ∧ (0 : Int32).toInt = 0) ∨ (r30_3.toInt = 1 ∧ c_t_thrown_30_3.toInt = 1 ∧ (0 : Int32).toInt ≠ 0) ∨ (r30_3.toInt = 1 ∧ c_t_thrown_30_3.toInt = 2 ∧ (0 : Int32).toInt = 0 ∧ (0 : Int32).toInt ≠ 0) := h55
              refine ok_eq (fun c56 => ?_) (fun c56 => ?_)
              · refine ok_c (ixo (by omega) (by omega)) ?_
                try have a58 := FA_at (f := fo) (by assumption) p0.toNatClampNeg
                have z_c57 := DG_z (fo p0.toNatClampNeg)
                refine ok_eqL (fun c57 => ?_) (fun c57 => ?_)
                · first | unfold J_X9_shift_70 | skip
                  refine ok_le (fun c59 => ?_) (fun c59 => ?_)
                  · exfalso; omega
                  · refine ok_c (ixo (by omega) (by omega)) ?_
                    try have a60 := FA_at (f := fo) (by assumption) p0.toNatClampNeg
                    try have hs : DG ((fo p0.toNatClampNeg) <<< (p1.toInt64 &&& 63)) ≤ 39 := DG_shlx (by omega) (by omega) (by omega) (by decide) (by decide)
                    try have hn := negT (a := p1) (by omega)
                    try have hs : DG ((fo p0.toNatClampNeg) >>> ((-p1).toInt64 &&& 63)) ≤ 39 := Int.le_trans (DG_shr (by rw [hn]; omega) (by rw [hn]; omega) (by omega)) (by omega)
                    refine ok_o3 (fx_X9_give ac fo p0 ((fo p0.toNatClampNeg) >>> ((-p1).toInt64 &&& 63)) (by first | omega | assumption | trivial | exact wt_of (by assumption) (by omega)) (by first | omega | assumption | trivial | exact wt_of (by assumption) (by omega)) (by first | omega | assumption | trivial | exact wt_of (by assumption) (by omega)) (by first | omega | assumption | trivial | exact wt_of (by assumption) (by omega))) (fun r96_5 c_t_acts_96_5 f_t_forms_96_5 h61 => ?_)
                    have h61 : r96_5 = DI ((fo p0.toNatClampNeg) >>> ((-p1).toInt64 &&& 63)) ∧ c_t_acts_96_5 = ac + (1 : Int32) ∧ f_t_forms_96_5 = vp_updL fo p0.toNatClampNeg ((fo p0.toNatClampNeg) >>> ((-p1).toInt64 &&& 63)) ∧ FA f_t_forms_96_5 := h61
                    obtain ⟨h61_0, h61_1, h61_2, h61_3⟩ := h61
                    refine ok_s (show ((0 = 0 ∧ c_t_thrown_30_3.toInt = 0) ∨ (0 = 1 ∧ c_t_thrown_30_3.toInt = 1) ∨ (0 = 2 ∧ c_t_thrown_30_3.toInt = 2)) ∧ (0 = 0 → r29 = r96_5) ∧ c_t_acts_29 = c_t_acts_96_5 ∧ rf = rf ∧ f_t_forms_29 = f_t_forms_96_5 ∧ FA f_t_forms_96_5 from ?_)
                    first | (exfalso; omega) | (subst_vars; first | (exfalso; omega) | (refine ⟨?_, ?_, ?_, ?_, ?_, ?_⟩ <;> (first | assumption | rfl | omega | (intro hx; first | rfl | assumption | (exfalso; omega) | exact Int32.toInt_inj.mp (by omega)) | exact Int32.toInt_inj.mp (by omega) | (rw [uu_a, uu_a]))))
                · refine ok_c (ixo (by omega) (by omega)) ?_
                  try have a62 := FA_at (f := fo) (by assumption) p0.toNatClampNeg
                  refine ok_o (fx_X9_degreeOf (fo p0.toNatClampNeg) ) (fun r55_3 h63 => ?_)
                  have h63 : r55_3 = DI (fo p0.toNatClampNeg) ∧ r55_3.toInt = DG (fo p0.toNatClampNeg) ∧ -1 ≤ r55_3.toInt ∧ r55_3.toInt ≤ 63 := h63
                  obtain ⟨h63_0, h63_1, h63_2, h63_3⟩ := h63
                  obtain ⟨w64, e_w64⟩ : ∃ w : Int32, w = r55_3 + p1 := ⟨_, rfl⟩
                  try have t_w64 : w64.toInt = r55_3.toInt + p1.toInt := by rw [e_w64]; exact addT1 (Eq.refl _) (by omega) (by omega)
                  try rw [← e_w64]
                  refine ok_lt (fun c65 => ?_) (fun c65 => ?_)
                  · first | unfold J_X9_shift_70 | skip
                    try rw [← e_w64]
                    refine ok_le (fun c66 => ?_) (fun c66 => ?_)
                    · exfalso; omega
                    · refine ok_c (ixo (by omega) (by omega)) ?_
                      try have a67 := FA_at (f := fo) (by assumption) p0.toNatClampNeg
                      try have hs : DG ((fo p0.toNatClampNeg) <<< (p1.toInt64 &&& 63)) ≤ 39 := DG_shlx (by omega) (by omega) (by omega) (by decide) (by decide)
                      try have hn := negT (a := p1) (by omega)
                      try have hs : DG ((fo p0.toNatClampNeg) >>> ((-p1).toInt64 &&& 63)) ≤ 39 := Int.le_trans (DG_shr (by rw [hn]; omega) (by rw [hn]; omega) (by omega)) (by omega)
                      refine ok_o3 (fx_X9_give ac fo p0 ((fo p0.toNatClampNeg) >>> ((-p1).toInt64 &&& 63)) (by first | omega | assumption | trivial | exact wt_of (by assumption) (by omega)) (by first | omega | assumption | trivial | exact wt_of (by assumption) (by omega)) (by first | omega | assumption | trivial | exact wt_of (by assumption) (by omega)) (by first | omega | assumption | trivial | exact wt_of (by assumption) (by omega))) (fun r96_6 c_t_acts_96_6 f_t_forms_96_6 h68 => ?_)
                      have h68 : r96_6 = DI ((fo p0.toNatClampNeg) >>> ((-p1).toInt64 &&& 63)) ∧ c_t_acts_96_6 = ac + (1 : Int32) ∧ f_t_forms_96_6 = vp_updL fo p0.toNatClampNeg ((fo p0.toNatClampNeg) >>> ((-p1).toInt64 &&& 63)) ∧ FA f_t_forms_96_6 := h68
                      obtain ⟨h68_0, h68_1, h68_2, h68_3⟩ := h68
                      refine ok_s (show ((0 = 0 ∧ c_t_thrown_30_3.toInt = 0) ∨ (0 = 1 ∧ c_t_thrown_30_3.toInt = 1) ∨ (0 = 2 ∧ c_t_thrown_30_3.toInt = 2)) ∧ (0 = 0 → r29 = r96_6) ∧ c_t_acts_29 = c_t_acts_96_6 ∧ rf = rf ∧ f_t_forms_29 = f_t_forms_96_6 ∧ FA f_t_forms_96_6 from ?_)
                      first | (exfalso; omega) | (subst_vars; first | (exfalso; omega) | (refine ⟨?_, ?_, ?_, ?_, ?_, ?_⟩ <;> (first | assumption | rfl | omega | (intro hx; first | rfl | assumption | (exfalso; omega) | exact Int32.toInt_inj.mp (by omega)) | exact Int32.toInt_inj.mp (by omega) | (rw [uu_a, uu_a]))))
                  · refine ok_o2 (fx_X9_no rf ) (fun r66_3 c_t_refused_66_3 h69 => ?_)
                    have h69 : r66_3 = (-9 : Int32) ∧ c_t_refused_66_3 = rf + (1 : Int32) := h69
                    obtain ⟨h69_0, h69_1⟩ := h69
                    refine ok_s (show ((0 = 0 ∧ c_t_thrown_30_3.toInt = 0) ∨ (0 = 1 ∧ c_t_thrown_30_3.toInt = 1) ∨ (0 = 2 ∧ c_t_thrown_30_3.toInt = 2)) ∧ (0 = 0 → r29 = r66_3) ∧ c_t_acts_29 = ac ∧ rf = c_t_refused_66_3 ∧ f_t_forms_29 = fo ∧ FA fo from ?_)
                    first | (exfalso; omega) | (subst_vars; first | (exfalso; omega) | (refine ⟨?_, ?_, ?_, ?_, ?_, ?_⟩ <;> (first | assumption | rfl | omega | (intro hx; first | rfl | assumption | (exfalso; omega) | exact Int32.toInt_inj.mp (by omega)) | exact Int32.toInt_inj.mp (by omega) | (rw [uu_a, uu_a]))))
              · exfalso; omega
            · exfalso; omega
    · refine ok_s ?_
      show ok (F_X9_shift ac rf th fo p0 p1) (fun q => ((xc9 = 0 ∧ q.2.2.2.1.toInt = 0) ∨ (xc9 = 1 ∧ q.2.2.2.1.toInt = 1) ∨ (xc9 = 2 ∧ q.2.2.2.1.toInt = 2)) ∧ (xc9 = 0 → (0 : Int32) = q.1) ∧ ac = q.2.1 ∧ rf = q.2.2.1 ∧ fo = q.2.2.2.2 ∧ FA q.2.2.2.2)
      unfold F_X9_shift
      refine ok_o (sp_X9_isForm p0 ) (fun r2_4 h70 => ?_)
      have h70 : (r2_4.toInt = 1 ∧ 0 ≤ p0.toInt ∧ p0.toInt ≤ 5) ∨ (r2_4.toInt = 0 ∧ (p0.toInt < 0 ∨ 6 ≤ p0.toInt)) := h70
      refine ok_eq (fun c71 => ?_) (fun c71 => ?_)
      · exfalso; omega
      · first | unfold J_X9_shift_13 | skip
        refine ok_le (fun c72 => ?_) (fun c72 => ?_)
        · first | unfold J_X9_shift_25 | skip
          first | unfold J_X9_shift_30 | skip
          refine ok_o2 (sp_X9_isThrown (0 : Int32) (1 : Int32) ) (fun r30_4 c_t_thrown_30_4 h73 => ?_)
          have h73 : (r30_4.toInt = 0 ∧ c_t_thrown_30_4.toInt = 0 ∧ (0 : Int32).toInt = 0 ∧ (1 : Int32).toInt = 0) ∨ (r30_4.toInt = 1 ∧ c_t_thrown_30_4.toInt = 1 ∧ (0 : Int32).toInt ≠ 0) ∨ (r30_4.toInt = 1 ∧ c_t_thrown_30_4.toInt = 2 ∧ (0 : Int32).toInt = 0 ∧ (1 : Int32).toInt ≠ 0) := h73
          refine ok_eq (fun c74 => ?_) (fun c74 => ?_)
          · exfalso; omega
          · refine ok_s (show ((xc9 = 0 ∧ c_t_thrown_30_4.toInt = 0) ∨ (xc9 = 1 ∧ c_t_thrown_30_4.toInt = 1) ∨ (xc9 = 2 ∧ c_t_thrown_30_4.toInt = 2)) ∧ (xc9 = 0 → (0 : Int32) = (0 : Int32)) ∧ ac = ac ∧ rf = rf ∧ fo = fo ∧ FA fo from ?_)
            first | (exfalso; omega) | (subst_vars; first | (exfalso; omega) | (refine ⟨?_, ?_, ?_, ?_, ?_, ?_⟩ <;> (first | assumption | rfl | omega | (intro hx; first | rfl | assumption | (exfalso; omega) | exact Int32.toInt_inj.mp (by omega)) | exact Int32.toInt_inj.mp (by omega) | (rw [uu_a, uu_a]))))
        · refine ok_lt (fun c75 => ?_) (fun c75 => ?_)
          · exfalso; omega
          · first | unfold J_X9_shift_25 | skip
            first | unfold J_X9_shift_30 | skip
            refine ok_o2 (sp_X9_isThrown (0 : Int32) (1 : Int32) ) (fun r30_5 c_t_thrown_30_5 h76 => ?_)
            have h76 : (r30_5.toInt = 0 ∧ c_t_thrown_30_5.toInt = 0 ∧ (0 : Int32).toInt = 0 ∧ (1 : Int32).toInt = 0) ∨ (r30_5.toInt = 1 ∧ c_t_thrown_30_5.toInt = 1 ∧ (0 : Int32).toInt ≠ 0) ∨ (r30_5.toInt = 1 ∧ c_t_thrown_30_5.toInt = 2 ∧ (0 : Int32).toInt = 0 ∧ (1 : Int32).toInt ≠ 0) := h76
            refine ok_eq (fun c77 => ?_) (fun c77 => ?_)
            · exfalso; omega
            · refine ok_s (show ((xc9 = 0 ∧ c_t_thrown_30_5.toInt = 0) ∨ (xc9 = 1 ∧ c_t_thrown_30_5.toInt = 1) ∨ (xc9 = 2 ∧ c_t_thrown_30_5.toInt = 2)) ∧ (xc9 = 0 → (0 : Int32) = (0 : Int32)) ∧ ac = ac ∧ rf = rf ∧ fo = fo ∧ FA fo from ?_)
              first | (exfalso; omega) | (subst_vars; first | (exfalso; omega) | (refine ⟨?_, ?_, ?_, ?_, ?_, ?_⟩ <;> (first | assumption | rfl | omega | (intro hx; first | rfl | assumption | (exfalso; omega) | exact Int32.toInt_inj.mp (by omega)) | exact Int32.toInt_inj.mp (by omega) | (rw [uu_a, uu_a]))))
  · refine ok_s ?_
    show ok (F_X9_shift ac rf th fo p0 p1) (fun q => ((xc1 = 0 ∧ q.2.2.2.1.toInt = 0) ∨ (xc1 = 1 ∧ q.2.2.2.1.toInt = 1) ∨ (xc1 = 2 ∧ q.2.2.2.1.toInt = 2)) ∧ (xc1 = 0 → (0 : Int32) = q.1) ∧ ac = q.2.1 ∧ rf = q.2.2.1 ∧ fo = q.2.2.2.2 ∧ FA q.2.2.2.2)
    unfold F_X9_shift
    refine ok_o (sp_X9_isForm p0 ) (fun r2_5 h78 => ?_)
    have h78 : (r2_5.toInt = 1 ∧ 0 ≤ p0.toInt ∧ p0.toInt ≤ 5) ∨ (r2_5.toInt = 0 ∧ (p0.toInt < 0 ∨ 6 ≤ p0.toInt)) := h78
    refine ok_eq (fun c79 => ?_) (fun c79 => ?_)
    · first | unfold J_X9_shift_13 | skip
      refine ok_le (fun c80 => ?_) (fun c80 => ?_)
      · first | unfold J_X9_shift_25 | skip
        first | unfold J_X9_shift_30 | skip
        refine ok_o2 (sp_X9_isThrown (1 : Int32) (1 : Int32) ) (fun r30_6 c_t_thrown_30_6 h81 => ?_)
        have h81 : (r30_6.toInt = 0 ∧ c_t_thrown_30_6.toInt = 0 ∧ (1 : Int32).toInt = 0 ∧ (1 : Int32).toInt = 0) ∨ (r30_6.toInt = 1 ∧ c_t_thrown_30_6.toInt = 1 ∧ (1 : Int32).toInt ≠ 0) ∨ (r30_6.toInt = 1 ∧ c_t_thrown_30_6.toInt = 2 ∧ (1 : Int32).toInt = 0 ∧ (1 : Int32).toInt ≠ 0) := h81
        refine ok_eq (fun c82 => ?_) (fun c82 => ?_)
        · exfalso; omega
        · refine ok_s (show ((xc1 = 0 ∧ c_t_thrown_30_6.toInt = 0) ∨ (xc1 = 1 ∧ c_t_thrown_30_6.toInt = 1) ∨ (xc1 = 2 ∧ c_t_thrown_30_6.toInt = 2)) ∧ (xc1 = 0 → (0 : Int32) = (0 : Int32)) ∧ ac = ac ∧ rf = rf ∧ fo = fo ∧ FA fo from ?_)
          first | (exfalso; omega) | (subst_vars; first | (exfalso; omega) | (refine ⟨?_, ?_, ?_, ?_, ?_, ?_⟩ <;> (first | assumption | rfl | omega | (intro hx; first | rfl | assumption | (exfalso; omega) | exact Int32.toInt_inj.mp (by omega)) | exact Int32.toInt_inj.mp (by omega) | (rw [uu_a, uu_a]))))
      · refine ok_lt (fun c83 => ?_) (fun c83 => ?_)
        · first | unfold J_X9_shift_30 | skip
          refine ok_o2 (sp_X9_isThrown (1 : Int32) (0 : Int32) ) (fun r30_7 c_t_thrown_30_7 h84 => ?_)
          have h84 : (r30_7.toInt = 0 ∧ c_t_thrown_30_7.toInt = 0 ∧ (1 : Int32).toInt = 0 ∧ (0 : Int32).toInt = 0) ∨ (r30_7.toInt = 1 ∧ c_t_thrown_30_7.toInt = 1 ∧ (1 : Int32).toInt ≠ 0) ∨ (r30_7.toInt = 1 ∧ c_t_thrown_30_7.toInt = 2 ∧ (1 : Int32).toInt = 0 ∧ (0 : Int32).toInt ≠ 0) := h84
          refine ok_eq (fun c85 => ?_) (fun c85 => ?_)
          · exfalso; omega
          · refine ok_s (show ((xc1 = 0 ∧ c_t_thrown_30_7.toInt = 0) ∨ (xc1 = 1 ∧ c_t_thrown_30_7.toInt = 1) ∨ (xc1 = 2 ∧ c_t_thrown_30_7.toInt = 2)) ∧ (xc1 = 0 → (0 : Int32) = (0 : Int32)) ∧ ac = ac ∧ rf = rf ∧ fo = fo ∧ FA fo from ?_)
            first | (exfalso; omega) | (subst_vars; first | (exfalso; omega) | (refine ⟨?_, ?_, ?_, ?_, ?_, ?_⟩ <;> (first | assumption | rfl | omega | (intro hx; first | rfl | assumption | (exfalso; omega) | exact Int32.toInt_inj.mp (by omega)) | exact Int32.toInt_inj.mp (by omega) | (rw [uu_a, uu_a]))))
        · first | unfold J_X9_shift_25 | skip
          first | unfold J_X9_shift_30 | skip
          refine ok_o2 (sp_X9_isThrown (1 : Int32) (1 : Int32) ) (fun r30_8 c_t_thrown_30_8 h86 => ?_)
          have h86 : (r30_8.toInt = 0 ∧ c_t_thrown_30_8.toInt = 0 ∧ (1 : Int32).toInt = 0 ∧ (1 : Int32).toInt = 0) ∨ (r30_8.toInt = 1 ∧ c_t_thrown_30_8.toInt = 1 ∧ (1 : Int32).toInt ≠ 0) ∨ (r30_8.toInt = 1 ∧ c_t_thrown_30_8.toInt = 2 ∧ (1 : Int32).toInt = 0 ∧ (1 : Int32).toInt ≠ 0) := h86
          refine ok_eq (fun c87 => ?_) (fun c87 => ?_)
          · exfalso; omega
          · refine ok_s (show ((xc1 = 0 ∧ c_t_thrown_30_8.toInt = 0) ∨ (xc1 = 1 ∧ c_t_thrown_30_8.toInt = 1) ∨ (xc1 = 2 ∧ c_t_thrown_30_8.toInt = 2)) ∧ (xc1 = 0 → (0 : Int32) = (0 : Int32)) ∧ ac = ac ∧ rf = rf ∧ fo = fo ∧ FA fo from ?_)
            first | (exfalso; omega) | (subst_vars; first | (exfalso; omega) | (refine ⟨?_, ?_, ?_, ?_, ?_, ?_⟩ <;> (first | assumption | rfl | omega | (intro hx; first | rfl | assumption | (exfalso; omega) | exact Int32.toInt_inj.mp (by omega)) | exact Int32.toInt_inj.mp (by omega) | (rw [uu_a, uu_a]))))
    · exfalso; omega
set_option maxHeartbeats 1000000 in
theorem s7_turn (ac : Int32) (fo : Nat → Int64) (p0 : Int32) (hp0 : FA fo) : ok (F_X7_turn ac fo p0) (fun r => ok (F_X9_turn ac fo p0) (fun q => ((r.1 = 0 ∧ q.2.2.1.toInt = 0) ∨ (r.1 = 1 ∧ q.2.2.1.toInt = 1)) ∧ (r.1 = 0 → r.2.1 = q.1) ∧ r.2.2.1 = q.2.1 ∧ r.2.2.2 = q.2.2.2 ∧ FA q.2.2.2)) := by
  have l032 : (0 : Int32).toInt = 0 := by decide
  have l132 : (1 : Int32).toInt = 1 := by decide
  unfold F_X7_turn
  refine ok_o (fx_X7_testForm p0 ) (fun xc1 h1 => ?_)
  have h1 : (xc1 = 0 ∧ 0 ≤ p0.toInt ∧ p0.toInt ≤ 5) ∨ (xc1 = 1 ∧ (p0.toInt < 0 ∨ 5 < p0.toInt)) := h1
  refine ok_i (fun c2 => ?_) (fun c2 => ?_)
  · refine ok_c (ixo (by omega) (by omega)) ?_
    try have a3 := FA_at (f := fo) (by assumption) p0.toNatClampNeg
    refine ok_o (fx_X0_turned (fo p0.toNatClampNeg) (by first | omega | assumption | trivial | exact wt_of (by assumption) (by omega))) (fun r12 h4 => ?_)
    have h4 : r12 = uL (fo p0.toNatClampNeg) := h4
    refine ok_o3 (fx_X7_become ac fo p0 r12 (by first | omega | assumption | trivial | exact wt_of (by assumption) (by omega)) (by first | omega | assumption | trivial | exact wt_of (by assumption) (by omega))) (fun r15 c_t_acts_15 f_t_forms_15 h5 => ?_)
    have h5 : r15 = DI r12 ∧ c_t_acts_15 = ac + (1 : Int32) ∧ f_t_forms_15 = vp_updL fo p0.toNatClampNeg r12 := h5
    obtain ⟨h5_0, h5_1, h5_2⟩ := h5
    refine ok_s ?_
    show ok (F_X9_turn ac fo p0) (fun q => ((0 = 0 ∧ q.2.2.1.toInt = 0) ∨ (0 = 1 ∧ q.2.2.1.toInt = 1)) ∧ (0 = 0 → r15 = q.1) ∧ c_t_acts_15 = q.2.1 ∧ f_t_forms_15 = q.2.2.2 ∧ FA q.2.2.2)
    unfold F_X9_turn
    refine ok_o (sp_X9_isForm p0 ) (fun r2 h6 => ?_)
    have h6 : (r2.toInt = 1 ∧ 0 ≤ p0.toInt ∧ p0.toInt ≤ 5) ∨ (r2.toInt = 0 ∧ (p0.toInt < 0 ∨ 6 ≤ p0.toInt)) := h6
    refine ok_eq (fun c7 => ?_) (fun c7 => ?_)
    · exfalso; omega
    · refine ok_o2 (sp_X9_isThrown_ (0 : Int32) ) (fun r13 c_t_thrown_13 h8 => ?_)
      have h8 : (r13.toInt = 0 ∧ c_t_thrown_13.toInt = 0 ∧ (0 : Int32).toInt = 0) ∨ (r13.toInt = 1 ∧ c_t_thrown_13.toInt = 1 ∧ (0 : Int32).toInt ≠ 0) := h8
      refine ok_eq (fun c9 => ?_) (fun c9 => ?_)
      · refine ok_c (ixo (by omega) (by omega)) ?_
        try have a10 := FA_at (f := fo) (by assumption) p0.toNatClampNeg
        refine ok_o (fx_X9_turnedOf (fo p0.toNatClampNeg) (by first | omega | assumption | trivial | exact wt_of (by assumption) (by omega))) (fun r31 h11 => ?_)
        have h11 : DG r31 ≤ 39 ∧ r31 = uL (fo p0.toNatClampNeg) := h11
        obtain ⟨h11_0, h11_1⟩ := h11
        refine ok_o3 (fx_X9_give ac fo p0 r31 (by first | omega | assumption | trivial | exact wt_of (by assumption) (by omega)) (by first | omega | assumption | trivial | exact wt_of (by assumption) (by omega)) (by first | omega | assumption | trivial | exact wt_of (by assumption) (by omega)) (by first | omega | assumption | trivial | exact wt_of (by assumption) (by omega))) (fun r34 c_t_acts_34 f_t_forms_34 h12 => ?_)
        have h12 : r34 = DI r31 ∧ c_t_acts_34 = ac + (1 : Int32) ∧ f_t_forms_34 = vp_updL fo p0.toNatClampNeg r31 ∧ FA f_t_forms_34 := h12
        obtain ⟨h12_0, h12_1, h12_2, h12_3⟩ := h12
        refine ok_s (show ((0 = 0 ∧ c_t_thrown_13.toInt = 0) ∨ (0 = 1 ∧ c_t_thrown_13.toInt = 1)) ∧ (0 = 0 → r15 = r34) ∧ c_t_acts_15 = c_t_acts_34 ∧ f_t_forms_15 = f_t_forms_34 ∧ FA f_t_forms_34 from ?_)
        first | (exfalso; omega) | (subst_vars; first | (exfalso; omega) | (refine ⟨?_, ?_, ?_, ?_, ?_⟩ <;> (first | assumption | rfl | omega | (intro hx; first | rfl | assumption | (exfalso; omega) | exact Int32.toInt_inj.mp (by omega)) | exact Int32.toInt_inj.mp (by omega) | (rw [uu_a, uu_a]))))
      · exfalso; omega
  · refine ok_s ?_
    show ok (F_X9_turn ac fo p0) (fun q => ((xc1 = 0 ∧ q.2.2.1.toInt = 0) ∨ (xc1 = 1 ∧ q.2.2.1.toInt = 1)) ∧ (xc1 = 0 → (0 : Int32) = q.1) ∧ ac = q.2.1 ∧ fo = q.2.2.2 ∧ FA q.2.2.2)
    unfold F_X9_turn
    refine ok_o (sp_X9_isForm p0 ) (fun r2_2 h13 => ?_)
    have h13 : (r2_2.toInt = 1 ∧ 0 ≤ p0.toInt ∧ p0.toInt ≤ 5) ∨ (r2_2.toInt = 0 ∧ (p0.toInt < 0 ∨ 6 ≤ p0.toInt)) := h13
    refine ok_eq (fun c14 => ?_) (fun c14 => ?_)
    · refine ok_o2 (sp_X9_isThrown_ (1 : Int32) ) (fun r13_2 c_t_thrown_13_2 h15 => ?_)
      have h15 : (r13_2.toInt = 0 ∧ c_t_thrown_13_2.toInt = 0 ∧ (1 : Int32).toInt = 0) ∨ (r13_2.toInt = 1 ∧ c_t_thrown_13_2.toInt = 1 ∧ (1 : Int32).toInt ≠ 0) := h15
      refine ok_eq (fun c16 => ?_) (fun c16 => ?_)
      · exfalso; omega
      · refine ok_s (show ((xc1 = 0 ∧ c_t_thrown_13_2.toInt = 0) ∨ (xc1 = 1 ∧ c_t_thrown_13_2.toInt = 1)) ∧ (xc1 = 0 → (0 : Int32) = (0 : Int32)) ∧ ac = ac ∧ fo = fo ∧ FA fo from ?_)
        first | (exfalso; omega) | (subst_vars; first | (exfalso; omega) | (refine ⟨?_, ?_, ?_, ?_, ?_⟩ <;> (first | assumption | rfl | omega | (intro hx; first | rfl | assumption | (exfalso; omega) | exact Int32.toInt_inj.mp (by omega)) | exact Int32.toInt_inj.mp (by omega) | (rw [uu_a, uu_a]))))
    · exfalso; omega
set_option maxHeartbeats 1000000 in
theorem s7_slope (ac : Int32) (fo : Nat → Int64) (p0 : Int32) (hp0 : FA fo) : ok (F_X7_slope ac fo p0) (fun r => ok (F_X9_slope ac fo p0) (fun q => ((r.1 = 0 ∧ q.2.2.1.toInt = 0) ∨ (r.1 = 1 ∧ q.2.2.1.toInt = 1)) ∧ (r.1 = 0 → r.2.1 = q.1) ∧ r.2.2.1 = q.2.1 ∧ r.2.2.2 = q.2.2.2 ∧ FA q.2.2.2)) := by
  have l032 : (0 : Int32).toInt = 0 := by decide
  have l064 : (0 : Int64).toInt = 0 := by decide
  have l132 : (1 : Int32).toInt = 1 := by decide
  have l164 : (1 : Int64).toInt = 1 := by decide
  have l232 : (2 : Int32).toInt = 2 := by decide
  have l4032 : (40 : Int32).toInt = 40 := by decide
  unfold F_X7_slope
  refine ok_o (fx_X7_testForm p0 ) (fun xc1 h1 => ?_)
  have h1 : (xc1 = 0 ∧ 0 ≤ p0.toInt ∧ p0.toInt ≤ 5) ∨ (xc1 = 1 ∧ (p0.toInt < 0 ∨ 5 < p0.toInt)) := h1
  refine ok_i (fun c2 => ?_) (fun c2 => ?_)
  · refine ok_c (ixo (by omega) (by omega)) ?_
    try have a3 := FA_at (f := fo) (by assumption) p0.toNatClampNeg
    refine ok_o3 (fx_X7_become ac fo p0 (((fo p0.toNatClampNeg) >>> ((1 : Int32).toInt64 &&& 63)) &&& (366503875925 : Int64)) (by first | omega | assumption | trivial | exact wt_of (by assumption) (by omega)) (by first | omega | assumption | trivial | exact wt_of (by assumption) (by omega))) (fun r18 c_t_acts_18 f_t_forms_18 h4 => ?_)
    have h4 : r18 = DI (((fo p0.toNatClampNeg) >>> ((1 : Int32).toInt64 &&& 63)) &&& (366503875925 : Int64)) ∧ c_t_acts_18 = ac + (1 : Int32) ∧ f_t_forms_18 = vp_updL fo p0.toNatClampNeg (((fo p0.toNatClampNeg) >>> ((1 : Int32).toInt64 &&& 63)) &&& (366503875925 : Int64)) := h4
    obtain ⟨h4_0, h4_1, h4_2⟩ := h4
    refine ok_s ?_
    show ok (F_X9_slope ac fo p0) (fun q => ((0 = 0 ∧ q.2.2.1.toInt = 0) ∨ (0 = 1 ∧ q.2.2.1.toInt = 1)) ∧ (0 = 0 → r18 = q.1) ∧ c_t_acts_18 = q.2.1 ∧ f_t_forms_18 = q.2.2.2 ∧ FA q.2.2.2)
    unfold F_X9_slope
    refine ok_o (sp_X9_isForm p0 ) (fun r2 h5 => ?_)
    have h5 : (r2.toInt = 1 ∧ 0 ≤ p0.toInt ∧ p0.toInt ≤ 5) ∨ (r2.toInt = 0 ∧ (p0.toInt < 0 ∨ 6 ≤ p0.toInt)) := h5
    refine ok_eq (fun c6 => ?_) (fun c6 => ?_)
    · exfalso; omega
    · refine ok_o2 (sp_X9_isThrown_ (0 : Int32) ) (fun r13 c_t_thrown_13 h7 => ?_)
      have h7 : (r13.toInt = 0 ∧ c_t_thrown_13.toInt = 0 ∧ (0 : Int32).toInt = 0) ∨ (r13.toInt = 1 ∧ c_t_thrown_13.toInt = 1 ∧ (0 : Int32).toInt ≠ 0) := h7
      refine ok_eq (fun c8 => ?_) (fun c8 => ?_)
      · refine sl_loop _ fo p0 (by assumption) (by omega) (by omega) (fun y2_26_58 hI9 hsl => ?_)
        refine ok_o3 (fx_X9_give ac fo p0 y2_26_58 (by first | omega | assumption | trivial | exact wt_of (by assumption) (by omega)) (by first | omega | assumption | trivial | exact wt_of (by assumption) (by omega)) (by first | omega | assumption | trivial | exact wt_of (by assumption) (by omega)) (by first | omega | assumption | trivial | exact wt_of (by assumption) (by omega))) (fun r61 c_t_acts_61 f_t_forms_61 h10 => ?_)
        have h10 : r61 = DI y2_26_58 ∧ c_t_acts_61 = ac + (1 : Int32) ∧ f_t_forms_61 = vp_updL fo p0.toNatClampNeg y2_26_58 ∧ FA f_t_forms_61 := h10
        obtain ⟨h10_0, h10_1, h10_2, h10_3⟩ := h10
        refine ok_s (show ((0 = 0 ∧ c_t_thrown_13.toInt = 0) ∨ (0 = 1 ∧ c_t_thrown_13.toInt = 1)) ∧ (0 = 0 → r18 = r61) ∧ c_t_acts_18 = c_t_acts_61 ∧ f_t_forms_18 = f_t_forms_61 ∧ FA f_t_forms_61 from ?_)
        first | (exfalso; omega) | (subst_vars; first | (exfalso; omega) | (refine ⟨?_, ?_, ?_, ?_, ?_⟩ <;> (first | assumption | rfl | omega | (intro hx; first | rfl | assumption | (exfalso; omega) | exact Int32.toInt_inj.mp (by omega)) | exact Int32.toInt_inj.mp (by omega) | (rw [uu_a, uu_a]))))
      · exfalso; omega
  · refine ok_s ?_
    show ok (F_X9_slope ac fo p0) (fun q => ((xc1 = 0 ∧ q.2.2.1.toInt = 0) ∨ (xc1 = 1 ∧ q.2.2.1.toInt = 1)) ∧ (xc1 = 0 → (0 : Int32) = q.1) ∧ ac = q.2.1 ∧ fo = q.2.2.2 ∧ FA q.2.2.2)
    unfold F_X9_slope
    refine ok_o (sp_X9_isForm p0 ) (fun r2_2 h11 => ?_)
    have h11 : (r2_2.toInt = 1 ∧ 0 ≤ p0.toInt ∧ p0.toInt ≤ 5) ∨ (r2_2.toInt = 0 ∧ (p0.toInt < 0 ∨ 6 ≤ p0.toInt)) := h11
    refine ok_eq (fun c12 => ?_) (fun c12 => ?_)
    · refine ok_o2 (sp_X9_isThrown_ (1 : Int32) ) (fun r13_2 c_t_thrown_13_2 h13 => ?_)
      have h13 : (r13_2.toInt = 0 ∧ c_t_thrown_13_2.toInt = 0 ∧ (1 : Int32).toInt = 0) ∨ (r13_2.toInt = 1 ∧ c_t_thrown_13_2.toInt = 1 ∧ (1 : Int32).toInt ≠ 0) := h13
      refine ok_eq (fun c14 => ?_) (fun c14 => ?_)
      · exfalso; omega
      · refine ok_s (show ((xc1 = 0 ∧ c_t_thrown_13_2.toInt = 0) ∨ (xc1 = 1 ∧ c_t_thrown_13_2.toInt = 1)) ∧ (xc1 = 0 → (0 : Int32) = (0 : Int32)) ∧ ac = ac ∧ fo = fo ∧ FA fo from ?_)
        first | (exfalso; omega) | (subst_vars; first | (exfalso; omega) | (refine ⟨?_, ?_, ?_, ?_, ?_⟩ <;> (first | assumption | rfl | omega | (intro hx; first | rfl | assumption | (exfalso; omega) | exact Int32.toInt_inj.mp (by omega)) | exact Int32.toInt_inj.mp (by omega) | (rw [uu_a, uu_a]))))
    · exfalso; omega
set_option maxHeartbeats 1000000 in
theorem s7_add (ac : Int32) (fo : Nat → Int64) (p0 : Int32) (p1 : Int32) (p2 : Int32) (hp0 : FA fo) : ok (F_X7_add ac fo p0 p1 p2) (fun r => ok (F_X9_add ac fo p0 p1 p2) (fun q => ((r.1 = 0 ∧ q.2.2.1.toInt = 0) ∨ (r.1 = 1 ∧ q.2.2.1.toInt = 1)) ∧ (r.1 = 0 → r.2.1 = q.1) ∧ r.2.2.1 = q.2.1 ∧ r.2.2.2 = q.2.2.2 ∧ FA q.2.2.2)) := by
  have l032 : (0 : Int32).toInt = 0 := by decide
  unfold F_X7_add
  refine ok_o (fx_X7_testForms p0 p1 p2 ) (fun xc3 h1 => ?_)
  have h1 : (xc3 = 0 ∧ 0 ≤ p0.toInt ∧ p0.toInt ≤ 5 ∧ 0 ≤ p1.toInt ∧ p1.toInt ≤ 5 ∧ 0 ≤ p2.toInt ∧ p2.toInt ≤ 5) ∨ (xc3 = 1 ∧ (p0.toInt < 0 ∨ 5 < p0.toInt ∨ p1.toInt < 0 ∨ 5 < p1.toInt ∨ p2.toInt < 0 ∨ 5 < p2.toInt)) := h1
  refine ok_i (fun c2 => ?_) (fun c2 => ?_)
  · refine ok_c (ixo (by omega) (by omega)) ?_
    refine ok_c (ixo (by omega) (by omega)) ?_
    try have a3 := FA_at (f := fo) (by assumption) p0.toNatClampNeg
    try have a4 := FA_at (f := fo) (by assumption) p1.toNatClampNeg
    refine ok_o3 (fx_X7_become ac fo p2 ((fo p0.toNatClampNeg) ^^^ (fo p1.toNatClampNeg)) (by first | omega | assumption | trivial | exact wt_of (by assumption) (by omega)) (by first | omega | assumption | trivial | exact wt_of (by assumption) (by omega))) (fun r21 c_t_acts_21 f_t_forms_21 h5 => ?_)
    have h5 : r21 = DI ((fo p0.toNatClampNeg) ^^^ (fo p1.toNatClampNeg)) ∧ c_t_acts_21 = ac + (1 : Int32) ∧ f_t_forms_21 = vp_updL fo p2.toNatClampNeg ((fo p0.toNatClampNeg) ^^^ (fo p1.toNatClampNeg)) := h5
    obtain ⟨h5_0, h5_1, h5_2⟩ := h5
    refine ok_s ?_
    show ok (F_X9_add ac fo p0 p1 p2) (fun q => ((0 = 0 ∧ q.2.2.1.toInt = 0) ∨ (0 = 1 ∧ q.2.2.1.toInt = 1)) ∧ (0 = 0 → r21 = q.1) ∧ c_t_acts_21 = q.2.1 ∧ f_t_forms_21 = q.2.2.2 ∧ FA q.2.2.2)
    unfold F_X9_add
    refine ok_o2 (fx_X9_areNot p0 p1 p2 ) (fun r4 c_t_thrown_4 h6 => ?_)
    have h6 : (r4.toInt = 0 ∧ c_t_thrown_4.toInt = 0 ∧ 0 ≤ p0.toInt ∧ p0.toInt ≤ 5 ∧ 0 ≤ p1.toInt ∧ p1.toInt ≤ 5 ∧ 0 ≤ p2.toInt ∧ p2.toInt ≤ 5) ∨ (r4.toInt = 1 ∧ c_t_thrown_4.toInt = 1 ∧ (p0.toInt < 0 ∨ 5 < p0.toInt ∨ p1.toInt < 0 ∨ 5 < p1.toInt ∨ p2.toInt < 0 ∨ 5 < p2.toInt)) := h6
    refine ok_eq (fun c7 => ?_) (fun c7 => ?_)
    · refine ok_c (ixo (by omega) (by omega)) ?_
      refine ok_c (ixo (by omega) (by omega)) ?_
      try have a8 := FA_at (f := fo) (by assumption) p0.toNatClampNeg
      try have a9 := FA_at (f := fo) (by assumption) p1.toNatClampNeg
      have hx : DG ((fo p0.toNatClampNeg) ^^^ (fo p1.toNatClampNeg)) ≤ 39 := DG_xor (by omega) (by omega)
      refine ok_o3 (fx_X9_give ac fo p2 ((fo p0.toNatClampNeg) ^^^ (fo p1.toNatClampNeg)) (by first | omega | assumption | trivial | exact wt_of (by assumption) (by omega)) (by first | omega | assumption | trivial | exact wt_of (by assumption) (by omega)) (by first | omega | assumption | trivial | exact wt_of (by assumption) (by omega)) (by first | omega | assumption | trivial | exact wt_of (by assumption) (by omega))) (fun r29 c_t_acts_29 f_t_forms_29 h10 => ?_)
      have h10 : r29 = DI ((fo p0.toNatClampNeg) ^^^ (fo p1.toNatClampNeg)) ∧ c_t_acts_29 = ac + (1 : Int32) ∧ f_t_forms_29 = vp_updL fo p2.toNatClampNeg ((fo p0.toNatClampNeg) ^^^ (fo p1.toNatClampNeg)) ∧ FA f_t_forms_29 := h10
      obtain ⟨h10_0, h10_1, h10_2, h10_3⟩ := h10
      refine ok_s (show ((0 = 0 ∧ c_t_thrown_4.toInt = 0) ∨ (0 = 1 ∧ c_t_thrown_4.toInt = 1)) ∧ (0 = 0 → r21 = r29) ∧ c_t_acts_21 = c_t_acts_29 ∧ f_t_forms_21 = f_t_forms_29 ∧ FA f_t_forms_29 from ?_)
      first | (exfalso; omega) | (subst_vars; first | (exfalso; omega) | (refine ⟨?_, ?_, ?_, ?_, ?_⟩ <;> (first | assumption | rfl | omega | (intro hx; first | rfl | assumption | (exfalso; omega) | exact Int32.toInt_inj.mp (by omega)) | exact Int32.toInt_inj.mp (by omega) | (rw [uu_a, uu_a]))))
    · exfalso; omega
  · refine ok_s ?_
    show ok (F_X9_add ac fo p0 p1 p2) (fun q => ((xc3 = 0 ∧ q.2.2.1.toInt = 0) ∨ (xc3 = 1 ∧ q.2.2.1.toInt = 1)) ∧ (xc3 = 0 → (0 : Int32) = q.1) ∧ ac = q.2.1 ∧ fo = q.2.2.2 ∧ FA q.2.2.2)
    unfold F_X9_add
    refine ok_o2 (fx_X9_areNot p0 p1 p2 ) (fun r4_2 c_t_thrown_4_2 h11 => ?_)
    have h11 : (r4_2.toInt = 0 ∧ c_t_thrown_4_2.toInt = 0 ∧ 0 ≤ p0.toInt ∧ p0.toInt ≤ 5 ∧ 0 ≤ p1.toInt ∧ p1.toInt ≤ 5 ∧ 0 ≤ p2.toInt ∧ p2.toInt ≤ 5) ∨ (r4_2.toInt = 1 ∧ c_t_thrown_4_2.toInt = 1 ∧ (p0.toInt < 0 ∨ 5 < p0.toInt ∨ p1.toInt < 0 ∨ 5 < p1.toInt ∨ p2.toInt < 0 ∨ 5 < p2.toInt)) := h11
    refine ok_eq (fun c12 => ?_) (fun c12 => ?_)
    · exfalso; omega
    · refine ok_s (show ((xc3 = 0 ∧ c_t_thrown_4_2.toInt = 0) ∨ (xc3 = 1 ∧ c_t_thrown_4_2.toInt = 1)) ∧ (xc3 = 0 → (0 : Int32) = (0 : Int32)) ∧ ac = ac ∧ fo = fo ∧ FA fo from ?_)
      first | (exfalso; omega) | (subst_vars; first | (exfalso; omega) | (refine ⟨?_, ?_, ?_, ?_, ?_⟩ <;> (first | assumption | rfl | omega | (intro hx; first | rfl | assumption | (exfalso; omega) | exact Int32.toInt_inj.mp (by omega)) | exact Int32.toInt_inj.mp (by omega) | (rw [uu_a, uu_a]))))
set_option maxHeartbeats 1000000 in
theorem s7_multiply (ac : Int32) (rf : Int32) (fo : Nat → Int64) (p0 : Int32) (p1 : Int32) (p2 : Int32) (hp0 : FA fo) : ok (F_X7_multiply ac rf fo p0 p1 p2) (fun r => ok (F_X9_multiply ac rf fo p0 p1 p2) (fun q => ((r.1 = 0 ∧ q.2.2.2.1.toInt = 0) ∨ (r.1 = 1 ∧ q.2.2.2.1.toInt = 1)) ∧ (r.1 = 0 → r.2.1 = q.1) ∧ r.2.2.1 = q.2.1 ∧ r.2.2.2.1 = q.2.2.1 ∧ r.2.2.2.2 = q.2.2.2.2 ∧ FA q.2.2.2.2)) := by
  have l032 : (0 : Int32).toInt = 0 := by decide
  unfold F_X7_multiply
  refine ok_o (fx_X7_testForms p0 p1 p2 ) (fun xc3 h1 => ?_)
  have h1 : (xc3 = 0 ∧ 0 ≤ p0.toInt ∧ p0.toInt ≤ 5 ∧ 0 ≤ p1.toInt ∧ p1.toInt ≤ 5 ∧ 0 ≤ p2.toInt ∧ p2.toInt ≤ 5) ∨ (xc3 = 1 ∧ (p0.toInt < 0 ∨ 5 < p0.toInt ∨ p1.toInt < 0 ∨ 5 < p1.toInt ∨ p2.toInt < 0 ∨ 5 < p2.toInt)) := h1
  refine ok_i (fun c2 => ?_) (fun c2 => ?_)
  · refine ok_c (ixo (by omega) (by omega)) ?_
    refine ok_c (ixo (by omega) (by omega)) ?_
    try have a3 := FA_at (f := fo) (by assumption) p0.toNatClampNeg
    try have a4 := FA_at (f := fo) (by assumption) p1.toNatClampNeg
    refine ok_o (fx_X0_haveProduct (fo p0.toNatClampNeg) (fo p1.toNatClampNeg) (by first | omega | assumption | trivial | exact wt_of (by assumption) (by omega)) (by first | omega | assumption | trivial | exact wt_of (by assumption) (by omega))) (fun r18 h5 => ?_)
    have h5 : (r18.toInt = 1 ∧ (DG (fo p0.toNatClampNeg) = -1 ∨ DG (fo p1.toNatClampNeg) = -1 ∨ DG (fo p0.toNatClampNeg) + DG (fo p1.toNatClampNeg) ≤ 39)) ∨ (r18.toInt = 0 ∧ 0 ≤ DG (fo p0.toNatClampNeg) ∧ 0 ≤ DG (fo p1.toNatClampNeg) ∧ 40 ≤ DG (fo p0.toNatClampNeg) + DG (fo p1.toNatClampNeg)) := h5
    refine ok_eq (fun c6 => ?_) (fun c6 => ?_)
    · refine ok_o2 (fx_X7_refuse rf ) (fun r25 c_t_refusals_25 h7 => ?_)
      have h7 : r25 = (-9 : Int32) ∧ c_t_refusals_25 = rf + (1 : Int32) := h7
      obtain ⟨h7_0, h7_1⟩ := h7
      refine ok_s ?_
      show ok (F_X9_multiply ac rf fo p0 p1 p2) (fun q => ((0 = 0 ∧ q.2.2.2.1.toInt = 0) ∨ (0 = 1 ∧ q.2.2.2.1.toInt = 1)) ∧ (0 = 0 → r25 = q.1) ∧ ac = q.2.1 ∧ c_t_refusals_25 = q.2.2.1 ∧ fo = q.2.2.2.2 ∧ FA q.2.2.2.2)
      unfold F_X9_multiply
      refine ok_o2 (fx_X9_areNot p0 p1 p2 ) (fun r4 c_t_thrown_4 h8 => ?_)
      have h8 : (r4.toInt = 0 ∧ c_t_thrown_4.toInt = 0 ∧ 0 ≤ p0.toInt ∧ p0.toInt ≤ 5 ∧ 0 ≤ p1.toInt ∧ p1.toInt ≤ 5 ∧ 0 ≤ p2.toInt ∧ p2.toInt ≤ 5) ∨ (r4.toInt = 1 ∧ c_t_thrown_4.toInt = 1 ∧ (p0.toInt < 0 ∨ 5 < p0.toInt ∨ p1.toInt < 0 ∨ 5 < p1.toInt ∨ p2.toInt < 0 ∨ 5 < p2.toInt)) := h8
      refine ok_eq (fun c9 => ?_) (fun c9 => ?_)
      · refine ok_c (ixo (by omega) (by omega)) ?_
        refine ok_c (ixo (by omega) (by omega)) ?_
        try have a10 := FA_at (f := fo) (by assumption) p0.toNatClampNeg
        try have a11 := FA_at (f := fo) (by assumption) p1.toNatClampNeg
        refine ok_o (sp_X9_isTooHigh (fo p0.toNatClampNeg) (fo p1.toNatClampNeg) (by first | omega | assumption | trivial | exact wt_of (by assumption) (by omega)) (by first | omega | assumption | trivial | exact wt_of (by assumption) (by omega))) (fun r25_2 h12 => ?_)
        have h12 : (r25_2.toInt = 0 ∧ (DG (fo p0.toNatClampNeg) = -1 ∨ DG (fo p1.toNatClampNeg) = -1 ∨ DG (fo p0.toNatClampNeg) + DG (fo p1.toNatClampNeg) ≤ 39)) ∨ (r25_2.toInt = 1 ∧ 0 ≤ DG (fo p0.toNatClampNeg) ∧ 0 ≤ DG (fo p1.toNatClampNeg) ∧ 40 ≤ DG (fo p0.toNatClampNeg) + DG (fo p1.toNatClampNeg)) := h12
        refine ok_eq (fun c13 => ?_) (fun c13 => ?_)
        · exfalso; omega
        · refine ok_o2 (fx_X9_no rf ) (fun r32 c_t_refused_32 h14 => ?_)
          have h14 : r32 = (-9 : Int32) ∧ c_t_refused_32 = rf + (1 : Int32) := h14
          obtain ⟨h14_0, h14_1⟩ := h14
          refine ok_s (show ((0 = 0 ∧ c_t_thrown_4.toInt = 0) ∨ (0 = 1 ∧ c_t_thrown_4.toInt = 1)) ∧ (0 = 0 → r25 = r32) ∧ ac = ac ∧ c_t_refusals_25 = c_t_refused_32 ∧ fo = fo ∧ FA fo from ?_)
          first | (exfalso; omega) | (subst_vars; first | (exfalso; omega) | (refine ⟨?_, ?_, ?_, ?_, ?_, ?_⟩ <;> (first | assumption | rfl | omega | (intro hx; first | rfl | assumption | (exfalso; omega) | exact Int32.toInt_inj.mp (by omega)) | exact Int32.toInt_inj.mp (by omega) | (rw [uu_a, uu_a]))))
      · exfalso; omega
    · refine ok_c (ixo (by omega) (by omega)) ?_
      refine ok_c (ixo (by omega) (by omega)) ?_
      try have a15 := FA_at (f := fo) (by assumption) p0.toNatClampNeg
      try have a16 := FA_at (f := fo) (by assumption) p1.toNatClampNeg
      refine ok_o (fx_X0_multiplied (fo p0.toNatClampNeg) (fo p1.toNatClampNeg) (by first | omega | assumption | trivial | exact wt_of (by assumption) (by omega))) (fun r43 h17 => ?_)
      have h17 : r43 = cL (fo p0.toNatClampNeg) (fo p1.toNatClampNeg) := h17
      refine ok_o3 (fx_X7_become ac fo p2 r43 (by first | omega | assumption | trivial | exact wt_of (by assumption) (by omega)) (by first | omega | assumption | trivial | exact wt_of (by assumption) (by omega))) (fun r46 c_t_acts_46 f_t_forms_46 h18 => ?_)
      have h18 : r46 = DI r43 ∧ c_t_acts_46 = ac + (1 : Int32) ∧ f_t_forms_46 = vp_updL fo p2.toNatClampNeg r43 := h18
      obtain ⟨h18_0, h18_1, h18_2⟩ := h18
      refine ok_s ?_
      show ok (F_X9_multiply ac rf fo p0 p1 p2) (fun q => ((0 = 0 ∧ q.2.2.2.1.toInt = 0) ∨ (0 = 1 ∧ q.2.2.2.1.toInt = 1)) ∧ (0 = 0 → r46 = q.1) ∧ c_t_acts_46 = q.2.1 ∧ rf = q.2.2.1 ∧ f_t_forms_46 = q.2.2.2.2 ∧ FA q.2.2.2.2)
      unfold F_X9_multiply
      refine ok_o2 (fx_X9_areNot p0 p1 p2 ) (fun r4_2 c_t_thrown_4_2 h19 => ?_)
      have h19 : (r4_2.toInt = 0 ∧ c_t_thrown_4_2.toInt = 0 ∧ 0 ≤ p0.toInt ∧ p0.toInt ≤ 5 ∧ 0 ≤ p1.toInt ∧ p1.toInt ≤ 5 ∧ 0 ≤ p2.toInt ∧ p2.toInt ≤ 5) ∨ (r4_2.toInt = 1 ∧ c_t_thrown_4_2.toInt = 1 ∧ (p0.toInt < 0 ∨ 5 < p0.toInt ∨ p1.toInt < 0 ∨ 5 < p1.toInt ∨ p2.toInt < 0 ∨ 5 < p2.toInt)) := h19
      refine ok_eq (fun c20 => ?_) (fun c20 => ?_)
      · refine ok_c (ixo (by omega) (by omega)) ?_
        refine ok_c (ixo (by omega) (by omega)) ?_
        try have a21 := FA_at (f := fo) (by assumption) p0.toNatClampNeg
        try have a22 := FA_at (f := fo) (by assumption) p1.toNatClampNeg
        refine ok_o (sp_X9_isTooHigh (fo p0.toNatClampNeg) (fo p1.toNatClampNeg) (by first | omega | assumption | trivial | exact wt_of (by assumption) (by omega)) (by first | omega | assumption | trivial | exact wt_of (by assumption) (by omega))) (fun r25_3 h23 => ?_)
        have h23 : (r25_3.toInt = 0 ∧ (DG (fo p0.toNatClampNeg) = -1 ∨ DG (fo p1.toNatClampNeg) = -1 ∨ DG (fo p0.toNatClampNeg) + DG (fo p1.toNatClampNeg) ≤ 39)) ∨ (r25_3.toInt = 1 ∧ 0 ≤ DG (fo p0.toNatClampNeg) ∧ 0 ≤ DG (fo p1.toNatClampNeg) ∧ 40 ≤ DG (fo p0.toNatClampNeg) + DG (fo p1.toNatClampNeg)) := h23
        refine ok_eq (fun c24 => ?_) (fun c24 => ?_)
        · refine ok_c (ixo (by omega) (by omega)) ?_
          refine ok_c (ixo (by omega) (by omega)) ?_
          try have a25 := FA_at (f := fo) (by assumption) p0.toNatClampNeg
          try have a26 := FA_at (f := fo) (by assumption) p1.toNatClampNeg
          refine ok_o (fx_X9_productOf (fo p0.toNatClampNeg) (fo p1.toNatClampNeg) (by first | omega | assumption | trivial | exact wt_of (by assumption) (by omega)) (by first | omega | assumption | trivial | exact wt_of (by assumption) (by omega))) (fun r52 h27 => ?_)
          have h27 : (((DG (fo p0.toNatClampNeg) = -1 ∨ DG (fo p1.toNatClampNeg) = -1) ∧ DG r52 = -1) ∨ (0 ≤ DG (fo p0.toNatClampNeg) ∧ 0 ≤ DG (fo p1.toNatClampNeg) ∧ DG r52 = DG (fo p0.toNatClampNeg) + DG (fo p1.toNatClampNeg))) ∧ r52 = cL (fo p0.toNatClampNeg) (fo p1.toNatClampNeg) := h27
          obtain ⟨h27_0, h27_1⟩ := h27
          refine ok_o3 (fx_X9_give ac fo p2 r52 (by first | omega | assumption | trivial | exact wt_of (by assumption) (by omega)) (by first | omega | assumption | trivial | exact wt_of (by assumption) (by omega)) (by first | omega | assumption | trivial | exact wt_of (by assumption) (by omega)) (by first | omega | assumption | trivial | exact wt_of (by assumption) (by omega))) (fun r55 c_t_acts_55 f_t_forms_55 h28 => ?_)
          have h28 : r55 = DI r52 ∧ c_t_acts_55 = ac + (1 : Int32) ∧ f_t_forms_55 = vp_updL fo p2.toNatClampNeg r52 ∧ FA f_t_forms_55 := h28
          obtain ⟨h28_0, h28_1, h28_2, h28_3⟩ := h28
          refine ok_s (show ((0 = 0 ∧ c_t_thrown_4_2.toInt = 0) ∨ (0 = 1 ∧ c_t_thrown_4_2.toInt = 1)) ∧ (0 = 0 → r46 = r55) ∧ c_t_acts_46 = c_t_acts_55 ∧ rf = rf ∧ f_t_forms_46 = f_t_forms_55 ∧ FA f_t_forms_55 from ?_)
          first | (exfalso; omega) | (subst_vars; first | (exfalso; omega) | (refine ⟨?_, ?_, ?_, ?_, ?_, ?_⟩ <;> (first | assumption | rfl | omega | (intro hx; first | rfl | assumption | (exfalso; omega) | exact Int32.toInt_inj.mp (by omega)) | exact Int32.toInt_inj.mp (by omega) | (rw [uu_a, uu_a]))))
        · exfalso; omega
      · exfalso; omega
  · refine ok_s ?_
    show ok (F_X9_multiply ac rf fo p0 p1 p2) (fun q => ((xc3 = 0 ∧ q.2.2.2.1.toInt = 0) ∨ (xc3 = 1 ∧ q.2.2.2.1.toInt = 1)) ∧ (xc3 = 0 → (0 : Int32) = q.1) ∧ ac = q.2.1 ∧ rf = q.2.2.1 ∧ fo = q.2.2.2.2 ∧ FA q.2.2.2.2)
    unfold F_X9_multiply
    refine ok_o2 (fx_X9_areNot p0 p1 p2 ) (fun r4_3 c_t_thrown_4_3 h29 => ?_)
    have h29 : (r4_3.toInt = 0 ∧ c_t_thrown_4_3.toInt = 0 ∧ 0 ≤ p0.toInt ∧ p0.toInt ≤ 5 ∧ 0 ≤ p1.toInt ∧ p1.toInt ≤ 5 ∧ 0 ≤ p2.toInt ∧ p2.toInt ≤ 5) ∨ (r4_3.toInt = 1 ∧ c_t_thrown_4_3.toInt = 1 ∧ (p0.toInt < 0 ∨ 5 < p0.toInt ∨ p1.toInt < 0 ∨ 5 < p1.toInt ∨ p2.toInt < 0 ∨ 5 < p2.toInt)) := h29
    refine ok_eq (fun c30 => ?_) (fun c30 => ?_)
    · exfalso; omega
    · refine ok_s (show ((xc3 = 0 ∧ c_t_thrown_4_3.toInt = 0) ∨ (xc3 = 1 ∧ c_t_thrown_4_3.toInt = 1)) ∧ (xc3 = 0 → (0 : Int32) = (0 : Int32)) ∧ ac = ac ∧ rf = rf ∧ fo = fo ∧ FA fo from ?_)
      first | (exfalso; omega) | (subst_vars; first | (exfalso; omega) | (refine ⟨?_, ?_, ?_, ?_, ?_, ?_⟩ <;> (first | assumption | rfl | omega | (intro hx; first | rfl | assumption | (exfalso; omega) | exact Int32.toInt_inj.mp (by omega)) | exact Int32.toInt_inj.mp (by omega) | (rw [uu_a, uu_a]))))
set_option maxHeartbeats 1000000 in
theorem s7_square (ac : Int32) (rf : Int32) (fo : Nat → Int64) (th : Int32) (p0 : Int32) (p1 : Int32) (hp0 : FA fo) : ok (F_X7_square ac rf fo p0 p1) (fun r => ok (F_X9_square ac rf th fo p0 p1) (fun q => ((r.1 = 0 ∧ q.2.2.2.1.toInt = 0) ∨ (r.1 = 1 ∧ q.2.2.2.1.toInt = 1)) ∧ (r.1 = 0 → r.2.1 = q.1) ∧ r.2.2.1 = q.2.1 ∧ r.2.2.2.1 = q.2.2.1 ∧ r.2.2.2.2 = q.2.2.2.2 ∧ FA q.2.2.2.2)) := by
  have l032 : (0 : Int32).toInt = 0 := by decide
  have l132 : (1 : Int32).toInt = 1 := by decide
  have l232 : (2 : Int32).toInt = 2 := by decide
  have l3932 : (39 : Int32).toInt = 39 := by decide
  unfold F_X7_square
  refine ok_o (fx_X7_testForm p0 ) (fun xc1 h1 => ?_)
  have h1 : (xc1 = 0 ∧ 0 ≤ p0.toInt ∧ p0.toInt ≤ 5) ∨ (xc1 = 1 ∧ (p0.toInt < 0 ∨ 5 < p0.toInt)) := h1
  refine ok_i (fun c2 => ?_) (fun c2 => ?_)
  · refine ok_o (fx_X7_testForm p1 ) (fun xc5 h3 => ?_)
    have h3 : (xc5 = 0 ∧ 0 ≤ p1.toInt ∧ p1.toInt ≤ 5) ∨ (xc5 = 1 ∧ (p1.toInt < 0 ∨ 5 < p1.toInt)) := h3
    refine ok_i (fun c4 => ?_) (fun c4 => ?_)
    · refine ok_c (ixo (by omega) (by omega)) ?_
      try have a5 := FA_at (f := fo) (by assumption) p0.toNatClampNeg
      refine ok_o (fx_X0_degreeOf (fo p0.toNatClampNeg) ) (fun r15 h6 => ?_)
      have h6 : r15 = DI (fo p0.toNatClampNeg) ∧ r15.toInt = DG (fo p0.toNatClampNeg) ∧ -1 ≤ r15.toInt ∧ r15.toInt ≤ 63 := h6
      obtain ⟨h6_0, h6_1, h6_2, h6_3⟩ := h6
      obtain ⟨w7, e_w7⟩ : ∃ w : Int32, w = (2 : Int32) * r15 := ⟨_, rfl⟩
      try have t_w7 : w7.toInt = 2 * r15.toInt := by rw [e_w7]; exact mulT1 (show (2 : Int32).toInt = 2 from by decide) (by omega) (by omega)
      try rw [← e_w7]
      refine ok_le (fun c8 => ?_) (fun c8 => ?_)
      · refine ok_c (ixo (by omega) (by omega)) ?_
        try have a9 := FA_at (f := fo) (by assumption) p0.toNatClampNeg
        refine ok_o (fx_X0_squared (fo p0.toNatClampNeg) (by first | omega | assumption | trivial | exact wt_of (by assumption) (by omega))) (fun r37 h10 => ?_)
        have h10 : r37 = cL (fo p0.toNatClampNeg) (fo p0.toNatClampNeg) := h10
        refine ok_o3 (fx_X7_become ac fo p1 r37 (by first | omega | assumption | trivial | exact wt_of (by assumption) (by omega)) (by first | omega | assumption | trivial | exact wt_of (by assumption) (by omega))) (fun r40 c_t_acts_40 f_t_forms_40 h11 => ?_)
        have h11 : r40 = DI r37 ∧ c_t_acts_40 = ac + (1 : Int32) ∧ f_t_forms_40 = vp_updL fo p1.toNatClampNeg r37 := h11
        obtain ⟨h11_0, h11_1, h11_2⟩ := h11
        refine ok_s ?_
        show ok (F_X9_square ac rf th fo p0 p1) (fun q => ((0 = 0 ∧ q.2.2.2.1.toInt = 0) ∨ (0 = 1 ∧ q.2.2.2.1.toInt = 1)) ∧ (0 = 0 → r40 = q.1) ∧ c_t_acts_40 = q.2.1 ∧ rf = q.2.2.1 ∧ f_t_forms_40 = q.2.2.2.2 ∧ FA q.2.2.2.2)
        unfold F_X9_square
        refine ok_o (sp_X9_isForm p0 ) (fun r2 h12 => ?_)
        have h12 : (r2.toInt = 1 ∧ 0 ≤ p0.toInt ∧ p0.toInt ≤ 5) ∨ (r2.toInt = 0 ∧ (p0.toInt < 0 ∨ 6 ≤ p0.toInt)) := h12
        refine ok_eq (fun c13 => ?_) (fun c13 => ?_)
        · exfalso; omega
        · refine ok_o (sp_X9_isForm p1 ) (fun r9 h14 => ?_)
          have h14 : (r9.toInt = 1 ∧ 0 ≤ p1.toInt ∧ p1.toInt ≤ 5) ∨ (r9.toInt = 0 ∧ (p1.toInt < 0 ∨ 6 ≤ p1.toInt)) := h14
          refine ok_eq (fun c15 => ?_) (fun c15 => ?_)
          · exfalso; omega
          · first | unfold J_X9_square_20 | skip
            try rw [← e_w7]
            refine ok_o2 (sp_X9_isThrown_ (0 : Int32) ) (fun r20 c_t_thrown_20 h16 => ?_)
            have h16 : (r20.toInt = 0 ∧ c_t_thrown_20.toInt = 0 ∧ (0 : Int32).toInt = 0) ∨ (r20.toInt = 1 ∧ c_t_thrown_20.toInt = 1 ∧ (0 : Int32).toInt ≠ 0) := h16
            refine ok_eq (fun c17 => ?_) (fun c17 => ?_)
            · refine ok_c (ixo (by omega) (by omega)) ?_
              refine ok_c (ixo (by omega) (by omega)) ?_
              try have a18 := FA_at (f := fo) (by assumption) p0.toNatClampNeg
              try have a19 := FA_at (f := fo) (by assumption) p0.toNatClampNeg
              refine ok_o (sp_X9_isTooHigh (fo p0.toNatClampNeg) (fo p0.toNatClampNeg) (by first | omega | assumption | trivial | exact wt_of (by assumption) (by omega)) (by first | omega | assumption | trivial | exact wt_of (by assumption) (by omega))) (fun r41 h20 => ?_)
              have h20 : (r41.toInt = 0 ∧ (DG (fo p0.toNatClampNeg) = -1 ∨ DG (fo p0.toNatClampNeg) = -1 ∨ DG (fo p0.toNatClampNeg) + DG (fo p0.toNatClampNeg) ≤ 39)) ∨ (r41.toInt = 1 ∧ 0 ≤ DG (fo p0.toNatClampNeg) ∧ 0 ≤ DG (fo p0.toNatClampNeg) ∧ 40 ≤ DG (fo p0.toNatClampNeg) + DG (fo p0.toNatClampNeg)) := h20
              refine ok_eq (fun c21 => ?_) (fun c21 => ?_)
              · refine ok_c (ixo (by omega) (by omega)) ?_
                refine ok_c (ixo (by omega) (by omega)) ?_
                try have a22 := FA_at (f := fo) (by assumption) p0.toNatClampNeg
                try have a23 := FA_at (f := fo) (by assumption) p0.toNatClampNeg
                refine ok_o (fx_X9_productOf (fo p0.toNatClampNeg) (fo p0.toNatClampNeg) (by first | omega | assumption | trivial | exact wt_of (by assumption) (by omega)) (by first | omega | assumption | trivial | exact wt_of (by assumption) (by omega))) (fun r68 h24 => ?_)
                have h24 : (((DG (fo p0.toNatClampNeg) = -1 ∨ DG (fo p0.toNatClampNeg) = -1) ∧ DG r68 = -1) ∨ (0 ≤ DG (fo p0.toNatClampNeg) ∧ 0 ≤ DG (fo p0.toNatClampNeg) ∧ DG r68 = DG (fo p0.toNatClampNeg) + DG (fo p0.toNatClampNeg))) ∧ r68 = cL (fo p0.toNatClampNeg) (fo p0.toNatClampNeg) := h24
                obtain ⟨h24_0, h24_1⟩ := h24
                refine ok_o3 (fx_X9_give ac fo p1 r68 (by first | omega | assumption | trivial | exact wt_of (by assumption) (by omega)) (by first | omega | assumption | trivial | exact wt_of (by assumption) (by omega)) (by first | omega | assumption | trivial | exact wt_of (by assumption) (by omega)) (by first | omega | assumption | trivial | exact wt_of (by assumption) (by omega))) (fun r71 c_t_acts_71 f_t_forms_71 h25 => ?_)
                have h25 : r71 = DI r68 ∧ c_t_acts_71 = ac + (1 : Int32) ∧ f_t_forms_71 = vp_updL fo p1.toNatClampNeg r68 ∧ FA f_t_forms_71 := h25
                obtain ⟨h25_0, h25_1, h25_2, h25_3⟩ := h25
                refine ok_s (show ((0 = 0 ∧ c_t_thrown_20.toInt = 0) ∨ (0 = 1 ∧ c_t_thrown_20.toInt = 1)) ∧ (0 = 0 → r40 = r71) ∧ c_t_acts_40 = c_t_acts_71 ∧ rf = rf ∧ f_t_forms_40 = f_t_forms_71 ∧ FA f_t_forms_71 from ?_)
                first | (exfalso; omega) | (subst_vars; first | (exfalso; omega) | (refine ⟨?_, ?_, ?_, ?_, ?_, ?_⟩ <;> (first | assumption | rfl | omega | (intro hx; first | rfl | assumption | (exfalso; omega) | exact Int32.toInt_inj.mp (by omega)) | exact Int32.toInt_inj.mp (by omega) | (rw [uu_a, uu_a]))))
              · refine ok_o2 (fx_X9_no rf ) (fun r48 c_t_refused_48 h26 => ?_)
                have h26 : r48 = (-9 : Int32) ∧ c_t_refused_48 = rf + (1 : Int32) := h26
                obtain ⟨h26_0, h26_1⟩ := h26
                refine ok_s (show ((0 = 0 ∧ c_t_thrown_20.toInt = 0) ∨ (0 = 1 ∧ c_t_thrown_20.toInt = 1)) ∧ (0 = 0 → r40 = r48) ∧ c_t_acts_40 = ac ∧ rf = c_t_refused_48 ∧ f_t_forms_40 = fo ∧ FA fo from ?_)
                first | (exfalso; omega) | (subst_vars; first | (exfalso; omega) | (refine ⟨?_, ?_, ?_, ?_, ?_, ?_⟩ <;> (first | assumption | rfl | omega | (intro hx; first | rfl | assumption | (exfalso; omega) | exact Int32.toInt_inj.mp (by omega)) | exact Int32.toInt_inj.mp (by omega) | (rw [uu_a, uu_a]))))
            · exfalso; omega
      · refine ok_o2 (fx_X7_refuse rf ) (fun r25 c_t_refusals_25 h27 => ?_)
        have h27 : r25 = (-9 : Int32) ∧ c_t_refusals_25 = rf + (1 : Int32) := h27
        obtain ⟨h27_0, h27_1⟩ := h27
        refine ok_s ?_
        show ok (F_X9_square ac rf th fo p0 p1) (fun q => ((0 = 0 ∧ q.2.2.2.1.toInt = 0) ∨ (0 = 1 ∧ q.2.2.2.1.toInt = 1)) ∧ (0 = 0 → r25 = q.1) ∧ ac = q.2.1 ∧ c_t_refusals_25 = q.2.2.1 ∧ fo = q.2.2.2.2 ∧ FA q.2.2.2.2)
        unfold F_X9_square
        refine ok_o (sp_X9_isForm p0 ) (fun r2_2 h28 => ?_)
        have h28 : (r2_2.toInt = 1 ∧ 0 ≤ p0.toInt ∧ p0.toInt ≤ 5) ∨ (r2_2.toInt = 0 ∧ (p0.toInt < 0 ∨ 6 ≤ p0.toInt)) := h28
        refine ok_eq (fun c29 => ?_) (fun c29 => ?_)
        · exfalso; omega
        · refine ok_o (sp_X9_isForm p1 ) (fun r9_2 h30 => ?_)
          have h30 : (r9_2.toInt = 1 ∧ 0 ≤ p1.toInt ∧ p1.toInt ≤ 5) ∨ (r9_2.toInt = 0 ∧ (p1.toInt < 0 ∨ 6 ≤ p1.toInt)) := h30
          refine ok_eq (fun c31 => ?_) (fun c31 => ?_)
          · exfalso; omega
          · first | unfold J_X9_square_20 | skip
            try rw [← e_w7]
            refine ok_o2 (sp_X9_isThrown_ (0 : Int32) ) (fun r20_2 c_t_thrown_20_2 h32 => ?_)
            have h32 : (r20_2.toInt = 0 ∧ c_t_thrown_20_2.toInt = 0 ∧ (0 : Int32).toInt = 0) ∨ (r20_2.toInt = 1 ∧ c_t_thrown_20_2.toInt = 1 ∧ (0 : Int32).toInt ≠ 0) := h32
            refine ok_eq (fun c33 => ?_) (fun c33 => ?_)
            · refine ok_c (ixo (by omega) (by omega)) ?_
              refine ok_c (ixo (by omega) (by omega)) ?_
              try have a34 := FA_at (f := fo) (by assumption) p0.toNatClampNeg
              try have a35 := FA_at (f := fo) (by assumption) p0.toNatClampNeg
              refine ok_o (sp_X9_isTooHigh (fo p0.toNatClampNeg) (fo p0.toNatClampNeg) (by first | omega | assumption | trivial | exact wt_of (by assumption) (by omega)) (by first | omega | assumption | trivial | exact wt_of (by assumption) (by omega))) (fun r41_2 h36 => ?_)
              have h36 : (r41_2.toInt = 0 ∧ (DG (fo p0.toNatClampNeg) = -1 ∨ DG (fo p0.toNatClampNeg) = -1 ∨ DG (fo p0.toNatClampNeg) + DG (fo p0.toNatClampNeg) ≤ 39)) ∨ (r41_2.toInt = 1 ∧ 0 ≤ DG (fo p0.toNatClampNeg) ∧ 0 ≤ DG (fo p0.toNatClampNeg) ∧ 40 ≤ DG (fo p0.toNatClampNeg) + DG (fo p0.toNatClampNeg)) := h36
              refine ok_eq (fun c37 => ?_) (fun c37 => ?_)
              · refine ok_c (ixo (by omega) (by omega)) ?_
                refine ok_c (ixo (by omega) (by omega)) ?_
                try have a38 := FA_at (f := fo) (by assumption) p0.toNatClampNeg
                try have a39 := FA_at (f := fo) (by assumption) p0.toNatClampNeg
                refine ok_o (fx_X9_productOf (fo p0.toNatClampNeg) (fo p0.toNatClampNeg) (by first | omega | assumption | trivial | exact wt_of (by assumption) (by omega)) (by first | omega | assumption | trivial | exact wt_of (by assumption) (by omega))) (fun r68_2 h40 => ?_)
                have h40 : (((DG (fo p0.toNatClampNeg) = -1 ∨ DG (fo p0.toNatClampNeg) = -1) ∧ DG r68_2 = -1) ∨ (0 ≤ DG (fo p0.toNatClampNeg) ∧ 0 ≤ DG (fo p0.toNatClampNeg) ∧ DG r68_2 = DG (fo p0.toNatClampNeg) + DG (fo p0.toNatClampNeg))) ∧ r68_2 = cL (fo p0.toNatClampNeg) (fo p0.toNatClampNeg) := h40
                obtain ⟨h40_0, h40_1⟩ := h40
                refine ok_o3 (fx_X9_give ac fo p1 r68_2 (by first | omega | assumption | trivial | exact wt_of (by assumption) (by omega)) (by first | omega | assumption | trivial | exact wt_of (by assumption) (by omega)) (by first | omega | assumption | trivial | exact wt_of (by assumption) (by omega)) (by first | omega | assumption | trivial | exact wt_of (by assumption) (by omega))) (fun r71_2 c_t_acts_71_2 f_t_forms_71_2 h41 => ?_)
                have h41 : r71_2 = DI r68_2 ∧ c_t_acts_71_2 = ac + (1 : Int32) ∧ f_t_forms_71_2 = vp_updL fo p1.toNatClampNeg r68_2 ∧ FA f_t_forms_71_2 := h41
                obtain ⟨h41_0, h41_1, h41_2, h41_3⟩ := h41
                refine ok_s (show ((0 = 0 ∧ c_t_thrown_20_2.toInt = 0) ∨ (0 = 1 ∧ c_t_thrown_20_2.toInt = 1)) ∧ (0 = 0 → r25 = r71_2) ∧ ac = c_t_acts_71_2 ∧ c_t_refusals_25 = rf ∧ fo = f_t_forms_71_2 ∧ FA f_t_forms_71_2 from ?_)
                first | (exfalso; omega) | (subst_vars; first | (exfalso; omega) | (refine ⟨?_, ?_, ?_, ?_, ?_, ?_⟩ <;> (first | assumption | rfl | omega | (intro hx; first | rfl | assumption | (exfalso; omega) | exact Int32.toInt_inj.mp (by omega)) | exact Int32.toInt_inj.mp (by omega) | (rw [uu_a, uu_a]))))
              · refine ok_o2 (fx_X9_no rf ) (fun r48_2 c_t_refused_48_2 h42 => ?_)
                have h42 : r48_2 = (-9 : Int32) ∧ c_t_refused_48_2 = rf + (1 : Int32) := h42
                obtain ⟨h42_0, h42_1⟩ := h42
                refine ok_s (show ((0 = 0 ∧ c_t_thrown_20_2.toInt = 0) ∨ (0 = 1 ∧ c_t_thrown_20_2.toInt = 1)) ∧ (0 = 0 → r25 = r48_2) ∧ ac = ac ∧ c_t_refusals_25 = c_t_refused_48_2 ∧ fo = fo ∧ FA fo from ?_)
                first | (exfalso; omega) | (subst_vars; first | (exfalso; omega) | (refine ⟨?_, ?_, ?_, ?_, ?_, ?_⟩ <;> (first | assumption | rfl | omega | (intro hx; first | rfl | assumption | (exfalso; omega) | exact Int32.toInt_inj.mp (by omega)) | exact Int32.toInt_inj.mp (by omega) | (rw [uu_a, uu_a]))))
            · exfalso; omega
    · refine ok_s ?_
      show ok (F_X9_square ac rf th fo p0 p1) (fun q => ((xc5 = 0 ∧ q.2.2.2.1.toInt = 0) ∨ (xc5 = 1 ∧ q.2.2.2.1.toInt = 1)) ∧ (xc5 = 0 → (0 : Int32) = q.1) ∧ ac = q.2.1 ∧ rf = q.2.2.1 ∧ fo = q.2.2.2.2 ∧ FA q.2.2.2.2)
      unfold F_X9_square
      refine ok_o (sp_X9_isForm p0 ) (fun r2_3 h43 => ?_)
      have h43 : (r2_3.toInt = 1 ∧ 0 ≤ p0.toInt ∧ p0.toInt ≤ 5) ∨ (r2_3.toInt = 0 ∧ (p0.toInt < 0 ∨ 6 ≤ p0.toInt)) := h43
      refine ok_eq (fun c44 => ?_) (fun c44 => ?_)
      · exfalso; omega
      · refine ok_o (sp_X9_isForm p1 ) (fun r9_3 h45 => ?_)
        have h45 : (r9_3.toInt = 1 ∧ 0 ≤ p1.toInt ∧ p1.toInt ≤ 5) ∨ (r9_3.toInt = 0 ∧ (p1.toInt < 0 ∨ 6 ≤ p1.toInt)) := h45
        refine ok_eq (fun c46 => ?_) (fun c46 => ?_)
        · first | unfold J_X9_square_15 | skip
          first | unfold J_X9_square_20 | skip
          refine ok_o2 (sp_X9_isThrown_ (1 : Int32) ) (fun r20_3 c_t_thrown_20_3 h47 => ?_)
          have h47 : (r20_3.toInt = 0 ∧ c_t_thrown_20_3.toInt = 0 ∧ (1 : Int32).toInt = 0) ∨ (r20_3.toInt = 1 ∧ c_t_thrown_20_3.toInt = 1 ∧ (1 : Int32).toInt ≠ 0) := h47
          refine ok_eq (fun c48 => ?_) (fun c48 => ?_)
          · exfalso; omega
          · refine ok_s (show ((xc5 = 0 ∧ c_t_thrown_20_3.toInt = 0) ∨ (xc5 = 1 ∧ c_t_thrown_20_3.toInt = 1)) ∧ (xc5 = 0 → (0 : Int32) = (0 : Int32)) ∧ ac = ac ∧ rf = rf ∧ fo = fo ∧ FA fo from ?_)
            first | (exfalso; omega) | (subst_vars; first | (exfalso; omega) | (refine ⟨?_, ?_, ?_, ?_, ?_, ?_⟩ <;> (first | assumption | rfl | omega | (intro hx; first | rfl | assumption | (exfalso; omega) | exact Int32.toInt_inj.mp (by omega)) | exact Int32.toInt_inj.mp (by omega) | (rw [uu_a, uu_a]))))
        · exfalso; omega
  · refine ok_s ?_
    show ok (F_X9_square ac rf th fo p0 p1) (fun q => ((xc1 = 0 ∧ q.2.2.2.1.toInt = 0) ∨ (xc1 = 1 ∧ q.2.2.2.1.toInt = 1)) ∧ (xc1 = 0 → (0 : Int32) = q.1) ∧ ac = q.2.1 ∧ rf = q.2.2.1 ∧ fo = q.2.2.2.2 ∧ FA q.2.2.2.2)
    unfold F_X9_square
    refine ok_o (sp_X9_isForm p0 ) (fun r2_4 h49 => ?_)
    have h49 : (r2_4.toInt = 1 ∧ 0 ≤ p0.toInt ∧ p0.toInt ≤ 5) ∨ (r2_4.toInt = 0 ∧ (p0.toInt < 0 ∨ 6 ≤ p0.toInt)) := h49
    refine ok_eq (fun c50 => ?_) (fun c50 => ?_)
    · first | unfold J_X9_square_15 | skip
      first | unfold J_X9_square_20 | skip
      refine ok_o2 (sp_X9_isThrown_ (1 : Int32) ) (fun r20_4 c_t_thrown_20_4 h51 => ?_)
      have h51 : (r20_4.toInt = 0 ∧ c_t_thrown_20_4.toInt = 0 ∧ (1 : Int32).toInt = 0) ∨ (r20_4.toInt = 1 ∧ c_t_thrown_20_4.toInt = 1 ∧ (1 : Int32).toInt ≠ 0) := h51
      refine ok_eq (fun c52 => ?_) (fun c52 => ?_)
      · exfalso; omega
      · refine ok_s (show ((xc1 = 0 ∧ c_t_thrown_20_4.toInt = 0) ∨ (xc1 = 1 ∧ c_t_thrown_20_4.toInt = 1)) ∧ (xc1 = 0 → (0 : Int32) = (0 : Int32)) ∧ ac = ac ∧ rf = rf ∧ fo = fo ∧ FA fo from ?_)
        first | (exfalso; omega) | (subst_vars; first | (exfalso; omega) | (refine ⟨?_, ?_, ?_, ?_, ?_, ?_⟩ <;> (first | assumption | rfl | omega | (intro hx; first | rfl | assumption | (exfalso; omega) | exact Int32.toInt_inj.mp (by omega)) | exact Int32.toInt_inj.mp (by omega) | (rw [uu_a, uu_a]))))
    · exfalso; omega
set_option maxHeartbeats 1000000 in
theorem s7_divide (ac : Int32) (rf : Int32) (fo : Nat → Int64) (p0 : Int32) (p1 : Int32) (p2 : Int32) (hp0 : FA fo) : ok (F_X7_divide ac rf fo p0 p1 p2) (fun r => ok (F_X9_divide ac rf fo p0 p1 p2) (fun q => ((r.1 = 0 ∧ q.2.2.2.1.toInt = 0) ∨ (r.1 = 1 ∧ q.2.2.2.1.toInt = 1)) ∧ (r.1 = 0 → r.2.1 = q.1) ∧ r.2.2.1 = q.2.1 ∧ r.2.2.2.1 = q.2.2.1 ∧ r.2.2.2.2 = q.2.2.2.2 ∧ FA q.2.2.2.2)) := by
  have l032 : (0 : Int32).toInt = 0 := by decide
  have l064 : (0 : Int64).toInt = 0 := by decide
  unfold F_X7_divide
  refine ok_o (fx_X7_testForms p0 p1 p2 ) (fun xc3 h1 => ?_)
  have h1 : (xc3 = 0 ∧ 0 ≤ p0.toInt ∧ p0.toInt ≤ 5 ∧ 0 ≤ p1.toInt ∧ p1.toInt ≤ 5 ∧ 0 ≤ p2.toInt ∧ p2.toInt ≤ 5) ∨ (xc3 = 1 ∧ (p0.toInt < 0 ∨ 5 < p0.toInt ∨ p1.toInt < 0 ∨ 5 < p1.toInt ∨ p2.toInt < 0 ∨ 5 < p2.toInt)) := h1
  refine ok_i (fun c2 => ?_) (fun c2 => ?_)
  · refine ok_c (ixo (by omega) (by omega)) ?_
    try have a4 := FA_at (f := fo) (by assumption) p1.toNatClampNeg
    have z_c3 := DG_z (fo p1.toNatClampNeg)
    refine ok_eqL (fun c3 => ?_) (fun c3 => ?_)
    · refine ok_o2 (fx_X7_refuse rf ) (fun r18 c_t_refusals_18 h5 => ?_)
      have h5 : r18 = (-9 : Int32) ∧ c_t_refusals_18 = rf + (1 : Int32) := h5
      obtain ⟨h5_0, h5_1⟩ := h5
      refine ok_s ?_
      show ok (F_X9_divide ac rf fo p0 p1 p2) (fun q => ((0 = 0 ∧ q.2.2.2.1.toInt = 0) ∨ (0 = 1 ∧ q.2.2.2.1.toInt = 1)) ∧ (0 = 0 → r18 = q.1) ∧ ac = q.2.1 ∧ c_t_refusals_18 = q.2.2.1 ∧ fo = q.2.2.2.2 ∧ FA q.2.2.2.2)
      unfold F_X9_divide
      refine ok_o2 (fx_X9_areNot p0 p1 p2 ) (fun r4 c_t_thrown_4 h6 => ?_)
      have h6 : (r4.toInt = 0 ∧ c_t_thrown_4.toInt = 0 ∧ 0 ≤ p0.toInt ∧ p0.toInt ≤ 5 ∧ 0 ≤ p1.toInt ∧ p1.toInt ≤ 5 ∧ 0 ≤ p2.toInt ∧ p2.toInt ≤ 5) ∨ (r4.toInt = 1 ∧ c_t_thrown_4.toInt = 1 ∧ (p0.toInt < 0 ∨ 5 < p0.toInt ∨ p1.toInt < 0 ∨ 5 < p1.toInt ∨ p2.toInt < 0 ∨ 5 < p2.toInt)) := h6
      refine ok_eq (fun c7 => ?_) (fun c7 => ?_)
      · refine ok_c (ixo (by omega) (by omega)) ?_
        try have a9 := FA_at (f := fo) (by assumption) p1.toNatClampNeg
        have z_c8 := DG_z (fo p1.toNatClampNeg)
        refine ok_eqL (fun c8 => ?_) (fun c8 => ?_)
        · refine ok_o2 (fx_X9_no rf ) (fun r24 c_t_refused_24 h10 => ?_)
          have h10 : r24 = (-9 : Int32) ∧ c_t_refused_24 = rf + (1 : Int32) := h10
          obtain ⟨h10_0, h10_1⟩ := h10
          refine ok_s (show ((0 = 0 ∧ c_t_thrown_4.toInt = 0) ∨ (0 = 1 ∧ c_t_thrown_4.toInt = 1)) ∧ (0 = 0 → r18 = r24) ∧ ac = ac ∧ c_t_refusals_18 = c_t_refused_24 ∧ fo = fo ∧ FA fo from ?_)
          first | (exfalso; omega) | (subst_vars; first | (exfalso; omega) | (refine ⟨?_, ?_, ?_, ?_, ?_, ?_⟩ <;> (first | assumption | rfl | omega | (intro hx; first | rfl | assumption | (exfalso; omega) | exact Int32.toInt_inj.mp (by omega)) | exact Int32.toInt_inj.mp (by omega) | (rw [uu_a, uu_a]))))
        · exfalso; omega
      · exfalso; omega
    · refine ok_c (ixo (by omega) (by omega)) ?_
      refine ok_c (ixo (by omega) (by omega)) ?_
      try have a11 := FA_at (f := fo) (by assumption) p0.toNatClampNeg
      try have a12 := FA_at (f := fo) (by assumption) p1.toNatClampNeg
      refine ok_o (fx_X0_quotient (fo p0.toNatClampNeg) (fo p1.toNatClampNeg) (by first | omega | assumption | trivial | exact wt_of (by assumption) (by omega)) (by first | omega | assumption | trivial | exact wt_of (by assumption) (by omega)) (by first | omega | assumption | trivial | exact wt_of (by assumption) (by omega))) (fun r36 h13 => ?_)
      have h13 : r36 = qL (fo p0.toNatClampNeg) (fo p1.toNatClampNeg) := h13
      refine ok_o3 (fx_X7_become ac fo p2 r36 (by first | omega | assumption | trivial | exact wt_of (by assumption) (by omega)) (by first | omega | assumption | trivial | exact wt_of (by assumption) (by omega))) (fun r39 c_t_acts_39 f_t_forms_39 h14 => ?_)
      have h14 : r39 = DI r36 ∧ c_t_acts_39 = ac + (1 : Int32) ∧ f_t_forms_39 = vp_updL fo p2.toNatClampNeg r36 := h14
      obtain ⟨h14_0, h14_1, h14_2⟩ := h14
      refine ok_s ?_
      show ok (F_X9_divide ac rf fo p0 p1 p2) (fun q => ((0 = 0 ∧ q.2.2.2.1.toInt = 0) ∨ (0 = 1 ∧ q.2.2.2.1.toInt = 1)) ∧ (0 = 0 → r39 = q.1) ∧ c_t_acts_39 = q.2.1 ∧ rf = q.2.2.1 ∧ f_t_forms_39 = q.2.2.2.2 ∧ FA q.2.2.2.2)
      unfold F_X9_divide
      refine ok_o2 (fx_X9_areNot p0 p1 p2 ) (fun r4_2 c_t_thrown_4_2 h15 => ?_)
      have h15 : (r4_2.toInt = 0 ∧ c_t_thrown_4_2.toInt = 0 ∧ 0 ≤ p0.toInt ∧ p0.toInt ≤ 5 ∧ 0 ≤ p1.toInt ∧ p1.toInt ≤ 5 ∧ 0 ≤ p2.toInt ∧ p2.toInt ≤ 5) ∨ (r4_2.toInt = 1 ∧ c_t_thrown_4_2.toInt = 1 ∧ (p0.toInt < 0 ∨ 5 < p0.toInt ∨ p1.toInt < 0 ∨ 5 < p1.toInt ∨ p2.toInt < 0 ∨ 5 < p2.toInt)) := h15
      refine ok_eq (fun c16 => ?_) (fun c16 => ?_)
      · refine ok_c (ixo (by omega) (by omega)) ?_
        try have a18 := FA_at (f := fo) (by assumption) p1.toNatClampNeg
        have z_c17 := DG_z (fo p1.toNatClampNeg)
        refine ok_eqL (fun c17 => ?_) (fun c17 => ?_)
        · exfalso; omega
        · refine ok_c (ixo (by omega) (by omega)) ?_
          refine ok_c (ixo (by omega) (by omega)) ?_
          try have a19 := FA_at (f := fo) (by assumption) p0.toNatClampNeg
          try have a20 := FA_at (f := fo) (by assumption) p1.toNatClampNeg
          refine ok_o (fx_X9_quotientOf (fo p0.toNatClampNeg) (fo p1.toNatClampNeg) (by first | omega | assumption | trivial | exact wt_of (by assumption) (by omega)) (by first | omega | assumption | trivial | exact wt_of (by assumption) (by omega)) (by first | omega | assumption | trivial | exact wt_of (by assumption) (by omega))) (fun r44 h21 => ?_)
          have h21 : ((DG (fo p0.toNatClampNeg) < DG (fo p1.toNatClampNeg) ∧ DG r44 = -1) ∨ (DG (fo p1.toNatClampNeg) ≤ DG (fo p0.toNatClampNeg) ∧ DG r44 = DG (fo p0.toNatClampNeg) - DG (fo p1.toNatClampNeg))) ∧ r44 = qL (fo p0.toNatClampNeg) (fo p1.toNatClampNeg) := h21
          obtain ⟨h21_0, h21_1⟩ := h21
          refine ok_o3 (fx_X9_give ac fo p2 r44 (by first | omega | assumption | trivial | exact wt_of (by assumption) (by omega)) (by first | omega | assumption | trivial | exact wt_of (by assumption) (by omega)) (by first | omega | assumption | trivial | exact wt_of (by assumption) (by omega)) (by first | omega | assumption | trivial | exact wt_of (by assumption) (by omega))) (fun r47 c_t_acts_47 f_t_forms_47 h22 => ?_)
          have h22 : r47 = DI r44 ∧ c_t_acts_47 = ac + (1 : Int32) ∧ f_t_forms_47 = vp_updL fo p2.toNatClampNeg r44 ∧ FA f_t_forms_47 := h22
          obtain ⟨h22_0, h22_1, h22_2, h22_3⟩ := h22
          refine ok_s (show ((0 = 0 ∧ c_t_thrown_4_2.toInt = 0) ∨ (0 = 1 ∧ c_t_thrown_4_2.toInt = 1)) ∧ (0 = 0 → r39 = r47) ∧ c_t_acts_39 = c_t_acts_47 ∧ rf = rf ∧ f_t_forms_39 = f_t_forms_47 ∧ FA f_t_forms_47 from ?_)
          first | (exfalso; omega) | (subst_vars; first | (exfalso; omega) | (refine ⟨?_, ?_, ?_, ?_, ?_, ?_⟩ <;> (first | assumption | rfl | omega | (intro hx; first | rfl | assumption | (exfalso; omega) | exact Int32.toInt_inj.mp (by omega)) | exact Int32.toInt_inj.mp (by omega) | (rw [uu_a, uu_a]))))
      · exfalso; omega
  · refine ok_s ?_
    show ok (F_X9_divide ac rf fo p0 p1 p2) (fun q => ((xc3 = 0 ∧ q.2.2.2.1.toInt = 0) ∨ (xc3 = 1 ∧ q.2.2.2.1.toInt = 1)) ∧ (xc3 = 0 → (0 : Int32) = q.1) ∧ ac = q.2.1 ∧ rf = q.2.2.1 ∧ fo = q.2.2.2.2 ∧ FA q.2.2.2.2)
    unfold F_X9_divide
    refine ok_o2 (fx_X9_areNot p0 p1 p2 ) (fun r4_3 c_t_thrown_4_3 h23 => ?_)
    have h23 : (r4_3.toInt = 0 ∧ c_t_thrown_4_3.toInt = 0 ∧ 0 ≤ p0.toInt ∧ p0.toInt ≤ 5 ∧ 0 ≤ p1.toInt ∧ p1.toInt ≤ 5 ∧ 0 ≤ p2.toInt ∧ p2.toInt ≤ 5) ∨ (r4_3.toInt = 1 ∧ c_t_thrown_4_3.toInt = 1 ∧ (p0.toInt < 0 ∨ 5 < p0.toInt ∨ p1.toInt < 0 ∨ 5 < p1.toInt ∨ p2.toInt < 0 ∨ 5 < p2.toInt)) := h23
    refine ok_eq (fun c24 => ?_) (fun c24 => ?_)
    · exfalso; omega
    · refine ok_s (show ((xc3 = 0 ∧ c_t_thrown_4_3.toInt = 0) ∨ (xc3 = 1 ∧ c_t_thrown_4_3.toInt = 1)) ∧ (xc3 = 0 → (0 : Int32) = (0 : Int32)) ∧ ac = ac ∧ rf = rf ∧ fo = fo ∧ FA fo from ?_)
      first | (exfalso; omega) | (subst_vars; first | (exfalso; omega) | (refine ⟨?_, ?_, ?_, ?_, ?_, ?_⟩ <;> (first | assumption | rfl | omega | (intro hx; first | rfl | assumption | (exfalso; omega) | exact Int32.toInt_inj.mp (by omega)) | exact Int32.toInt_inj.mp (by omega) | (rw [uu_a, uu_a]))))
set_option maxHeartbeats 1000000 in
theorem s7_remain (ac : Int32) (rf : Int32) (fo : Nat → Int64) (p0 : Int32) (p1 : Int32) (p2 : Int32) (hp0 : FA fo) : ok (F_X7_remain ac rf fo p0 p1 p2) (fun r => ok (F_X9_remain ac rf fo p0 p1 p2) (fun q => ((r.1 = 0 ∧ q.2.2.2.1.toInt = 0) ∨ (r.1 = 1 ∧ q.2.2.2.1.toInt = 1)) ∧ (r.1 = 0 → r.2.1 = q.1) ∧ r.2.2.1 = q.2.1 ∧ r.2.2.2.1 = q.2.2.1 ∧ r.2.2.2.2 = q.2.2.2.2 ∧ FA q.2.2.2.2)) := by
  have l032 : (0 : Int32).toInt = 0 := by decide
  have l064 : (0 : Int64).toInt = 0 := by decide
  unfold F_X7_remain
  refine ok_o (fx_X7_testForms p0 p1 p2 ) (fun xc3 h1 => ?_)
  have h1 : (xc3 = 0 ∧ 0 ≤ p0.toInt ∧ p0.toInt ≤ 5 ∧ 0 ≤ p1.toInt ∧ p1.toInt ≤ 5 ∧ 0 ≤ p2.toInt ∧ p2.toInt ≤ 5) ∨ (xc3 = 1 ∧ (p0.toInt < 0 ∨ 5 < p0.toInt ∨ p1.toInt < 0 ∨ 5 < p1.toInt ∨ p2.toInt < 0 ∨ 5 < p2.toInt)) := h1
  refine ok_i (fun c2 => ?_) (fun c2 => ?_)
  · refine ok_c (ixo (by omega) (by omega)) ?_
    try have a4 := FA_at (f := fo) (by assumption) p1.toNatClampNeg
    have z_c3 := DG_z (fo p1.toNatClampNeg)
    refine ok_eqL (fun c3 => ?_) (fun c3 => ?_)
    · refine ok_o2 (fx_X7_refuse rf ) (fun r18 c_t_refusals_18 h5 => ?_)
      have h5 : r18 = (-9 : Int32) ∧ c_t_refusals_18 = rf + (1 : Int32) := h5
      obtain ⟨h5_0, h5_1⟩ := h5
      refine ok_s ?_
      show ok (F_X9_remain ac rf fo p0 p1 p2) (fun q => ((0 = 0 ∧ q.2.2.2.1.toInt = 0) ∨ (0 = 1 ∧ q.2.2.2.1.toInt = 1)) ∧ (0 = 0 → r18 = q.1) ∧ ac = q.2.1 ∧ c_t_refusals_18 = q.2.2.1 ∧ fo = q.2.2.2.2 ∧ FA q.2.2.2.2)
      unfold F_X9_remain
      refine ok_o2 (fx_X9_areNot p0 p1 p2 ) (fun r4 c_t_thrown_4 h6 => ?_)
      have h6 : (r4.toInt = 0 ∧ c_t_thrown_4.toInt = 0 ∧ 0 ≤ p0.toInt ∧ p0.toInt ≤ 5 ∧ 0 ≤ p1.toInt ∧ p1.toInt ≤ 5 ∧ 0 ≤ p2.toInt ∧ p2.toInt ≤ 5) ∨ (r4.toInt = 1 ∧ c_t_thrown_4.toInt = 1 ∧ (p0.toInt < 0 ∨ 5 < p0.toInt ∨ p1.toInt < 0 ∨ 5 < p1.toInt ∨ p2.toInt < 0 ∨ 5 < p2.toInt)) := h6
      refine ok_eq (fun c7 => ?_) (fun c7 => ?_)
      · refine ok_c (ixo (by omega) (by omega)) ?_
        try have a9 := FA_at (f := fo) (by assumption) p1.toNatClampNeg
        have z_c8 := DG_z (fo p1.toNatClampNeg)
        refine ok_eqL (fun c8 => ?_) (fun c8 => ?_)
        · refine ok_o2 (fx_X9_no rf ) (fun r24 c_t_refused_24 h10 => ?_)
          have h10 : r24 = (-9 : Int32) ∧ c_t_refused_24 = rf + (1 : Int32) := h10
          obtain ⟨h10_0, h10_1⟩ := h10
          refine ok_s (show ((0 = 0 ∧ c_t_thrown_4.toInt = 0) ∨ (0 = 1 ∧ c_t_thrown_4.toInt = 1)) ∧ (0 = 0 → r18 = r24) ∧ ac = ac ∧ c_t_refusals_18 = c_t_refused_24 ∧ fo = fo ∧ FA fo from ?_)
          first | (exfalso; omega) | (subst_vars; first | (exfalso; omega) | (refine ⟨?_, ?_, ?_, ?_, ?_, ?_⟩ <;> (first | assumption | rfl | omega | (intro hx; first | rfl | assumption | (exfalso; omega) | exact Int32.toInt_inj.mp (by omega)) | exact Int32.toInt_inj.mp (by omega) | (rw [uu_a, uu_a]))))
        · exfalso; omega
      · exfalso; omega
    · refine ok_c (ixo (by omega) (by omega)) ?_
      refine ok_c (ixo (by omega) (by omega)) ?_
      try have a11 := FA_at (f := fo) (by assumption) p0.toNatClampNeg
      try have a12 := FA_at (f := fo) (by assumption) p1.toNatClampNeg
      refine ok_o (fx_X0_rest (fo p0.toNatClampNeg) (fo p1.toNatClampNeg) (by first | omega | assumption | trivial | exact wt_of (by assumption) (by omega)) (by first | omega | assumption | trivial | exact wt_of (by assumption) (by omega)) (by first | omega | assumption | trivial | exact wt_of (by assumption) (by omega))) (fun r36 h13 => ?_)
      have h13 : r36 = rL (fo p0.toNatClampNeg) (fo p1.toNatClampNeg) := h13
      refine ok_o3 (fx_X7_become ac fo p2 r36 (by first | omega | assumption | trivial | exact wt_of (by assumption) (by omega)) (by first | omega | assumption | trivial | exact wt_of (by assumption) (by omega))) (fun r39 c_t_acts_39 f_t_forms_39 h14 => ?_)
      have h14 : r39 = DI r36 ∧ c_t_acts_39 = ac + (1 : Int32) ∧ f_t_forms_39 = vp_updL fo p2.toNatClampNeg r36 := h14
      obtain ⟨h14_0, h14_1, h14_2⟩ := h14
      refine ok_s ?_
      show ok (F_X9_remain ac rf fo p0 p1 p2) (fun q => ((0 = 0 ∧ q.2.2.2.1.toInt = 0) ∨ (0 = 1 ∧ q.2.2.2.1.toInt = 1)) ∧ (0 = 0 → r39 = q.1) ∧ c_t_acts_39 = q.2.1 ∧ rf = q.2.2.1 ∧ f_t_forms_39 = q.2.2.2.2 ∧ FA q.2.2.2.2)
      unfold F_X9_remain
      refine ok_o2 (fx_X9_areNot p0 p1 p2 ) (fun r4_2 c_t_thrown_4_2 h15 => ?_)
      have h15 : (r4_2.toInt = 0 ∧ c_t_thrown_4_2.toInt = 0 ∧ 0 ≤ p0.toInt ∧ p0.toInt ≤ 5 ∧ 0 ≤ p1.toInt ∧ p1.toInt ≤ 5 ∧ 0 ≤ p2.toInt ∧ p2.toInt ≤ 5) ∨ (r4_2.toInt = 1 ∧ c_t_thrown_4_2.toInt = 1 ∧ (p0.toInt < 0 ∨ 5 < p0.toInt ∨ p1.toInt < 0 ∨ 5 < p1.toInt ∨ p2.toInt < 0 ∨ 5 < p2.toInt)) := h15
      refine ok_eq (fun c16 => ?_) (fun c16 => ?_)
      · refine ok_c (ixo (by omega) (by omega)) ?_
        try have a18 := FA_at (f := fo) (by assumption) p1.toNatClampNeg
        have z_c17 := DG_z (fo p1.toNatClampNeg)
        refine ok_eqL (fun c17 => ?_) (fun c17 => ?_)
        · exfalso; omega
        · refine ok_c (ixo (by omega) (by omega)) ?_
          refine ok_c (ixo (by omega) (by omega)) ?_
          try have a19 := FA_at (f := fo) (by assumption) p0.toNatClampNeg
          try have a20 := FA_at (f := fo) (by assumption) p1.toNatClampNeg
          refine ok_o (fx_X9_restOf (fo p0.toNatClampNeg) (fo p1.toNatClampNeg) (by first | omega | assumption | trivial | exact wt_of (by assumption) (by omega)) (by first | omega | assumption | trivial | exact wt_of (by assumption) (by omega)) (by first | omega | assumption | trivial | exact wt_of (by assumption) (by omega))) (fun r44 h21 => ?_)
          have h21 : -1 ≤ DG r44 ∧ DG r44 < DG (fo p1.toNatClampNeg) ∧ DG r44 ≤ DG (fo p0.toNatClampNeg) ∧ r44 = rL (fo p0.toNatClampNeg) (fo p1.toNatClampNeg) := h21
          obtain ⟨h21_0, h21_1, h21_2, h21_3⟩ := h21
          refine ok_o3 (fx_X9_give ac fo p2 r44 (by first | omega | assumption | trivial | exact wt_of (by assumption) (by omega)) (by first | omega | assumption | trivial | exact wt_of (by assumption) (by omega)) (by first | omega | assumption | trivial | exact wt_of (by assumption) (by omega)) (by first | omega | assumption | trivial | exact wt_of (by assumption) (by omega))) (fun r47 c_t_acts_47 f_t_forms_47 h22 => ?_)
          have h22 : r47 = DI r44 ∧ c_t_acts_47 = ac + (1 : Int32) ∧ f_t_forms_47 = vp_updL fo p2.toNatClampNeg r44 ∧ FA f_t_forms_47 := h22
          obtain ⟨h22_0, h22_1, h22_2, h22_3⟩ := h22
          refine ok_s (show ((0 = 0 ∧ c_t_thrown_4_2.toInt = 0) ∨ (0 = 1 ∧ c_t_thrown_4_2.toInt = 1)) ∧ (0 = 0 → r39 = r47) ∧ c_t_acts_39 = c_t_acts_47 ∧ rf = rf ∧ f_t_forms_39 = f_t_forms_47 ∧ FA f_t_forms_47 from ?_)
          first | (exfalso; omega) | (subst_vars; first | (exfalso; omega) | (refine ⟨?_, ?_, ?_, ?_, ?_, ?_⟩ <;> (first | assumption | rfl | omega | (intro hx; first | rfl | assumption | (exfalso; omega) | exact Int32.toInt_inj.mp (by omega)) | exact Int32.toInt_inj.mp (by omega) | (rw [uu_a, uu_a]))))
      · exfalso; omega
  · refine ok_s ?_
    show ok (F_X9_remain ac rf fo p0 p1 p2) (fun q => ((xc3 = 0 ∧ q.2.2.2.1.toInt = 0) ∨ (xc3 = 1 ∧ q.2.2.2.1.toInt = 1)) ∧ (xc3 = 0 → (0 : Int32) = q.1) ∧ ac = q.2.1 ∧ rf = q.2.2.1 ∧ fo = q.2.2.2.2 ∧ FA q.2.2.2.2)
    unfold F_X9_remain
    refine ok_o2 (fx_X9_areNot p0 p1 p2 ) (fun r4_3 c_t_thrown_4_3 h23 => ?_)
    have h23 : (r4_3.toInt = 0 ∧ c_t_thrown_4_3.toInt = 0 ∧ 0 ≤ p0.toInt ∧ p0.toInt ≤ 5 ∧ 0 ≤ p1.toInt ∧ p1.toInt ≤ 5 ∧ 0 ≤ p2.toInt ∧ p2.toInt ≤ 5) ∨ (r4_3.toInt = 1 ∧ c_t_thrown_4_3.toInt = 1 ∧ (p0.toInt < 0 ∨ 5 < p0.toInt ∨ p1.toInt < 0 ∨ 5 < p1.toInt ∨ p2.toInt < 0 ∨ 5 < p2.toInt)) := h23
    refine ok_eq (fun c24 => ?_) (fun c24 => ?_)
    · exfalso; omega
    · refine ok_s (show ((xc3 = 0 ∧ c_t_thrown_4_3.toInt = 0) ∨ (xc3 = 1 ∧ c_t_thrown_4_3.toInt = 1)) ∧ (xc3 = 0 → (0 : Int32) = (0 : Int32)) ∧ ac = ac ∧ rf = rf ∧ fo = fo ∧ FA fo from ?_)
      first | (exfalso; omega) | (subst_vars; first | (exfalso; omega) | (refine ⟨?_, ?_, ?_, ?_, ?_, ?_⟩ <;> (first | assumption | rfl | omega | (intro hx; first | rfl | assumption | (exfalso; omega) | exact Int32.toInt_inj.mp (by omega)) | exact Int32.toInt_inj.mp (by omega) | (rw [uu_a, uu_a]))))
set_option maxHeartbeats 1000000 in
theorem s7_common (ac : Int32) (fo : Nat → Int64) (p0 : Int32) (p1 : Int32) (p2 : Int32) (hp0 : FA fo) : ok (F_X7_common ac fo p0 p1 p2) (fun r => ok (F_X9_common ac fo p0 p1 p2) (fun q => ((r.1 = 0 ∧ q.2.2.1.toInt = 0) ∨ (r.1 = 1 ∧ q.2.2.1.toInt = 1)) ∧ (r.1 = 0 → r.2.1 = q.1) ∧ r.2.2.1 = q.2.1 ∧ r.2.2.2 = q.2.2.2 ∧ FA q.2.2.2)) := by
  have l032 : (0 : Int32).toInt = 0 := by decide
  unfold F_X7_common
  refine ok_o (fx_X7_testForms p0 p1 p2 ) (fun xc3 h1 => ?_)
  have h1 : (xc3 = 0 ∧ 0 ≤ p0.toInt ∧ p0.toInt ≤ 5 ∧ 0 ≤ p1.toInt ∧ p1.toInt ≤ 5 ∧ 0 ≤ p2.toInt ∧ p2.toInt ≤ 5) ∨ (xc3 = 1 ∧ (p0.toInt < 0 ∨ 5 < p0.toInt ∨ p1.toInt < 0 ∨ 5 < p1.toInt ∨ p2.toInt < 0 ∨ 5 < p2.toInt)) := h1
  refine ok_i (fun c2 => ?_) (fun c2 => ?_)
  · refine ok_c (ixo (by omega) (by omega)) ?_
    refine ok_c (ixo (by omega) (by omega)) ?_
    try have a3 := FA_at (f := fo) (by assumption) p0.toNatClampNeg
    try have a4 := FA_at (f := fo) (by assumption) p1.toNatClampNeg
    refine ok_o (fx_X0_greatestBoth (fo p0.toNatClampNeg) (fo p1.toNatClampNeg) (by first | omega | assumption | trivial | exact wt_of (by assumption) (by omega)) (by first | omega | assumption | trivial | exact wt_of (by assumption) (by omega))) (fun r20 h5 => ?_)
    have h5 : r20 = gL (fo p0.toNatClampNeg) (fo p1.toNatClampNeg) := h5
    refine ok_o3 (fx_X7_become ac fo p2 r20 (by first | omega | assumption | trivial | exact wt_of (by assumption) (by omega)) (by first | omega | assumption | trivial | exact wt_of (by assumption) (by omega))) (fun r23 c_t_acts_23 f_t_forms_23 h6 => ?_)
    have h6 : r23 = DI r20 ∧ c_t_acts_23 = ac + (1 : Int32) ∧ f_t_forms_23 = vp_updL fo p2.toNatClampNeg r20 := h6
    obtain ⟨h6_0, h6_1, h6_2⟩ := h6
    refine ok_s ?_
    show ok (F_X9_common ac fo p0 p1 p2) (fun q => ((0 = 0 ∧ q.2.2.1.toInt = 0) ∨ (0 = 1 ∧ q.2.2.1.toInt = 1)) ∧ (0 = 0 → r23 = q.1) ∧ c_t_acts_23 = q.2.1 ∧ f_t_forms_23 = q.2.2.2 ∧ FA q.2.2.2)
    unfold F_X9_common
    refine ok_o2 (fx_X9_areNot p0 p1 p2 ) (fun r4 c_t_thrown_4 h7 => ?_)
    have h7 : (r4.toInt = 0 ∧ c_t_thrown_4.toInt = 0 ∧ 0 ≤ p0.toInt ∧ p0.toInt ≤ 5 ∧ 0 ≤ p1.toInt ∧ p1.toInt ≤ 5 ∧ 0 ≤ p2.toInt ∧ p2.toInt ≤ 5) ∨ (r4.toInt = 1 ∧ c_t_thrown_4.toInt = 1 ∧ (p0.toInt < 0 ∨ 5 < p0.toInt ∨ p1.toInt < 0 ∨ 5 < p1.toInt ∨ p2.toInt < 0 ∨ 5 < p2.toInt)) := h7
    refine ok_eq (fun c8 => ?_) (fun c8 => ?_)
    · refine ok_c (ixo (by omega) (by omega)) ?_
      refine ok_c (ixo (by omega) (by omega)) ?_
      try have a9 := FA_at (f := fo) (by assumption) p0.toNatClampNeg
      try have a10 := FA_at (f := fo) (by assumption) p1.toNatClampNeg
      refine ok_o (fx_X9_commonOf (fo p0.toNatClampNeg) (fo p1.toNatClampNeg) (by first | omega | assumption | trivial | exact wt_of (by assumption) (by omega)) (by first | omega | assumption | trivial | exact wt_of (by assumption) (by omega))) (fun r28 h11 => ?_)
      have h11 : DG r28 ≤ 39 ∧ r28 = gL (fo p0.toNatClampNeg) (fo p1.toNatClampNeg) := h11
      obtain ⟨h11_0, h11_1⟩ := h11
      refine ok_o3 (fx_X9_give ac fo p2 r28 (by first | omega | assumption | trivial | exact wt_of (by assumption) (by omega)) (by first | omega | assumption | trivial | exact wt_of (by assumption) (by omega)) (by first | omega | assumption | trivial | exact wt_of (by assumption) (by omega)) (by first | omega | assumption | trivial | exact wt_of (by assumption) (by omega))) (fun r31 c_t_acts_31 f_t_forms_31 h12 => ?_)
      have h12 : r31 = DI r28 ∧ c_t_acts_31 = ac + (1 : Int32) ∧ f_t_forms_31 = vp_updL fo p2.toNatClampNeg r28 ∧ FA f_t_forms_31 := h12
      obtain ⟨h12_0, h12_1, h12_2, h12_3⟩ := h12
      refine ok_s (show ((0 = 0 ∧ c_t_thrown_4.toInt = 0) ∨ (0 = 1 ∧ c_t_thrown_4.toInt = 1)) ∧ (0 = 0 → r23 = r31) ∧ c_t_acts_23 = c_t_acts_31 ∧ f_t_forms_23 = f_t_forms_31 ∧ FA f_t_forms_31 from ?_)
      first | (exfalso; omega) | (subst_vars; first | (exfalso; omega) | (refine ⟨?_, ?_, ?_, ?_, ?_⟩ <;> (first | assumption | rfl | omega | (intro hx; first | rfl | assumption | (exfalso; omega) | exact Int32.toInt_inj.mp (by omega)) | exact Int32.toInt_inj.mp (by omega) | (rw [uu_a, uu_a]))))
    · exfalso; omega
  · refine ok_s ?_
    show ok (F_X9_common ac fo p0 p1 p2) (fun q => ((xc3 = 0 ∧ q.2.2.1.toInt = 0) ∨ (xc3 = 1 ∧ q.2.2.1.toInt = 1)) ∧ (xc3 = 0 → (0 : Int32) = q.1) ∧ ac = q.2.1 ∧ fo = q.2.2.2 ∧ FA q.2.2.2)
    unfold F_X9_common
    refine ok_o2 (fx_X9_areNot p0 p1 p2 ) (fun r4_2 c_t_thrown_4_2 h13 => ?_)
    have h13 : (r4_2.toInt = 0 ∧ c_t_thrown_4_2.toInt = 0 ∧ 0 ≤ p0.toInt ∧ p0.toInt ≤ 5 ∧ 0 ≤ p1.toInt ∧ p1.toInt ≤ 5 ∧ 0 ≤ p2.toInt ∧ p2.toInt ≤ 5) ∨ (r4_2.toInt = 1 ∧ c_t_thrown_4_2.toInt = 1 ∧ (p0.toInt < 0 ∨ 5 < p0.toInt ∨ p1.toInt < 0 ∨ 5 < p1.toInt ∨ p2.toInt < 0 ∨ 5 < p2.toInt)) := h13
    refine ok_eq (fun c14 => ?_) (fun c14 => ?_)
    · exfalso; omega
    · refine ok_s (show ((xc3 = 0 ∧ c_t_thrown_4_2.toInt = 0) ∨ (xc3 = 1 ∧ c_t_thrown_4_2.toInt = 1)) ∧ (xc3 = 0 → (0 : Int32) = (0 : Int32)) ∧ ac = ac ∧ fo = fo ∧ FA fo from ?_)
      first | (exfalso; omega) | (subst_vars; first | (exfalso; omega) | (refine ⟨?_, ?_, ?_, ?_, ?_⟩ <;> (first | assumption | rfl | omega | (intro hx; first | rfl | assumption | (exfalso; omega) | exact Int32.toInt_inj.mp (by omega)) | exact Int32.toInt_inj.mp (by omega) | (rw [uu_a, uu_a]))))
