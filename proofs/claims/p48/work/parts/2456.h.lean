/-! S11. the house, again: walks by hand -/
theorem s7_house (ac rf kn sz : Int32) (fo : Nat → Int64) (ta : Int64) (ce p0 : Int32) (hp0 : FA fo) (hp1 : 0 ≤ sz.toInt) (hp2 : sz.toInt ≤ 12) (hp3 : CT ta ce) : ok (F_X7_house ac rf kn fo sz ta p0) (fun r => ok (F_X9_house sz ta ac rf kn fo p0) (fun q => ((r.1 = 0 ∧ q.2.toInt = 0) ∨ (r.1 = 2 ∧ q.2.toInt = 1)) ∧ (r.1 = 0 → r.2 = q.1))) := by
  have l0 : (0 : Int32).toInt = 0 := by decide
  have l1 : (1 : Int32).toInt = 1 := by decide
  have l5 : (5 : Int32).toInt = 5 := by decide
  refine ok_w (ho_7 sz ta ac rf kn fo p0) (fun r hr => ?_)
  have bad : r.1 = 2 → ok (obn2 (F_X9_isThrown_ (1 : Int32)) (fun r15 c_t_thrown_15 => (if r15 = 0 then obn (F_X9_told sz ta ac rf kn fo p0) (fun r27 => some (r27, c_t_thrown_15)) else some ((0 : Int32), c_t_thrown_15)))) (fun q => ((r.1 = 0 ∧ q.2.toInt = 0) ∨ (r.1 = 2 ∧ q.2.toInt = 1)) ∧ (r.1 = 0 → r.2 = q.1)) := fun e1 => by
    refine ok_o2 (sp_X9_isThrown_ (1 : Int32)) (fun a t h3 => ?_)
    have h3 : (a.toInt = 0 ∧ t.toInt = 0 ∧ (1 : Int32).toInt = 0) ∨ (a.toInt = 1 ∧ t.toInt = 1 ∧ (1 : Int32).toInt ≠ 0) := h3
    rw [if_neg (fun h9 => by rw [h9] at h3; omega)]
    exact ok_s ⟨Or.inr ⟨e1, show t.toInt = 1 by omega⟩, fun h9 => by omega⟩
  unfold F_X9_house
  by_cases h0 : p0 < 0
  · rw [if_pos h0]
    rw [Int32.lt_iff_toInt_lt, l0] at h0
    rcases hr with ⟨_, h, _⟩ | ⟨e1, _⟩
    · omega
    · exact bad e1
  · rw [if_neg h0]
    rw [Int32.lt_iff_toInt_lt, l0] at h0
    by_cases h5 : p0 ≤ (5 : Int32)
    · rw [if_pos h5]
      rw [Int32.le_iff_toInt_le, l5] at h5
      rcases hr with ⟨e1, _, _, e2⟩ | ⟨_, h⟩
      · refine ok_o2 (sp_X9_isThrown_ (0 : Int32)) (fun a t h3 => ?_)
        have h3 : (a.toInt = 0 ∧ t.toInt = 0 ∧ (0 : Int32).toInt = 0) ∨ (a.toInt = 1 ∧ t.toInt = 1 ∧ (0 : Int32).toInt ≠ 0) := h3
        rw [if_pos (Int32.toInt_inj.mp (by rw [l0]; omega)), to_9, obn_s]
        exact ok_s ⟨Or.inl ⟨e1, show t.toInt = 0 by omega⟩, fun _ => e2⟩
      · omega
    · rw [if_neg h5]
      rw [Int32.le_iff_toInt_le, l5] at h5
      rcases hr with ⟨_, _, h, _⟩ | ⟨e1, _⟩
      · omega
      · exact bad e1
theorem s7_again (ta : Int64) (ce : Int32) (h : CT ta ce) : ok (F_X7_again ta (ce.toInt64)) (fun r => ok (F_X9_again ta ce) (fun q => r = q.1)) := by
  obtain ⟨w, x, h9, hw, ho, rfl, hx, rfl⟩ := h
  have hb9 : bl w ≤ 9 := bl_le.mpr (by omega)
  have h8 := Nat.pow_le_pow_right (show 0 < 2 by decide) (show bl w - 1 ≤ 8 by omega)
  unfold F_X7_again
  rw [nI_l (by omega), x5_again h9 hw ho hx, obn_s]
  refine ok_s (show ok (F_X9_again (lN w) (nI x)) (fun q => nI (agN w x) = q.1) from ?_)
  rw [x9_again h9 hw ho hx]
  exact ok_s rfl
