/-! M3. degrees as whole numbers: what the operations do to them -/
theorem obn_s {α β : Type} (a : α) (k : α → Option β) : obn (some a) k = k a := rfl
theorem DG_of (x : Int64) : ∃ n, n < 2 ^ 64 ∧ x = lN n ∧ DG x = (bl n : Int) - 1 := by
  obtain ⟨n, hn, rfl⟩ := wb_of x
  exact ⟨n, hn, rfl, DG_lN hn⟩
theorem DG_ge (x : Int64) : -1 ≤ DG x := by
  unfold DG; omega
theorem DG_63 (x : Int64) : DG x ≤ 63 := by
  obtain ⟨n, hn, _, h⟩ := DG_of x
  have : bl n ≤ 64 := bl_le.mpr hn
  omega
theorem DG_fo {x : Int64} {k : Nat} (h : DG x < k) : ∃ n, n < 2 ^ k ∧ n < 2 ^ 64 ∧ x = lN n ∧ DG x = (bl n : Int) - 1 := by
  obtain ⟨n, hn, h1, h2⟩ := DG_of x
  exact ⟨n, bl_le.mp (by omega), hn, h1, h2⟩
theorem DG_0 : DG (0 : Int64) = -1 := by decide +kernel
theorem DG_1 : DG (1 : Int64) = 0 := by decide +kernel
theorem DG_2 : DG (2 : Int64) = 1 := by decide +kernel
theorem DG_z (x : Int64) : (x.toInt = 0 ∧ DG x = -1) ∨ (x.toInt ≠ 0 ∧ 0 ≤ DG x) := by
  obtain ⟨n, hn, rfl, h⟩ := DG_of x
  by_cases h0 : n = 0
  · subst h0
    exact Or.inl ⟨rfl, by rw [h, bl_0]; rfl⟩
  · have := bl_pos h0
    refine Or.inr ⟨fun h9 => h0 ?_, by omega⟩
    have e : lN n = lN 0 := Int64.toInt_inj.mp (by rw [h9]; rfl)
    have e2 := congrArg (fun q : Int64 => q.toBitVec.toNat) e
    simp only [wb_tn hn, wb_tn (show 0 < 2 ^ 64 by decide)] at e2
    exact e2
theorem DG_pos {x : Int64} (h : DG x ≤ 62) : 0 ≤ x.toInt := by
  obtain ⟨n, hn, _, rfl, _⟩ := DG_fo (x := x) (k := 63) (by omega)
  rw [pf_lI hn]
  omega
theorem DG_T {x : Int64} {k : Nat} (hk : k ≤ 63) (h : DG x < k) : 0 ≤ x.toInt ∧ x.toInt < 2 ^ k := by
  obtain ⟨n, hn, _, rfl, _⟩ := DG_fo h
  have h2 : n < 2 ^ 63 := Nat.lt_of_lt_of_le hn (Nat.pow_le_pow_right (by decide) hk)
  rw [pf_lI h2]
  exact ⟨by omega, by exact_mod_cast hn⟩
theorem DG_xor {x y : Int64} {k : Int} (hx : DG x ≤ k) (hy : DG y ≤ k) : DG (x ^^^ y) ≤ k := by
  obtain ⟨a, ha, rfl, h1⟩ := DG_of x
  obtain ⟨b, hb, rfl, h2⟩ := DG_of y
  rw [lN_xor, DG_lN (Nat.xor_lt_two_pow ha hb)]
  have := bl_xor (a := a) (b := b) (k := (k + 1).toNat) (by omega) (by omega)
  omega
theorem DG_or {x y : Int64} {k : Int} (hx : DG x ≤ k) (hy : DG y ≤ k) : DG (x ||| y) ≤ k := by
  obtain ⟨a, ha, rfl, h1⟩ := DG_of x
  obtain ⟨b, hb, rfl, h2⟩ := DG_of y
  rw [wb_or ha hb, DG_lN (Nat.or_lt_two_pow ha hb)]
  have := bl_le.mpr (Nat.or_lt_two_pow (bl_le.mp (show bl a ≤ (k + 1).toNat by omega)) (bl_le.mp (show bl b ≤ (k + 1).toNat by omega)))
  omega
theorem DG_and (x y : Int64) : DG (x &&& y) ≤ DG x := by
  obtain ⟨a, ha, rfl, h1⟩ := DG_of x
  obtain ⟨b, hb, rfl, h2⟩ := DG_of y
  rw [wb_and ha hb, DG_lN (Nat.and_lt_two_pow _ hb), h1]
  have := bl_mono (a := a &&& b) (b := a) Nat.and_le_left
  omega
theorem DG_and2 (x y : Int64) : DG (x &&& y) ≤ DG y := by
  obtain ⟨a, ha, rfl, h1⟩ := DG_of x
  obtain ⟨b, hb, rfl, h2⟩ := DG_of y
  rw [wb_and ha hb, DG_lN (Nat.and_lt_two_pow _ hb), h2]
  have := bl_mono (a := a &&& b) (b := b) Nat.and_le_right
  omega
theorem DG_a1 (x : Int64) : DG (x &&& (1 : Int64)) ≤ 0 := Int.le_trans (DG_and2 x 1) (by rw [DG_1]; decide)
theorem DG_shl {x : Int64} {k : Int32} (h0 : 0 ≤ k.toInt) (h1 : k.toInt ≤ 63) (h : DG x + k.toInt ≤ 63) : (DG x = -1 ∧ DG (x <<< (k.toInt64 &&& 63)) = -1) ∨ (0 ≤ DG x ∧ DG (x <<< (k.toInt64 &&& 63)) = DG x + k.toInt) := by
  obtain ⟨a, ha, rfl, h2⟩ := DG_of x
  obtain ⟨j, hj, rfl⟩ := i_of (n := 63) h0 h1
  rw [nI_toInt (by omega)] at h ⊢
  rw [wb_shl a (by omega)]
  by_cases h9 : a = 0
  · subst h9
    rw [Nat.zero_mul]
    exact Or.inl ⟨DG_0, DG_0⟩
  · have hp := bl_pos h9
    have e := bl_shl (k := j) h9
    rw [Nat.shiftLeft_eq] at e
    have hl : a * 2 ^ j < 2 ^ 64 := bl_le.mp (by omega)
    rw [DG_lN hl, h2, e]
    exact Or.inr ⟨by omega, by omega⟩
theorem DG_shr {x : Int64} {k : Int32} (h0 : 0 ≤ k.toInt) (h1 : k.toInt ≤ 63) (h : DG x ≤ 61) : DG (x >>> (k.toInt64 &&& 63)) ≤ DG x := by
  obtain ⟨a, ha, ha2, rfl, h2⟩ := DG_fo (x := x) (k := 62) (by omega)
  obtain ⟨j, hj, rfl⟩ := i_of (n := 63) h0 h1
  rw [sh_r ha (by omega), DG_lN (Nat.lt_of_le_of_lt (Nat.div_le_self _ _) ha2), h2]
  have := bl_mono (Nat.div_le_self a (2 ^ j))
  omega
theorem DG_shlx {x : Int64} {k : Int32} {b : Int} (h0 : 0 ≤ k.toInt) (h1 : k.toInt ≤ 63) (h : DG x + k.toInt ≤ b) (hb : b ≤ 63) (hm : -1 ≤ b) : DG (x <<< (k.toInt64 &&& 63)) ≤ b := by
  rcases DG_shl (x := x) h0 h1 (by omega) with ⟨_, h2⟩ | ⟨_, h2⟩ <;> omega
theorem DG_i2 {p : Int32} (h : 0 ≤ p.toInt) : DG p.toInt64 ≤ 30 := by
  have h2 := p.toInt_lt
  have := DG_lt (x := p.toInt64) (k := 31) (by rw [Int32.toInt_toInt64]; exact h) (by rw [Int32.toInt_toInt64]; omega)
  omega
theorem DG_byN : ∀ n, n < 65 → 2 ≤ n → (n ≤ 63 ∧ 2 ≤ bl n ∧ bl n ≤ 6) ∨ (n = 64 ∧ bl n = 7) := by decide +kernel
theorem DG_by {x : Int64} (h0 : 2 ≤ x.toInt) (h1 : x.toInt ≤ 64) : (x.toInt ≤ 63 ∧ 1 ≤ DG x ∧ DG x ≤ 5) ∨ (x.toInt = 64 ∧ DG x = 6) := by
  have hl := DG_lt (x := x) (k := 7) (by omega) (by omega)
  obtain ⟨n, hn, hn2, rfl, h⟩ := DG_fo hl
  rw [pf_lI (by omega)] at h0 h1 ⊢
  have := DG_byN n (by omega) (by omega)
  omega
/-- an array of forms -/
noncomputable def FA (f : Nat → Int64) : Prop := ∀ k, DG (f k) ≤ 39
theorem FA_at {f : Nat → Int64} (h : FA f) (k : Nat) : -1 ≤ DG (f k) ∧ DG (f k) ≤ 39 := ⟨DG_ge _, h k⟩
theorem FA_upd {f : Nat → Int64} {v : Int64} (h : FA f) (i : Nat) (hv : DG v ≤ 39) : FA (vp_updL f i v) := fun k => by
  show DG (if k = i then v else f k) ≤ 39
  split
  · exact hv
  · exact h k
theorem FA_0 : FA (fun _ => (0 : Int64)) := fun _ => by rw [DG_0]; decide
theorem and127 (x : Int32) : 0 ≤ (x &&& 127).toInt ∧ (x &&& 127).toInt ≤ 127 := by
  have h : (x &&& 127).toBitVec.toNat ≤ 127 := by
    rw [Int32.toBitVec_and, BitVec.toNat_and]
    exact Nat.le_trans Nat.and_le_right (by decide)
  have c := BitVec.toInt_eq_toNat_cond (x &&& 127).toBitVec
  show 0 ≤ (x &&& 127).toBitVec.toInt ∧ (x &&& 127).toBitVec.toInt ≤ 127
  rw [c]
  split <;> omega
/-! the reference's forms -/
theorem sp_X9_degreeOf (p0 : Int64) : ok (F_X9_degreeOf p0) (fun r => r.toInt = DG p0 ∧ -1 ≤ r.toInt ∧ r.toInt ≤ 63) := by
  obtain ⟨n, hn, rfl⟩ := wb_of p0
  have h1 := dgI_T hn
  have h2 : bl n ≤ 64 := bl_le.mpr hn
  have h3 := DG_lN hn
  rw [x9_deg hn]
  exact ok_s (show (dgI n).toInt = DG (lN n) ∧ -1 ≤ (dgI n).toInt ∧ (dgI n).toInt ≤ 63 from by omega)
theorem ok_bc (p0 : Int64) : ok (F_J13_bitCount_95d88 p0) (fun r => 0 ≤ r.toInt ∧ r.toInt ≤ 127) := by
  unfold F_J13_bitCount_95d88
  exact ok_s (and127 _)
theorem sp_X9_onesOf (p0 : Int64) : ok (F_X9_onesOf p0) (fun r => 0 ≤ r.toInt ∧ r.toInt ≤ 127) := by
  unfold F_X9_onesOf
  exact ok_o (ok_bc p0) (fun r h => ok_s h)
theorem sp_X9_productOf (p0 : Int64) (p1 : Int64) (hp0 : DG p0 + DG p1 ≤ 61) (hp1 : DG p1 ≤ 39) : ok (F_X9_productOf p0 p1) (fun r => ((DG p0 = -1 ∨ DG p1 = -1) ∧ DG r = -1) ∨ (0 ≤ DG p0 ∧ 0 ≤ DG p1 ∧ DG r = DG p0 + DG p1)) := by
  obtain ⟨a, ha, rfl, h1⟩ := DG_of p0
  obtain ⟨b, hb, hb2, rfl, h2⟩ := DG_fo (x := p1) (k := 40) (by omega)
  rw [x9_prodc hb]
  refine ok_s ?_
  by_cases ha0 : a = 0
  · subst ha0
    rw [cl_0l]
    exact Or.inl ⟨Or.inl DG_0, DG_0⟩
  · by_cases hb0 : b = 0
    · subst hb0
      rw [cl_0r]
      exact Or.inl ⟨Or.inr DG_0, DG_0⟩
    · have e := cl_bl ha0 hb0 hb2
      have p1 := bl_pos ha0
      have p2 := bl_pos hb0
      have hl : cl a b < 2 ^ 64 := bl_le.mp (by omega)
      rw [DG_lN hl]
      exact Or.inr ⟨by omega, by omega, by omega⟩
theorem quo_bl {f b : Nat} (hb : b ≠ 0) (hf : f < 2 ^ 62) (hb2 : b < 2 ^ 62) (h : bl b ≤ bl f) : bl (quo f b) = bl f + 1 - bl b := by
  obtain ⟨e, h1, h2⟩ := dm_spec hb hf hb2
  have p1 := bl_pos hb
  have q2 : bl (quo f b) ≤ dvu f b := bl_le.mpr h2
  have r1 : bl (rst f b) ≤ bl b - 1 := bl_le.mpr h1
  by_cases hq : quo f b = 0
  · exfalso
    rw [hq, cl_0r, Nat.zero_xor] at e
    rw [e] at r1
    omega
  · have f1 : bl f ≤ 62 := bl_le.mpr hf
    have p2 := bl_pos hq
    have c1 := cl_bl hb hq (bl_le.mp (by unfold dvu at q2; omega))
    have c2 : bl (cl b (quo f b)) ≤ bl f := by
      have : cl b (quo f b) = f ^^^ rst f b := by
        have := mx_xx (cl b (quo f b)) (rst f b)
        rw [e] at this; exact this.symm
      rw [this]
      exact bl_xor (Nat.le_refl _) (by omega)
    have c3 : bl f ≤ bl (cl b (quo f b)) := by
      rcases Nat.lt_or_ge (bl (cl b (quo f b))) (bl f) with h9 | h9
      · exfalso
        have := bl_xor (a := cl b (quo f b)) (b := rst f b) (k := bl f - 1) (by omega) (by omega)
        rw [e] at this
        omega
      · exact h9
    omega
theorem quo_bl0 {f b : Nat} (h : bl f < bl b) : quo f b = 0 := by
  rw [quo, show dvu f b = 0 by rw [dvu]; omega]
  rfl
theorem rst_bl {f b : Nat} (hb : b ≠ 0) (hf : f < 2 ^ 62) (hb2 : b < 2 ^ 62) : bl (rst f b) < bl b ∧ bl (rst f b) ≤ bl f := by
  obtain ⟨e, h1, h2⟩ := dm_spec hb hf hb2
  have p1 := bl_pos hb
  have r1 : bl (rst f b) ≤ bl b - 1 := bl_le.mpr h1
  refine ⟨by omega, ?_⟩
  rcases Nat.lt_or_ge (bl f) (bl b) with h | h
  · rw [quo_bl0 h, cl_0r, Nat.zero_xor] at e
    rw [e]
    exact Nat.le_refl _
  · omega
theorem sp_X9_quotientOf (p0 : Int64) (p1 : Int64) (hp0 : 0 ≤ DG p1) (hp1 : DG p0 ≤ 60) (hp2 : DG p1 ≤ 60) : ok (F_X9_quotientOf p0 p1) (fun r => (DG p0 < DG p1 ∧ DG r = -1) ∨ (DG p1 ≤ DG p0 ∧ DG r = DG p0 - DG p1)) := by
  obtain ⟨a, ha, ha2, rfl, h1⟩ := DG_fo (x := p0) (k := 61) (by omega)
  obtain ⟨b, hb, hb2, rfl, h2⟩ := DG_fo (x := p1) (k := 61) (by omega)
  have hb0 : b ≠ 0 := fun h => by subst h; rw [bl_0] at h2; omega
  rw [x9_quo hb0 ha hb]
  refine ok_s ?_
  rcases Nat.lt_or_ge (bl a) (bl b) with h | h
  · rw [quo_bl0 h]
    exact Or.inl ⟨by omega, DG_0⟩
  · have e := quo_bl hb0 (by omega) (by omega) h
    have h3 : bl a ≤ 61 := bl_le.mpr ha
    have p := bl_pos hb0
    rw [DG_lN (n := quo a b) (bl_le.mp (by omega))]
    exact Or.inr ⟨by omega, by omega⟩
theorem sp_X9_restOf (p0 : Int64) (p1 : Int64) (hp0 : 0 ≤ DG p1) (hp1 : DG p0 ≤ 60) (hp2 : DG p1 ≤ 39) : ok (F_X9_restOf p0 p1) (fun r => -1 ≤ DG r ∧ DG r < DG p1 ∧ DG r ≤ DG p0) := by
  obtain ⟨a, ha, ha2, rfl, h1⟩ := DG_fo (x := p0) (k := 61) (by omega)
  obtain ⟨b, hb, hb2, rfl, h2⟩ := DG_fo (x := p1) (k := 40) (by omega)
  have hb0 : b ≠ 0 := fun h => by subst h; rw [bl_0] at h2; omega
  rw [x9_rest hb0 ha hb]
  refine ok_s ?_
  have hb3 : b < 2 ^ 62 := by omega
  obtain ⟨r1, r2⟩ := rst_bl hb0 (show a < 2 ^ 62 by omega) hb3
  have h3 : bl b ≤ 40 := bl_le.mpr hb
  rw [DG_lN (n := rst a b) (bl_le.mp (by omega))]
  exact ⟨by omega, by omega, by omega⟩
