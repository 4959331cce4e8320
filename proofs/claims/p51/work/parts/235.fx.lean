/-! what both answer: forms -/
noncomputable def tn (x : Int64) : Nat := x.toBitVec.toNat
theorem tn_lN {n : Nat} (h : n < 2 ^ 64) : tn (lN n) = n := wb_tn h
theorem lN_tn (x : Int64) : lN (tn x) = x := by
  obtain ⟨n, hn, rfl⟩ := wb_of x
  rw [tn_lN hn]
theorem tn_lt {x : Int64} {k : Nat} (h : DG x < k) : tn x < 2 ^ k := by
  obtain ⟨n, hn, hn2, rfl, _⟩ := DG_fo h
  rw [tn_lN hn2]; exact hn
theorem tn_0 {x : Int64} (h : DG x = -1) : x = 0 := by
  rcases DG_z x with ⟨a, _⟩ | ⟨_, b⟩
  · exact Int64.toInt_inj.mp a
  · omega
noncomputable def cL (x y : Int64) : Int64 := lN (cl (tn x) (tn y))
noncomputable def qL (x y : Int64) : Int64 := lN (quo (tn x) (tn y))
noncomputable def rL (x y : Int64) : Int64 := lN (rst (tn x) (tn y))
noncomputable def gL (x y : Int64) : Int64 := lN (co (tn x) (tn y))
noncomputable def uL (x : Int64) : Int64 := lN (tN (tn x))
noncomputable def pL (x : Int64) (k : Int32) (y : Int64) : Int64 := lN (pw (tn y) (rst (tn x) (tn y)) k.toInt.toNat)
theorem fx_X0_multiplied (p0 p1 : Int64) (h : DG p1 ≤ 60) : ok (F_X0_multiplied p0 p1) (fun r => r = cL p0 p1) := by
  obtain ⟨a, ha, rfl, h1⟩ := DG_of p0
  obtain ⟨b, hb, hb2, rfl, h2⟩ := DG_fo (x := p1) (k := 61) (by omega)
  rw [x0_mul (by omega), cL, tn_lN ha, tn_lN hb2]
  exact ok_s rfl
theorem fx_X9_productOf (p0 p1 : Int64) (hp0 : DG p0 + DG p1 ≤ 61) (hp1 : DG p1 ≤ 39) : ok (F_X9_productOf p0 p1) (fun r => (((DG p0 = -1 ∨ DG p1 = -1) ∧ DG r = -1) ∨ (0 ≤ DG p0 ∧ 0 ≤ DG p1 ∧ DG r = DG p0 + DG p1)) ∧ r = cL p0 p1) := by
  obtain ⟨r, e, h⟩ := sp_X9_productOf p0 p1 hp0 hp1
  refine ⟨r, e, h, ?_⟩
  obtain ⟨a, ha, rfl, h1⟩ := DG_of p0
  obtain ⟨b, hb, hb2, rfl, h2⟩ := DG_fo (x := p1) (k := 40) (by omega)
  rw [x9_prodc hb] at e
  rw [cL, tn_lN ha, tn_lN hb2]
  exact (Option.some.inj e).symm
theorem fx_X0_squared (p0 : Int64) (h : DG p0 ≤ 30) : ok (F_X0_squared p0) (fun r => r = cL p0 p0) := by
  obtain ⟨a, ha, ha2, rfl, h1⟩ := DG_fo (x := p0) (k := 31) (by omega)
  rw [x0_sq ha, cL, tn_lN ha2]
  exact ok_s rfl
theorem fx_X0_quotient (p0 p1 : Int64) (h0 : 0 ≤ DG p1) (h1 : DG p0 ≤ 60) (h2 : DG p1 ≤ 60) : ok (F_X0_quotient p0 p1) (fun r => r = qL p0 p1) := by
  obtain ⟨a, ha, ha2, rfl, e1⟩ := DG_fo (x := p0) (k := 61) (by omega)
  obtain ⟨b, hb, hb2, rfl, e2⟩ := DG_fo (x := p1) (k := 61) (by omega)
  rw [x0_quo (fun h => by subst h; rw [bl_0] at e2; omega) ha hb, qL, tn_lN ha2, tn_lN hb2]
  exact ok_s rfl
theorem fx_X9_quotientOf (p0 p1 : Int64) (h0 : 0 ≤ DG p1) (h1 : DG p0 ≤ 60) (h2 : DG p1 ≤ 60) : ok (F_X9_quotientOf p0 p1) (fun r => ((DG p0 < DG p1 ∧ DG r = -1) ∨ (DG p1 ≤ DG p0 ∧ DG r = DG p0 - DG p1)) ∧ r = qL p0 p1) := by
  obtain ⟨r, e, h⟩ := sp_X9_quotientOf p0 p1 h0 h1 h2
  refine ⟨r, e, h, ?_⟩
  obtain ⟨a, ha, ha2, rfl, e1⟩ := DG_fo (x := p0) (k := 61) (by omega)
  obtain ⟨b, hb, hb2, rfl, e2⟩ := DG_fo (x := p1) (k := 61) (by omega)
  rw [x9_quo (fun h => by subst h; rw [bl_0] at e2; omega) ha hb] at e
  rw [qL, tn_lN ha2, tn_lN hb2]
  exact (Option.some.inj e).symm
theorem fx_X0_rest (p0 p1 : Int64) (h0 : 0 ≤ DG p1) (h1 : DG p0 ≤ 60) (h2 : DG p1 ≤ 60) : ok (F_X0_rest p0 p1) (fun r => r = rL p0 p1) := by
  obtain ⟨a, ha, ha2, rfl, e1⟩ := DG_fo (x := p0) (k := 61) (by omega)
  obtain ⟨b, hb, hb2, rfl, e2⟩ := DG_fo (x := p1) (k := 61) (by omega)
  rw [x0_rest (fun h => by subst h; rw [bl_0] at e2; omega) ha hb, rL, tn_lN ha2, tn_lN hb2]
  exact ok_s rfl
theorem fx_X9_restOf (p0 p1 : Int64) (h0 : 0 ≤ DG p1) (h1 : DG p0 ≤ 60) (h2 : DG p1 ≤ 39) : ok (F_X9_restOf p0 p1) (fun r => -1 ≤ DG r ∧ DG r < DG p1 ∧ DG r ≤ DG p0 ∧ r = rL p0 p1) := by
  obtain ⟨r, e, q1, q2, q3⟩ := sp_X9_restOf p0 p1 h0 h1 h2
  refine ⟨r, e, q1, q2, q3, ?_⟩
  obtain ⟨a, ha, ha2, rfl, e1⟩ := DG_fo (x := p0) (k := 61) (by omega)
  obtain ⟨b, hb, hb2, rfl, e2⟩ := DG_fo (x := p1) (k := 40) (by omega)
  rw [x9_rest (fun h => by subst h; rw [bl_0] at e2; omega) ha hb] at e
  rw [rL, tn_lN ha2, tn_lN hb2]
  exact (Option.some.inj e).symm
theorem fx_X0_greatestBoth (p0 p1 : Int64) (h1 : DG p0 ≤ 39) (h2 : DG p1 ≤ 39) : ok (F_X0_greatestBoth p0 p1) (fun r => r = gL p0 p1) := by
  obtain ⟨a, ha, ha2, rfl, e1⟩ := DG_fo (x := p0) (k := 40) (by omega)
  obtain ⟨b, hb, hb2, rfl, e2⟩ := DG_fo (x := p1) (k := 40) (by omega)
  rw [x0_gcd ha hb, gL, tn_lN ha2, tn_lN hb2]
  exact ok_s rfl
theorem fx_X9_commonOf (p0 p1 : Int64) (h1 : DG p0 ≤ 39) (h2 : DG p1 ≤ 39) : ok (F_X9_commonOf p0 p1) (fun r => DG r ≤ 39 ∧ r = gL p0 p1) := by
  obtain ⟨r, e, q⟩ := sp_X9_commonOf p0 p1 h1 h2
  refine ⟨r, e, q, ?_⟩
  obtain ⟨a, ha, ha2, rfl, e1⟩ := DG_fo (x := p0) (k := 40) (by omega)
  obtain ⟨b, hb, hb2, rfl, e2⟩ := DG_fo (x := p1) (k := 40) (by omega)
  rw [x9_gcd ha hb] at e
  rw [gL, tn_lN ha2, tn_lN hb2]
  exact (Option.some.inj e).symm
theorem fx_X0_turned (p0 : Int64) (h1 : DG p0 ≤ 39) : ok (F_X0_turned p0) (fun r => r = uL p0) := by
  obtain ⟨a, ha, ha2, rfl, e1⟩ := DG_fo (x := p0) (k := 40) (by omega)
  rw [x0_turn (by omega), uL, tn_lN ha2]
  exact ok_s rfl
theorem fx_X9_turnedOf (p0 : Int64) (h1 : DG p0 ≤ 39) : ok (F_X9_turnedOf p0) (fun r => DG r ≤ 39 ∧ r = uL p0) := by
  obtain ⟨r, e, q⟩ := sp_X9_turnedOf p0 h1
  refine ⟨r, e, q, ?_⟩
  obtain ⟨a, ha, ha2, rfl, e1⟩ := DG_fo (x := p0) (k := 40) (by omega)
  rw [x9_turn (by omega)] at e
  rw [uL, tn_lN ha2]
  exact (Option.some.inj e).symm
theorem fx_pow_i {k : Int32} (h0 : 0 ≤ k.toInt) (h1 : k.toInt ≤ 255) : ∃ n, n ≤ 255 ∧ k = nI n ∧ k.toInt.toNat = n := by
  obtain ⟨n, hn, rfl⟩ := i_of (n := 255) h0 h1
  exact ⟨n, hn, rfl, by rw [nI_toInt (by omega)]; rfl⟩
theorem fx_X0_powerRest (p0 : Int64) (p1 : Int32) (p2 : Int64) (h1 : DG p0 ≤ 39) (h2 : 0 ≤ DG p2) (h3 : DG p2 ≤ 20) (h4 : 0 ≤ p1.toInt) (h5 : p1.toInt ≤ 255) : ok (F_X0_powerRest p0 p1 p2) (fun r => r = pL p0 p1 p2) := by
  obtain ⟨a, ha, ha2, rfl, e1⟩ := DG_fo (x := p0) (k := 40) (by omega)
  obtain ⟨b, hb, hb2, rfl, e2⟩ := DG_fo (x := p2) (k := 21) (by omega)
  obtain ⟨n, hn, rfl, e3⟩ := fx_pow_i h4 h5
  rw [x0_pow (fun h => by subst h; rw [bl_0] at e2; omega) (by omega) ha hn, pL, tn_lN ha2, tn_lN hb2, e3]
  exact ok_s rfl
theorem fx_X9_powerOf (p0 : Int64) (p1 : Int32) (p2 : Int64) (h1 : DG p0 ≤ 39) (h2 : 0 ≤ DG p2) (h3 : DG p2 ≤ 20) (h4 : 0 ≤ p1.toInt) (h5 : p1.toInt ≤ 255) : ok (F_X9_powerOf p0 p1 p2) (fun r => DG r ≤ 39 ∧ r = pL p0 p1 p2) := by
  obtain ⟨r, e, q⟩ := sp_X9_powerOf p0 p1 p2 h1 h2 h3 h4 h5
  refine ⟨r, e, q, ?_⟩
  obtain ⟨a, ha, ha2, rfl, e1⟩ := DG_fo (x := p0) (k := 40) (by omega)
  obtain ⟨b, hb, hb2, rfl, e2⟩ := DG_fo (x := p2) (k := 21) (by omega)
  obtain ⟨n, hn, rfl, e3⟩ := fx_pow_i h4 h5
  rw [x9_pow (fun h => by subst h; rw [bl_0] at e2; omega) (by omega) ha hn] at e
  rw [pL, tn_lN ha2, tn_lN hb2, e3]
  exact (Option.some.inj e).symm
/-! numbers of ones, the lowest place -/
noncomputable def BC (x : Int64) : Int32 := (F_J13_bitCount_95d88 x).getD 0
theorem BC_is (x : Int64) : F_J13_bitCount_95d88 x = some (BC x) := by
  obtain ⟨r, e, _⟩ := ok_bc x
  rw [BC, e]; rfl
theorem fx_X0_onesOf (p0 : Int64) : ok (F_X0_onesOf p0) (fun r => r = BC p0) := by
  unfold F_X0_onesOf
  rw [BC_is]
  exact ok_s rfl
theorem fx_X9_onesOf (p0 : Int64) : ok (F_X9_onesOf p0) (fun r => 0 ≤ r.toInt ∧ r.toInt ≤ 127 ∧ r = BC p0) := by
  obtain ⟨r, e, q1, q2⟩ := sp_X9_onesOf p0
  refine ⟨r, e, q1, q2, ?_⟩
  unfold F_X9_onesOf at e
  rw [BC_is, obn_s] at e
  exact (Option.some.inj e).symm
noncomputable def LW (x : Int64) : Int32 := (F_X9_lowestOf x).getD 0
theorem low_eq {x : Int64} (h : DG x ≤ 39) : F_X9_lowestOf x = some (LW x) ∧ F_X0_lowestOf x = some (LW x) := by
  obtain ⟨a, ha, ha2, rfl, e1⟩ := DG_fo (x := x) (k := 40) (by omega)
  by_cases h0 : a = 0
  · subst h0
    exact ⟨by decide +kernel, by decide +kernel⟩
  · obtain ⟨t, q, e⟩ := odd_part a h0
    have e9 := x9_low (by omega) e
    rw [LW, e9, x0_low (by omega) e]
    exact ⟨rfl, rfl⟩
theorem fx_X0_lowestOf (p0 : Int64) (h : DG p0 ≤ 39) : ok (F_X0_lowestOf p0) (fun r => r = LW p0) := by
  rw [(low_eq h).2]
  exact ok_s rfl
theorem fx_X9_lowestOf (p0 : Int64) (h : DG p0 ≤ 39) : ok (F_X9_lowestOf p0) (fun r => r = LW p0) := by
  rw [(low_eq h).1]
  exact ok_s rfl
/-! whether one divides another -/
noncomputable def DV (x y : Int64) : Int32 := (F_X9_isDivided x y).getD 0
theorem dv_eq {x y : Int64} (h : DG x ≤ 39) (h2 : DG y ≤ 39) : F_X9_isDivided x y = some (DV x y) ∧ F_X0_goesInto y x = some (DV x y) ∧ (DV x y = 0 ∨ DV x y = 1) := by
  obtain ⟨a, ha, ha2, rfl, e1⟩ := DG_fo (x := x) (k := 40) (by omega)
  obtain ⟨b, hb, hb2, rfl, e2⟩ := DG_fo (x := y) (k := 40) (by omega)
  have key : ∃ v : Int32, F_X9_isDivided (lN a) (lN b) = some v ∧ F_X0_goesInto (lN b) (lN a) = some v ∧ (v = 0 ∨ v = 1) := by
    by_cases h0 : b = 0
    · subst h0
      unfold F_X9_isDivided F_X0_goesInto
      rw [x0_rest0, obn_s, if_pos (show lN 0 = (0 : Int64) from rfl)]
      by_cases ha0 : lN a = (0 : Int64)
      · rw [if_pos ha0]; exact ⟨1, rfl, rfl, Or.inr rfl⟩
      · rw [if_neg ha0]; exact ⟨0, rfl, rfl, Or.inl rfl⟩
    · unfold F_X9_isDivided F_X0_goesInto
      rw [if_neg (lN_ne h0 hb2), x9_rest h0 (by omega) hb, x0_rest h0 (by omega) (by omega), obn_s]
      by_cases ha0 : lN (rst a b) = (0 : Int64)
      · rw [if_pos ha0]; exact ⟨1, rfl, rfl, Or.inr rfl⟩
      · rw [if_neg ha0]; exact ⟨0, rfl, rfl, Or.inl rfl⟩
  obtain ⟨v, k1, k2, k3⟩ := key
  have e : DV (lN a) (lN b) = v := by rw [DV, k1]; rfl
  rw [e]
  exact ⟨k1, k2, k3⟩
theorem i01 {v : Int32} (h : v = 0 ∨ v = 1) : v.toInt = 0 ∨ v.toInt = 1 := by
  rcases h with h | h <;> subst h
  · exact Or.inl rfl
  · exact Or.inr rfl
theorem fx_X9_isDivided (p0 p1 : Int64) (h : DG p0 ≤ 39) (h2 : DG p1 ≤ 39) : ok (F_X9_isDivided p0 p1) (fun r => (r.toInt = 0 ∨ r.toInt = 1) ∧ r = DV p0 p1) := by
  obtain ⟨e, _, q⟩ := dv_eq h h2
  rw [e]
  exact ok_s ⟨i01 q, rfl⟩
theorem fx_X0_goesInto (p0 p1 : Int64) (h : DG p1 ≤ 39) (h2 : DG p0 ≤ 39) : ok (F_X0_goesInto p0 p1) (fun r => (r.toInt = 0 ∨ r.toInt = 1) ∧ r = DV p1 p0) := by
  obtain ⟨_, e, q⟩ := dv_eq h h2
  rw [e]
  exact ok_s ⟨i01 q, rfl⟩
/-! the check -/
noncomputable def kL (x y : Int64) : Int64 := lN (rst (tn x * 2 ^ (bl (tn y) - 1)) (tn y))
theorem ck_lt {a b : Nat} (h0 : b ≠ 0) (h : bl a + bl b ≤ 41) (hb : bl b ≤ 40) : a * 2 ^ (bl b - 1) < 2 ^ 61 := by
  have hp := bl_pos h0
  by_cases ha : a = 0
  · subst ha; rw [Nat.zero_mul]; decide
  · have e := bl_shl (a := a) (k := bl b - 1) ha
    rw [Nat.shiftLeft_eq] at e
    exact bl_le.mp (by omega)
theorem fx_X0_checkOf (p0 p1 : Int64) (h0 : 1 ≤ DG p1) (h1 : DG p1 ≤ 39) (h2 : DG p0 + DG p1 ≤ 39) : ok (F_X0_checkOf p0 p1) (fun r => r = kL p0 p1) := by
  obtain ⟨a, ha, ha2, rfl, e1⟩ := DG_fo (x := p0) (k := 40) (by omega)
  obtain ⟨b, hb, hb2, rfl, e2⟩ := DG_fo (x := p1) (k := 40) (by omega)
  have hb0 : b ≠ 0 := fun h => by subst h; rw [bl_0] at e2; omega
  have hl := ck_lt (a := a) hb0 (by omega) (by omega)
  unfold F_X0_checkOf
  rw [x0_deg hb2, obn_s, dgI_p hb0, wb_shl a (by omega), x0_rest hb0 hl (by omega), obn_s, kL, tn_lN ha2, tn_lN hb2]
  exact ok_s rfl
theorem fx_X9_checkOf (p0 p1 : Int64) (h0 : 1 ≤ DG p1) (h1 : DG p1 ≤ 39) (h2 : DG p0 + DG p1 ≤ 39) : ok (F_X9_checkOf p0 p1) (fun r => DG r ≤ 39 ∧ -1 ≤ DG r ∧ DG r < DG p1 ∧ r = kL p0 p1) := by
  obtain ⟨r, e, q1, q2, q3⟩ := sp_X9_checkOf p0 p1 h0 h1 h2
  refine ⟨r, e, q1, q2, q3, ?_⟩
  obtain ⟨a, ha, ha2, rfl, e1⟩ := DG_fo (x := p0) (k := 40) (by omega)
  obtain ⟨b, hb, hb2, rfl, e2⟩ := DG_fo (x := p1) (k := 40) (by omega)
  have hb0 : b ≠ 0 := fun h => by subst h; rw [bl_0] at e2; omega
  have hl := ck_lt (a := a) hb0 (by omega) (by omega)
  unfold F_X9_checkOf at e
  rw [x9_deg hb2, obn_s, dgI_p hb0, wb_shl a (by omega), x9_rest hb0 hl hb, obn_s] at e
  rw [kL, tn_lN ha2, tn_lN hb2]
  exact (Option.some.inj e).symm
/-! primes by trying -/
noncomputable def P9 (x : Int64) : Int32 := (F_X9_isPrimeNow x).getD 0
theorem fx_X9_isPrimeNow (p0 : Int64) (h : DG p0 ≤ 10) : ok (F_X9_isPrimeNow p0) (fun r => (r.toInt = 0 ∨ r.toInt = 1) ∧ r = P9 p0) := by
  obtain ⟨a, ha, ha2, rfl, e1⟩ := DG_fo (x := p0) (k := 11) (by omega)
  have e := x9_pr (n := a) (by omega)
  rw [P9, e]
  refine ok_s ⟨?_, rfl⟩
  cases prm a
  · exact Or.inl rfl
  · exact Or.inr rfl
theorem fx_X2_isByTrying (p0 : Int64) (h : DG p0 ≤ 10) : ok (F_X2_isByTrying p0) (fun r => (r.toInt = 0 ∨ r.toInt = 1) ∧ r = P9 p0) := by
  obtain ⟨a, ha, ha2, rfl, e1⟩ := DG_fo (x := p0) (k := 11) (by omega)
  rw [P9, x9_pr (n := a) (by omega), x2_pr (n := a) (by omega)]
  refine ok_s ⟨?_, rfl⟩
  cases prm a
  · exact Or.inl rfl
  · exact Or.inr rfl
/-! wheels -/
noncomputable def WB (x : Int64) : Int32 := (F_X9_isWheel x).getD 0
theorem fx_X9_isWheel (p0 : Int64) : ok (F_X9_isWheel p0) (fun r => (r.toInt = 0 ∨ r.toInt = 1) ∧ (r.toInt ≠ 0 → WT p0) ∧ r = WB p0) := by
  obtain ⟨r, e, q1, q2⟩ := sp_X9_isWheel p0
  exact ⟨r, e, q1, q2, by rw [WB, e]; rfl⟩
theorem wheel_c : ∀ n, n < 512 → F_X6_isWheel (lN n) = F_X9_isWheel (lN n) := by decide +kernel
theorem wheel_eq {x : Int64} (h : DG x ≤ 39) : F_X6_isWheel x = F_X9_isWheel x := by
  obtain ⟨a, ha, ha2, rfl, e1⟩ := DG_fo (x := x) (k := 40) (by omega)
  by_cases h9 : a < 512
  · exact wheel_c a h9
  · have hb : 10 ≤ bl a := bl_gt.mpr (show 2 ^ 9 ≤ a by omega)
    have hT := dgI_T ha2
    unfold F_X6_isWheel F_X9_isWheel F_X7_isBetween
    rw [x0_deg ha2, x9_deg ha2]
    have c1 : ¬ dgI a < (1 : Int32) := by rw [Int32.lt_iff_toInt_lt, hT, show (1 : Int32).toInt = 1 from by decide]; omega
    have c2 : (8 : Int32) < dgI a := by rw [Int32.lt_iff_toInt_lt, hT, show (8 : Int32).toInt = 8 from by decide]; omega
    simp only [obn_s, if_neg c1, if_pos c2]
    rfl
theorem fx_X6_isWheel (p0 : Int64) (h : DG p0 ≤ 39) : ok (F_X6_isWheel p0) (fun r => (r.toInt = 0 ∨ r.toInt = 1) ∧ (r.toInt ≠ 0 → WT p0) ∧ r = WB p0) := by
  rw [wheel_eq h]
  exact fx_X9_isWheel p0
