/-! B3. turned, the lowest digit -/
noncomputable def tA (n : Nat) : Nat → Nat
  | 0 => 0
  | k + 1 => 2 * tA n k + n / 2 ^ k % 2
theorem tA_lt (n : Nat) : ∀ k, tA n k < 2 ^ k := by
  intro k
  induction k with
  | zero => exact Nat.one_pos
  | succ k ih =>
    rw [tA, Nat.pow_succ]
    have := Nat.mod_lt (n / 2 ^ k) (show 0 < 2 by decide)
    omega
noncomputable def tN (n : Nat) : Nat := tA n (bl n)
theorem or_add {a b k : Nat} (hb : b < 2) : a * 2 ^ (k + 1) ||| b * 2 ^ k = (2 * a + b) * 2 ^ k := by
  have hb2 : b * 2 ^ k < 2 ^ (k + 1) := by
    rw [Nat.pow_succ, Nat.mul_comm]
    exact Nat.mul_lt_mul_of_pos_left hb (Nat.two_pow_pos k)
  have h := Nat.two_pow_add_eq_or_of_lt hb2 a
  rw [Nat.mul_comm (2 ^ (k + 1)) a] at h
  rw [← h, Nat.add_mul, Nat.pow_succ]
  have : a * (2 ^ k * 2) = 2 * a * 2 ^ k := by ac_rfl
  rw [this]
theorem x0_turn_l {n : Nat} (hn : n < 2 ^ 60) (K : Int64 → Option Int64) : ∀ u k m, k + u = bl n → u < m → LQ2 (S_X0_turned_11 (lN n) (dgI n) K) m (lN (tA n k)) (nI k) = K (lN (tN n)) := by
  have hb : bl n ≤ 60 := bl_le.mpr hn
  have hd : (dgI n).toInt = (bl n : Int) - 1 := dgI_T (by omega)
  intro u
  induction u with
  | zero =>
    intro k m hk hm
    obtain ⟨m, rfl⟩ : ∃ j, m = j + 1 := ⟨m - 1, by omega⟩
    show S_X0_turned_11 _ _ K _ _ _ = _
    unfold S_X0_turned_11
    rw [if_pos (show dgI n < nI k from by rw [Int32.lt_iff_toInt_lt, hd, nI_toInt (by omega)]; omega), tN, show k = bl n by omega]
  | succ u ih =>
    intro k m hk hm
    obtain ⟨m, rfl⟩ : ∃ j, m = j + 1 := ⟨m - 1, by omega⟩
    show S_X0_turned_11 _ _ K (LQ2 (S_X0_turned_11 (lN n) (dgI n) K) m) _ _ = _
    unfold S_X0_turned_11
    have i2 := ih (k + 1) m (by omega) (by omega)
    have hl : tA n k < 2 ^ 60 := Nat.lt_of_lt_of_le (tA_lt n k) (Nat.pow_le_pow_right (by decide) (by omega))
    have hm2 := Nat.mod_lt (n / 2 ^ k) (show 0 < 2 by decide)
    have e1 : ∀ q : Int64, q <<< ((1 : Int32).toInt64 &&& 63) = q <<< ((nI 1).toInt64 &&& 63) := fun _ => rfl
    rw [if_neg (show ¬ dgI n < nI k from by rw [Int32.lt_iff_toInt_lt, hd, nI_toInt (by omega)]; omega), e1, wb_shl _ (by omega), sh_r (by omega) (by omega), wb_a1 (Nat.lt_of_le_of_lt (Nat.div_le_self _ _) (by omega)), wb_or (by omega) (by omega)]
    have e2 : tA n k * 2 ^ 1 ||| n / 2 ^ k % 2 = tA n (k + 1) := by
      have := or_add (a := tA n k) (k := 0) hm2
      simpa [tA] using this
    rw [e2]
    rw [nI_succ] at i2
    exact i2
theorem x0_turn {n : Nat} (hn : n < 2 ^ 60) : F_X0_turned (lN n) = some (lN (tN n)) := by
  have hb : bl n ≤ 60 := bl_le.mpr hn
  unfold F_X0_turned
  rw [x0_deg (by omega), obn_s]
  exact x0_turn_l hn _ (bl n) 0 20000 (by omega) (by omega)
theorem dg_sub : ∀ b, b < 61 → ∀ k, k < b → (nI b - 1 - nI k) = nI (b - 1 - k) := by
  intro b hb k hk
  have e : nI b - 1 = nI (b - 1) := by
    have := nI_pred (b - 1)
    rw [show b - 1 + 1 = b by omega] at this
    exact this
  rw [e, pk_sub (by omega)]
theorem x9_turn_l {n : Nat} (hn : n < 2 ^ 60) (K : Int64 → Option Int64) : ∀ u k m, k + u = bl n → u < m → LQ2 (S_X9_turnedOf_11 (lN n) (dgI n) K) m (lN (tA n k * 2 ^ u)) (nI k) = K (lN (tN n)) := by
  have hb : bl n ≤ 60 := bl_le.mpr hn
  have hd : (dgI n).toInt = (bl n : Int) - 1 := dgI_T (by omega)
  intro u
  induction u with
  | zero =>
    intro k m hk hm
    obtain ⟨m, rfl⟩ : ∃ j, m = j + 1 := ⟨m - 1, by omega⟩
    show S_X9_turnedOf_11 _ _ K _ _ _ = _
    unfold S_X9_turnedOf_11
    rw [if_pos (show dgI n < nI k from by rw [Int32.lt_iff_toInt_lt, hd, nI_toInt (by omega)]; omega), tN, show k = bl n by omega, Nat.pow_zero, Nat.mul_one]
  | succ u ih =>
    intro k m hk hm
    obtain ⟨m, rfl⟩ : ∃ j, m = j + 1 := ⟨m - 1, by omega⟩
    show S_X9_turnedOf_11 _ _ K (LQ2 (S_X9_turnedOf_11 (lN n) (dgI n) K) m) _ _ = _
    unfold S_X9_turnedOf_11
    have i2 := ih (k + 1) m (by omega) (by omega)
    have hl : tA n k * 2 ^ (u + 1) < 2 ^ 60 := by
      have h1 := Nat.mul_lt_mul_of_pos_right (tA_lt n k) (Nat.two_pow_pos (u + 1))
      rw [← Nat.pow_add] at h1
      exact Nat.lt_of_lt_of_le h1 (Nat.pow_le_pow_right (by decide) (by omega))
    have hm2 := Nat.mod_lt (n / 2 ^ k) (show 0 < 2 by decide)
    have hl2 : n / 2 ^ k % 2 * 2 ^ u < 2 ^ 60 := by
      have h1 : n / 2 ^ k % 2 * 2 ^ u ≤ 1 * 2 ^ u := Nat.mul_le_mul_right _ (by omega)
      have h2 := Nat.pow_lt_pow_right (show 1 < 2 by decide) (show u < 60 by omega)
      omega
    have e3 : dgI n - nI k = nI u := by
      have := dg_sub (bl n) (by omega) k (by omega)
      rw [show bl n - 1 - k = u by omega] at this
      exact this
    rw [if_neg (show ¬ dgI n < nI k from by rw [Int32.lt_iff_toInt_lt, hd, nI_toInt (by omega)]; omega), e3, sh_r (by omega) (by omega), wb_a1 (Nat.lt_of_le_of_lt (Nat.div_le_self _ _) (by omega)), wb_shl _ (by omega), wb_or (by omega) (by omega), or_add hm2]
    rw [nI_succ] at i2
    exact i2
theorem x9_turn {n : Nat} (hn : n < 2 ^ 60) : F_X9_turnedOf (lN n) = some (lN (tN n)) := by
  have hb : bl n ≤ 60 := bl_le.mpr hn
  unfold F_X9_turnedOf
  rw [x9_deg (by omega), obn_s]
  have := x9_turn_l hn (fun y => some y) (bl n) 0 20000 (by omega) (by omega)
  rw [tA, Nat.zero_mul] at this
  exact this
/-! the lowest digit: n = 2 ^ t * (2 * q + 1) -/
theorem odd_part : ∀ n : Nat, n ≠ 0 → ∃ t q, n = 2 ^ (t + 1) * q + 2 ^ t := by
  intro n
  induction n using Nat.strongRecOn with
  | ind n ih =>
    intro h
    by_cases h2 : n % 2 = 1
    · exact ⟨0, n / 2, by rw [Nat.pow_zero, Nat.zero_add, Nat.pow_one]; omega⟩
    · obtain ⟨t, q, e⟩ := ih (n / 2) (by omega) (by omega)
      refine ⟨t + 1, q, ?_⟩
      have : n = 2 * (n / 2) := by omega
      rw [this, e, Nat.pow_succ 2 (t + 1), Nat.pow_succ 2 t]
      have : 2 * (2 ^ t * 2 * q + 2 ^ t) = 2 ^ t * 2 * 2 * q + 2 ^ t * 2 := by
        rw [Nat.mul_add, Nat.mul_comm (2 ^ t * 2) 2, Nat.mul_assoc 2 (2 ^ t * 2) q, Nat.mul_comm (2 ^ t) 2]
      exact this
theorem op_b1 {t q i : Nat} : (2 ^ (t + 1) * q + 2 ^ t).testBit i = if i < t + 1 then decide (i = t) else q.testBit (i - (t + 1)) := by
  rw [Nat.testBit_two_pow_mul_add q (Nat.pow_lt_pow_right (by decide) (Nat.lt_succ_self t))]
  split
  · rw [Nat.testBit_two_pow]
    simp only [eq_comm]
  · rfl
theorem op_b2 {t q i : Nat} : (2 ^ (t + 1) * q + 2 ^ t - 1).testBit i = if i < t + 1 then decide (i < t) else q.testBit (i - (t + 1)) := by
  have h1 := Nat.two_pow_pos t
  have e : 2 ^ (t + 1) * q + 2 ^ t - 1 = 2 ^ (t + 1) * q + (2 ^ t - 1) := by omega
  have h2 : 2 ^ t - 1 < 2 ^ (t + 1) := by rw [Nat.pow_succ]; omega
  rw [e, Nat.testBit_two_pow_mul_add q h2]
  split
  · rw [Nat.testBit_two_pow_sub_one]
  · rfl
theorem op_neg {n t q w : Nat} (e : n = 2 ^ (t + 1) * q + 2 ^ t) (hn : n < 2 ^ w) : n &&& (2 ^ w - n) = 2 ^ t := by
  have h1 := Nat.two_pow_pos t
  have hn0 : 0 < n := by omega
  have ht : t < w := by
    rcases Nat.lt_or_ge t w with h | h
    · exact h
    · have := Nat.pow_le_pow_right (show 0 < 2 by decide) h
      omega
  refine Nat.eq_of_testBit_eq fun i => ?_
  have e2 : 2 ^ w - n = 2 ^ w - ((n - 1) + 1) := by omega
  rw [Nat.testBit_and, e2, Nat.testBit_two_pow_sub_succ (by omega), Nat.testBit_two_pow, e, op_b1, op_b2]
  by_cases hi : i < t + 1
  · rw [if_pos hi, if_pos hi]
    by_cases h3 : i = t
    · subst h3; simp [ht]
    · have : ¬ t = i := fun h => h3 h.symm
      simp [h3, this]
  · rw [if_neg hi, if_neg hi]
    have : ¬ t = i := by omega
    simp [this]
    intro h; simp [h]
theorem op_not {n t q w : Nat} (e : n = 2 ^ (t + 1) * q + 2 ^ t) (hn : n < 2 ^ w) : (2 ^ w - 1 - n) &&& (n - 1) = 2 ^ t - 1 := by
  have h1 := Nat.two_pow_pos t
  have ht : t < w := by
    rcases Nat.lt_or_ge t w with h | h
    · exact h
    · have := Nat.pow_le_pow_right (show 0 < 2 by decide) h
      omega
  refine Nat.eq_of_testBit_eq fun i => ?_
  have e2 : 2 ^ w - 1 - n = 2 ^ w - (n + 1) := by omega
  rw [Nat.testBit_and, e2, Nat.testBit_two_pow_sub_succ hn, Nat.testBit_two_pow_sub_one, e, op_b1, op_b2]
  by_cases hi : i < t + 1
  · rw [if_pos hi, if_pos hi]
    by_cases h3 : i = t
    · subst h3; simp
    · have h4 : i < t := by omega
      have h5 : i < w := by omega
      simp [h3, h4, h5]
  · rw [if_neg hi, if_neg hi]
    have : ¬ i < t := by omega
    simp [this]
theorem x0_low {n t q : Nat} (hn : n < 2 ^ 60) (e : n = 2 ^ (t + 1) * q + 2 ^ t) : F_X0_lowestOf (lN n) = some (nI t) := by
  have h1 := Nat.two_pow_pos t
  have hn0 : n ≠ 0 := by omega
  have e1 : (-lN n : Int64) = lN (2 ^ 64 - n) := by
    refine wb_inj ?_
    rw [Int64.toBitVec_neg, wb_tb, wb_tb]
    apply BitVec.eq_of_toNat_eq
    rw [BitVec.toNat_neg, BitVec.toNat_ofNat, BitVec.toNat_ofNat, Nat.mod_eq_of_lt (show n < 2 ^ 64 by omega)]
  have e2 := op_neg (w := 64) e (by omega)
  have ht : t < 60 := by
    rcases Nat.lt_or_ge t 60 with h | h
    · exact h
    · have := Nat.pow_le_pow_right (show 0 < 2 by decide) h
      omega
  have hb : bl (2 ^ t) = t + 1 := bl_of (Nat.le_refl _) (Nat.pow_lt_pow_right (by decide) (Nat.lt_succ_self t))
  have ht2 : 2 ^ t < 2 ^ 64 := Nat.pow_lt_pow_right (by decide) (by omega)
  unfold F_X0_lowestOf
  rw [if_neg (lN_ne hn0 (by omega)), e1, wb_and (by omega) (by omega), e2, x0_deg ht2, obn_s, dgI_p (by omega), hb]
  rfl
theorem nt_c : ∀ t, t < 32 → t ≠ 0 → (fun x0 : Int32 => (if 0 < x0 then (if x0 ≤ (65536 : Int32) then J_J6_numberOfTrailingZeros_0f7a4_34 x0 (1 : Int32) else bnd ((1 : Int32) + 16) (fun x1_26 => bnd ((x0.toUInt32 >>> ((16 : Int32).toUInt32 &&& Int32.toUInt32 31)).toInt32) (fun x0_33 => J_J6_numberOfTrailingZeros_0f7a4_34 x0_33 x1_26))) else some (x0 &&& (32 : Int32)))) (nI (2 ^ t - 1)) = some (nI t) := by decide +kernel
theorem nt_32 {n t q : Nat} (hn : n < 2 ^ 32) (e : n = 2 ^ (t + 1) * q + 2 ^ t) : F_J6_numberOfTrailingZeros_0f7a4 (nI n) = some (nI t) := by
  have h1 := Nat.two_pow_pos t
  have e2 := op_not (w := 32) e hn
  have ht : t < 32 := by
    rcases Nat.lt_or_ge t 32 with h | h
    · exact h
    · have := Nat.pow_le_pow_right (show 0 < 2 by decide) h
      omega
  have e3 : (nI n ^^^ (-1 : Int32)) &&& (nI n - (1 : Int32)) = nI (2 ^ t - 1) := by
    have a1 : nI n - (1 : Int32) = nI (n - 1) := by
      have := nI_pred (n - 1)
      rw [show n - 1 + 1 = n by omega] at this
      exact this
    have a2 : nI n ^^^ (-1 : Int32) = nI (2 ^ 32 - 1 - n) := by
      refine Int32.toBitVec_inj.mp ?_
      rw [Int32.toBitVec_xor]
      apply BitVec.eq_of_toNat_eq
      rw [BitVec.toNat_xor, pk_tn hn, pk_tn (by omega), show (-1 : Int32).toBitVec.toNat = 2 ^ 32 - 1 from rfl]
      refine Nat.eq_of_testBit_eq fun i => ?_
      rw [Nat.testBit_xor, Nat.testBit_two_pow_sub_one, show 2 ^ 32 - 1 - n = 2 ^ 32 - (n + 1) by omega, Nat.testBit_two_pow_sub_succ hn]
      by_cases hi : i < 32
      · cases n.testBit i <;> simp [hi]
      · have := Nat.testBit_lt_two_pow (Nat.lt_of_lt_of_le hn (Nat.pow_le_pow_right (show 0 < 2 by decide) (show 32 ≤ i by omega)))
        simp [hi, this]
    rw [a1, a2, ← e2]
    refine Int32.toBitVec_inj.mp ?_
    rw [Int32.toBitVec_and]
    apply BitVec.eq_of_toNat_eq
    rw [BitVec.toNat_and, pk_tn (by omega), pk_tn (by omega), pk_tn (Nat.lt_of_le_of_lt Nat.and_le_right (by omega))]
  unfold F_J6_numberOfTrailingZeros_0f7a4
  rw [e3]
  by_cases h0 : t = 0
  · subst h0; decide +kernel
  · exact nt_c t ht h0
theorem x9_low {n t q : Nat} (hn : n < 2 ^ 60) (e : n = 2 ^ (t + 1) * q + 2 ^ t) : F_X9_lowestOf (lN n) = some (nI t) := by
  have h1 := Nat.two_pow_pos t
  have hn0 : n ≠ 0 := by omega
  unfold F_X9_lowestOf F_J13_numberOfTrailingZeros_95d88
  have e1 : ((lN n).toUInt64 >>> ((32 : Int32).toInt64.toUInt64 &&& Int64.toUInt64 63)).toInt64 = lN (n / 2 ^ 32) := wb_shr (k := 32) (by omega) (by decide)
  have e4 : (lN n).toInt32 = nI (n % 2 ^ 32) := by
    rw [lN_i]
    refine Int32.toBitVec_inj.mp ?_
    apply BitVec.eq_of_toNat_eq
    show (BitVec.ofNat 32 n).toNat = (BitVec.ofNat 32 (n % 2 ^ 32)).toNat
    rw [BitVec.toNat_ofNat, BitVec.toNat_ofNat, Nat.mod_mod]
  rw [if_neg (lN_ne hn0 (by omega))]
  refine Eq.trans (b := obn (some (nI t)) fun r11 => some r11) ?_ rfl
  refine congrArg (fun o => obn o fun r11 => some r11) ?_
  simp only [bnd]
  rw [e1, e4, lN_i]
  rcases Nat.lt_or_ge t 32 with ht | ht
  · have e5 : ∃ q2, n % 2 ^ 32 = 2 ^ (t + 1) * q2 + 2 ^ t := by
      refine ⟨q % 2 ^ (32 - (t + 1)), ?_⟩
      rw [e]
      have hw : (2 : Nat) ^ 32 = 2 ^ (t + 1) * 2 ^ (32 - (t + 1)) := by rw [← Nat.pow_add]; congr 1; omega
      have hq := Nat.div_add_mod q (2 ^ (32 - (t + 1)))
      have hlt := Nat.mod_lt q (Nat.two_pow_pos (32 - (t + 1)))
      rw [hw]
      generalize q % 2 ^ (32 - (t + 1)) = r at *
      generalize q / 2 ^ (32 - (t + 1)) = d at *
      have e6 : 2 ^ (t + 1) * q + 2 ^ t = (2 ^ (t + 1) * r + 2 ^ t) + 2 ^ (t + 1) * 2 ^ (32 - (t + 1)) * d := by
        rw [← hq, Nat.mul_add, Nat.mul_assoc]; omega
      rw [e6, Nat.add_mul_mod_self_left, Nat.mod_eq_of_lt]
      have : 2 ^ (t + 1) * r + 2 ^ (t + 1) ≤ 2 ^ (t + 1) * 2 ^ (32 - (t + 1)) := by
        rw [← Nat.mul_succ]
        exact Nat.mul_le_mul_left _ hlt
      have := Nat.pow_lt_pow_right (show 1 < 2 by decide) (Nat.lt_succ_self t)
      have h3 : 2 ^ t < 2 ^ (t + 1) := this
      omega
    obtain ⟨q2, e5⟩ := e5
    have hm : n % 2 ^ 32 < 2 ^ 32 := Nat.mod_lt _ (by decide)
    rw [if_neg (fun h9 => by have := ni_0 hm h9; omega), nt_32 hm e5]
    rfl
  · have e5 : n % 2 ^ 32 = 0 ∧ n / 2 ^ 32 = 2 ^ (t - 32 + 1) * q + 2 ^ (t - 32) := by
      have h2 : (2 : Nat) ^ t = 2 ^ 32 * 2 ^ (t - 32) := by rw [← Nat.pow_add]; congr 1; omega
      have h3 : (2 : Nat) ^ (t + 1) = 2 ^ 32 * 2 ^ (t - 32 + 1) := by rw [← Nat.pow_add]; congr 1; omega
      have e6 : n = 2 ^ 32 * (2 ^ (t - 32 + 1) * q + 2 ^ (t - 32)) := by rw [e, h2, h3, Nat.mul_add, Nat.mul_assoc]
      rw [e6]
      exact ⟨Nat.mul_mod_right _ _, Nat.mul_div_cancel_left _ (by decide)⟩
    obtain ⟨e5, e6⟩ := e5
    have h6 : n / 2 ^ 32 < 2 ^ 32 := by omega
    rw [e5, if_pos (show nI 0 = 0 from rfl), nt_32 h6 e6]
    exact congrArg some ((nI_add 32 (t - 32)).trans (congrArg nI (by omega)))
