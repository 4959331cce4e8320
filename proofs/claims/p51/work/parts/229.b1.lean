/-! B1. the class's forms as numbers: product, square, quotient, rest, greatest of both -/
theorem x0_one {b k : Nat} (hb : b < 2 ^ 62) (hk : k < 64) : F_X0_hasOne (lN b) (nI k) = some (nI (if b.testBit k = true then 1 else 0)) := by
  unfold F_X0_hasOne
  by_cases h : b.testBit k = true
  · rw [if_pos ((tb_1 hb hk).mpr h), if_pos h]; rfl
  · rw [if_neg (fun h9 => h ((tb_1 hb hk).mp h9)), if_neg h]; rfl
theorem one_0 : nI 0 = 0 := rfl
theorem one_1 : ¬ nI 1 = 0 := by decide
theorem nI_m1 (k : Nat) : nI k + (-1) = nI k - 1 := (Int32.sub_eq_add_neg (nI k) 1).symm
theorem neg_m1 : nI 0 - 1 < 0 := by decide +kernel
theorem x0_mul_l {a b : Nat} (hb : b < 2 ^ 62) (K : Int64 → Option Int64) : ∀ k c n, k ≤ 62 → k < n → LQ2 (S_X0_multiplied_9 (lN a) (lN b) K) n (lN c) (nI k - 1) = K (lN (c ^^^ pm k a b)) := by
  intro k
  induction k with
  | zero =>
    intro c n hk hn
    obtain ⟨n, rfl⟩ : ∃ m, n = m + 1 := ⟨n - 1, by omega⟩
    show S_X0_multiplied_9 _ _ K _ _ _ = _
    unfold S_X0_multiplied_9
    rw [if_pos neg_m1, pm, Nat.xor_zero]
  | succ k ih =>
    intro c n hk hn
    obtain ⟨n, rfl⟩ : ∃ m, n = m + 1 := ⟨n - 1, by omega⟩
    show S_X0_multiplied_9 _ _ K (LQ2 (S_X0_multiplied_9 (lN a) (lN b) K) n) _ _ = _
    unfold S_X0_multiplied_9
    rw [nI_pred, if_neg (nI_pos (by omega)), x0_one hb (by omega), obn_s, pm]
    by_cases h : b.testBit k = true
    · have i2 := ih (c ^^^ a * 2 ^ k) n (by omega) (by omega)
      rw [if_pos h, if_pos h, if_neg one_1, wb_shl a (by omega), lN_xor, Nat.shiftLeft_eq]
      have e : c ^^^ a * 2 ^ k ^^^ pm k a b = c ^^^ (pm k a b ^^^ a * 2 ^ k) := by ac_rfl
      rw [e, ← nI_m1] at i2
      exact i2
    · have i2 := ih c n (by omega) (by omega)
      rw [if_neg h, if_neg h, if_pos one_0, Nat.xor_zero]
      rw [← nI_m1] at i2
      exact i2
theorem x0_mul {a b : Nat} (hb : b < 2 ^ 62) : F_X0_multiplied (lN a) (lN b) = some (lN (cl a b)) := by
  have h1 : bl b ≤ 62 := bl_le.mpr hb
  unfold F_X0_multiplied
  rw [x0_deg (by omega), obn_s]
  have := x0_mul_l (a := a) hb (fun y => some y) (bl b) 0 20000 h1 (by omega)
  rw [Nat.zero_xor, ← pm_ext (n := 64) (lt_bl b) (by omega)] at this
  exact this
theorem cl_add {x b : Nat} (hx : x < 2 ^ 31) (hb : b < 2) : cl (2 * x + b) (2 * x + b) = cl x x * 4 + b := by
  have e1 : 2 * x + b = (x <<< 1) ^^^ b := by
    have h : x <<< 1 = 2 * x := by rw [Nat.shiftLeft_eq]; omega
    have h2 : 2 * x + b = 2 * x ||| b := by
      have := Nat.two_pow_add_eq_or_of_lt (i := 1) (b := b) (by omega) x
      simpa using this
    rw [h, h2]
    refine Nat.eq_of_testBit_eq fun i => ?_
    rw [Nat.testBit_or, Nat.testBit_xor]
    match i with
    | 0 =>
      have : (2 * x).testBit 0 = false := by rw [Nat.testBit_zero]; simp
      rw [this]; simp
    | i + 1 =>
      have : b.testBit (i + 1) = false := Nat.testBit_lt_two_pow (Nat.lt_of_lt_of_le hb (by have := Nat.pow_le_pow_right (show 0 < 2 by decide) (show 1 ≤ i + 1 by omega); omega))
      rw [this]; simp
  have hs : x <<< 1 < 2 ^ 64 := by rw [Nat.shiftLeft_eq]; omega
  have hbb : cl b b = b := by
    rcases (show b = 0 ∨ b = 1 by omega) with h | h <;> subst h
    · exact cl_0l 0
    · exact cl_1 1
  have hq : cl (x <<< 1) (x <<< 1) = cl x x <<< 2 := by
    rw [cl_shl, cl_comm (by omega) hs, cl_shl, ← Nat.shiftLeft_add]
  have hl : cl x x <<< 2 ^^^ b = cl x x * 4 + b := by
    rw [Nat.shiftLeft_eq]
    have h2 : cl x x * 4 + b = cl x x * 4 ||| b := by
      have := Nat.two_pow_add_eq_or_of_lt (i := 2) (b := b) (by omega) (cl x x)
      rw [Nat.mul_comm] at this
      simpa using this
    rw [h2]
    refine Nat.eq_of_testBit_eq fun i => ?_
    rw [Nat.testBit_or, Nat.testBit_xor]
    match i with
    | 0 =>
      have : (cl x x * 2 ^ 2).testBit 0 = false := by rw [Nat.testBit_zero]; simp; omega
      rw [this]; simp
    | i + 1 =>
      have : b.testBit (i + 1) = false := Nat.testBit_lt_two_pow (Nat.lt_of_lt_of_le hb (by have := Nat.pow_le_pow_right (show 0 < 2 by decide) (show 1 ≤ i + 1 by omega); omega))
      rw [this]; simp
  rw [e1, cl_xl, cl_xr, cl_xr, cl_comm (a := b) (by omega) hs, hq, hbb]
  have : cl x x <<< 2 ^^^ cl (x <<< 1) b ^^^ (cl (x <<< 1) b ^^^ b) = cl x x <<< 2 ^^^ b ^^^ (cl (x <<< 1) b ^^^ cl (x <<< 1) b) := by ac_rfl
  rw [this, Nat.xor_self, Nat.xor_zero, hl]
theorem half_k1 (a k : Nat) : a / 2 ^ k = 2 * (a / 2 ^ (k + 1)) + a / 2 ^ k % 2 := by
  rw [Nat.pow_succ, ← Nat.div_div_eq_div_mul]
  omega
theorem x0_sq_l {a : Nat} (ha : a < 2 ^ 31) (K : Int64 → Option Int64) : ∀ k n, k ≤ 31 → k < n → LQ2 (S_X0_squared_8 (lN a) K) n (lN (cl (a / 2 ^ k) (a / 2 ^ k))) (nI k - 1) = K (lN (cl a a)) := by
  intro k
  induction k with
  | zero =>
    intro n hk hn
    obtain ⟨n, rfl⟩ : ∃ m, n = m + 1 := ⟨n - 1, by omega⟩
    show S_X0_squared_8 _ K _ _ _ = _
    unfold S_X0_squared_8
    rw [if_pos neg_m1, Nat.pow_zero, Nat.div_one]
  | succ k ih =>
    intro n hk hn
    obtain ⟨n, rfl⟩ : ∃ m, n = m + 1 := ⟨n - 1, by omega⟩
    show S_X0_squared_8 _ K (LQ2 (S_X0_squared_8 (lN a) K) n) _ _ = _
    unfold S_X0_squared_8
    have hx : a / 2 ^ (k + 1) < 2 ^ 30 := by
      rw [Nat.div_lt_iff_lt_mul (Nat.two_pow_pos _), ← Nat.pow_add]
      exact Nat.lt_of_lt_of_le ha (Nat.pow_le_pow_right (by decide) (by omega))
    have e1 : ∀ q : Int64, q <<< ((2 : Int32).toInt64 &&& 63) = q <<< ((nI 2).toInt64 &&& 63) := fun _ => rfl
    have i2 := ih n (by omega) (by omega)
    have hb2 : a / 2 ^ k % 2 < 2 := Nat.mod_lt _ (by decide)
    rw [half_k1 a k, cl_add (by omega) hb2] at i2
    have hc : bl (cl (a / 2 ^ (k + 1)) (a / 2 ^ (k + 1))) ≤ 60 := by
      have h3 := cl_ble (a / 2 ^ (k + 1)) (b := a / 2 ^ (k + 1)) (by omega)
      have h4 : bl (a / 2 ^ (k + 1)) ≤ 30 := bl_le.mpr hx
      omega
    have hc2 : cl (a / 2 ^ (k + 1)) (a / 2 ^ (k + 1)) < 2 ^ 60 := bl_le.mp hc
    rw [nI_pred, if_neg (nI_pos (by omega)), e1, wb_shl _ (by omega), sh_r (by omega) (by omega), wb_a1 (Nat.lt_of_le_of_lt (Nat.div_le_self _ _) (by omega)), wb_or (by omega) (by omega)]
    have e2 : cl (a / 2 ^ (k + 1)) (a / 2 ^ (k + 1)) * 2 ^ 2 ||| a / 2 ^ k % 2 = cl (a / 2 ^ (k + 1)) (a / 2 ^ (k + 1)) * 4 + a / 2 ^ k % 2 := by
      have := Nat.two_pow_add_eq_or_of_lt (i := 2) (b := a / 2 ^ k % 2) (by omega) (cl (a / 2 ^ (k + 1)) (a / 2 ^ (k + 1)))
      rw [Nat.mul_comm] at this
      exact this.symm
    rw [e2]
    rw [← nI_m1] at i2
    exact i2
theorem x0_sq {a : Nat} (ha : a < 2 ^ 31) : F_X0_squared (lN a) = some (lN (cl a a)) := by
  have h1 : bl a ≤ 31 := bl_le.mpr ha
  unfold F_X0_squared
  rw [x0_deg (by omega), obn_s]
  have := x0_sq_l ha (fun y => some y) (bl a) 20000 h1 (by omega)
  rw [Nat.div_eq_of_lt (lt_bl a), cl_0l] at this
  exact this
theorem dv_fst (b : Nat) : ∀ u l q q', (dv b u l q).1 = (dv b u l q').1 := by
  intro u
  induction u with
  | zero => intro l q q'; rfl
  | succ u ih =>
    intro l q q'
    rw [dv, dv]
    split
    · exact ih _ _ _
    · exact ih _ _ _
theorem x0_rest_l {b : Nat} (hb0 : b ≠ 0) (hb : b < 2 ^ 62) (K : Int64 → Option Int64) : ∀ u l n, l < 2 ^ (bl b - 1 + u) → u + bl b ≤ 62 → u < n → LQ2 (S_X0_rest_26 (lN b) (dgI b) K) n (lN l) (nI u - 1) = K (lN (dv b u l 0).1) := by
  have hbp := bl_pos hb0
  intro u
  induction u with
  | zero =>
    intro l n hl hu hn
    obtain ⟨n, rfl⟩ : ∃ m, n = m + 1 := ⟨n - 1, by omega⟩
    show S_X0_rest_26 _ _ K _ _ _ = _
    unfold S_X0_rest_26
    rw [if_pos neg_m1]
    rfl
  | succ u ih =>
    intro l n hl hu hn
    obtain ⟨n, rfl⟩ : ∃ m, n = m + 1 := ⟨n - 1, by omega⟩
    have hl62 : l < 2 ^ 62 := Nat.lt_of_lt_of_le hl (Nat.pow_le_pow_right (by decide) (by omega))
    show S_X0_rest_26 _ _ K (LQ2 (S_X0_rest_26 (lN b) (dgI b) K) n) _ _ = _
    unfold S_X0_rest_26
    obtain ⟨d1, d2⟩ := dv_low hb0 hl
    rw [nI_pred, if_neg (nI_pos (by omega)), dgI_p hb0, nI_add, x0_one hl62 (by omega), obn_s, dv]
    by_cases hbit : l.testBit (u + (bl b - 1)) = true
    · have i2 := ih (l ^^^ b * 2 ^ u) n (by rw [← Nat.shiftLeft_eq]; exact d1 hbit) (by omega) (by omega)
      rw [if_pos hbit, if_pos hbit, if_neg one_1, wb_shl b (by omega), lN_xor, Nat.shiftLeft_eq, dv_fst b u _ _ 0]
      rw [dgI_p hb0, ← nI_m1] at i2
      exact i2
    · have i2 := ih l n (d2 (by simpa using hbit)) (by omega) (by omega)
      rw [if_neg hbit, if_neg hbit, if_pos one_0]
      rw [dgI_p hb0, ← nI_m1] at i2
      exact i2
theorem x0_quo_l {b : Nat} (hb0 : b ≠ 0) (hb : b < 2 ^ 62) (K : Int64 → Option Int64) : ∀ u l q n, l < 2 ^ (bl b - 1 + u) → u + bl b ≤ 62 → q < 2 ^ 62 → u < n → LQ3 (S_X0_quotient_29 (lN b) (dgI b) K) n (lN l) (lN q) (nI u - 1) = K (lN (dv b u l q).2) := by
  have hbp := bl_pos hb0
  intro u
  induction u with
  | zero =>
    intro l q n hl hu hq hn
    obtain ⟨n, rfl⟩ : ∃ m, n = m + 1 := ⟨n - 1, by omega⟩
    show S_X0_quotient_29 _ _ K _ _ _ _ = _
    unfold S_X0_quotient_29
    rw [if_pos neg_m1]
    rfl
  | succ u ih =>
    intro l q n hl hu hq hn
    obtain ⟨n, rfl⟩ : ∃ m, n = m + 1 := ⟨n - 1, by omega⟩
    have hl62 : l < 2 ^ 62 := Nat.lt_of_lt_of_le hl (Nat.pow_le_pow_right (by decide) (by omega))
    show S_X0_quotient_29 _ _ K (LQ3 (S_X0_quotient_29 (lN b) (dgI b) K) n) _ _ _ = _
    unfold S_X0_quotient_29
    obtain ⟨d1, d2⟩ := dv_low hb0 hl
    rw [nI_pred, if_neg (nI_pos (by omega)), dgI_p hb0, nI_add, x0_one hl62 (by omega), obn_s, dv]
    by_cases hbit : l.testBit (u + (bl b - 1)) = true
    · have hq2 : q ||| 1 * 2 ^ u < 2 ^ 62 := Nat.or_lt_two_pow hq (by rw [Nat.one_mul]; exact Nat.pow_lt_pow_right (by decide) (by omega))
      have i2 := ih (l ^^^ b * 2 ^ u) (q ||| 1 * 2 ^ u) n (by rw [← Nat.shiftLeft_eq]; exact d1 hbit) (by omega) hq2 (by omega)
      rw [if_pos hbit, if_pos hbit, if_neg one_1, wb_shl b (by omega), lN_xor, show (1 : Int64) = lN 1 from rfl, wb_shl 1 (by omega), wb_or (by omega) (by have := Nat.pow_lt_pow_right (show 1 < 2 by decide) (show u < 62 by omega); omega), Nat.shiftLeft_eq, Nat.shiftLeft_eq]
      rw [dgI_p hb0, ← nI_m1] at i2
      exact i2
    · have i2 := ih l q n (d2 (by simpa using hbit)) (by omega) hq (by omega)
      rw [if_neg hbit, if_neg hbit, if_pos one_0]
      rw [dgI_p hb0, ← nI_m1] at i2
      exact i2
theorem lN_ne {b : Nat} (h : b ≠ 0) (hb : b < 2 ^ 64) : ¬ lN b = (0 : Int64) := fun h9 => by
  have e := congrArg (fun q : Int64 => q.toBitVec.toNat) h9
  simp only [wb_tn hb] at e
  exact h e
theorem x0_rest {f b : Nat} (hb0 : b ≠ 0) (hf : f < 2 ^ 61) (hb : b < 2 ^ 61) : F_X0_rest (lN f) (lN b) = some (lN (rst f b)) := by
  have h1 : bl f ≤ 61 := bl_le.mpr hf
  have h2 : bl b ≤ 61 := bl_le.mpr hb
  have h3 := bl_pos hb0
  unfold F_X0_rest
  rw [if_neg (lN_ne hb0 (by omega)), x0_deg (by omega), x0_deg (by omega), obn_s, obn_s]
  show LQ2 (S_X0_rest_26 (lN b) (dgI b) _) 20000 (lN f) (dgI f - dgI b) = _
  by_cases h : bl b ≤ bl f + 1
  · rw [show dgI f - dgI b = nI (dvu f b) - 1 from dd_1 _ (by omega) _ (by omega) h]
    exact x0_rest_l hb0 (by omega) _ (dvu f b) f 20000 (by rw [← bl_le, dvu]; omega) (by rw [dvu]; omega) (by rw [dvu]; omega)
  · have e : rst f b = f := by
      rw [rst, show dvu f b = 0 by rw [dvu]; omega]
      rfl
    rw [e]
    show S_X0_rest_26 _ _ _ _ _ _ = _
    unfold S_X0_rest_26
    rw [if_pos (show dgI f - dgI b < 0 from dd_2 _ (by omega) _ (by omega) (by omega))]
theorem x0_quo {f b : Nat} (hb0 : b ≠ 0) (hf : f < 2 ^ 61) (hb : b < 2 ^ 61) : F_X0_quotient (lN f) (lN b) = some (lN (quo f b)) := by
  have h1 : bl f ≤ 61 := bl_le.mpr hf
  have h2 : bl b ≤ 61 := bl_le.mpr hb
  have h3 := bl_pos hb0
  unfold F_X0_quotient
  rw [if_neg (lN_ne hb0 (by omega)), x0_deg (by omega), x0_deg (by omega), obn_s, obn_s]
  show LQ3 (S_X0_quotient_29 (lN b) (dgI b) _) 20000 (lN f) (lN 0) (dgI f - dgI b) = _
  by_cases h : bl b ≤ bl f + 1
  · rw [show dgI f - dgI b = nI (dvu f b) - 1 from dd_1 _ (by omega) _ (by omega) h]
    exact x0_quo_l hb0 (by omega) _ (dvu f b) f 0 20000 (by rw [← bl_le, dvu]; omega) (by rw [dvu]; omega) (by decide) (by rw [dvu]; omega)
  · rw [quo_bl0 (by omega)]
    show S_X0_quotient_29 _ _ _ _ _ _ _ = _
    unfold S_X0_quotient_29
    rw [if_pos (show dgI f - dgI b < 0 from dd_2 _ (by omega) _ (by omega) (by omega))]
theorem x0_rest0 (f : Nat) : F_X0_rest (lN f) (lN 0) = some (lN f) := by
  unfold F_X0_rest
  rw [if_pos (show lN 0 = (0 : Int64) from rfl)]
theorem x0_into {f b : Nat} (hb0 : b ≠ 0) (hf : f < 2 ^ 61) (hb : b < 2 ^ 61) : F_X0_goesInto (lN b) (lN f) = some (nI (if rst f b = 0 then 1 else 0)) := by
  have h1 := (rst_bl hb0 (show f < 2 ^ 62 by omega) (show b < 2 ^ 62 by omega)).2
  have h2 : bl f ≤ 61 := bl_le.mpr hf
  have h3 : rst f b < 2 ^ 64 := bl_le.mp (by omega)
  unfold F_X0_goesInto
  rw [x0_rest hb0 hf hb, obn_s]
  by_cases h : rst f b = 0
  · rw [h, if_pos (show lN 0 = (0 : Int64) from rfl), if_pos rfl]; rfl
  · rw [if_neg (lN_ne h h3), if_neg h]; rfl
/-- the greatest of both -/
noncomputable def eu : Nat → Nat → Nat → Nat
  | 0, a, _ => a
  | f + 1, a, b => if b = 0 then a else eu f b (rst a b)
noncomputable def co (a b : Nat) : Nat := eu 64 a b
theorem x0_gcd_l (K : Int64 → Option Int64) : ∀ f a b k n, bl b < f → a < 2 ^ 40 → b < 2 ^ 40 → k + f ≤ 1000 → f < n → LQ3 (S_X0_greatestBoth_9 K) n (lN a) (lN b) (nI k) = K (lN (eu f a b)) := by
  intro f
  induction f with
  | zero => intro a b k n h; omega
  | succ f ih =>
    intro a b k n h ha hb hk hn
    obtain ⟨n, rfl⟩ : ∃ m, n = m + 1 := ⟨n - 1, by omega⟩
    show S_X0_greatestBoth_9 K (LQ3 (S_X0_greatestBoth_9 K) n) _ _ _ = _
    unfold S_X0_greatestBoth_9
    rw [if_neg (show ¬ (1000 : Int32) ≤ nI k from nI_ge (b := 1000) (by omega) (by omega)), eu]
    by_cases h0 : b = 0
    · subst h0
      rw [if_pos (show lN 0 = (0 : Int64) from rfl), if_pos rfl]
    · rw [if_neg (lN_ne h0 (by omega)), if_neg h0, x0_rest h0 (by omega) (by omega), obn_s]
      have r := rst_bl h0 (show a < 2 ^ 62 by omega) (show b < 2 ^ 62 by omega)
      have hb2 : bl b ≤ 40 := bl_le.mpr hb
      have i2 := ih b (rst a b) (k + 1) n (by omega) hb (bl_le.mp (by omega)) (by omega) (by omega)
      rw [nI_succ] at i2
      exact i2
theorem x0_gcd {a b : Nat} (ha : a < 2 ^ 40) (hb : b < 2 ^ 40) : F_X0_greatestBoth (lN a) (lN b) = some (lN (co a b)) := by
  have hb2 : bl b ≤ 40 := bl_le.mpr hb
  unfold F_X0_greatestBoth
  exact x0_gcd_l _ 64 a b 0 20000 (by omega) ha hb (by omega) (by omega)
theorem x9_gcd_l (K : Int64 → Option Int64) : ∀ f a b n, bl b < f → a < 2 ^ 40 → b < 2 ^ 40 → f < n → LQ2 (S_X9_commonOf_6 K) n (lN a) (lN b) = K (lN (eu f a b)) := by
  intro f
  induction f with
  | zero => intro a b n h; omega
  | succ f ih =>
    intro a b n h ha hb hn
    obtain ⟨n, rfl⟩ : ∃ m, n = m + 1 := ⟨n - 1, by omega⟩
    show S_X9_commonOf_6 K (LQ2 (S_X9_commonOf_6 K) n) _ _ = _
    unfold S_X9_commonOf_6
    rw [eu]
    by_cases h0 : b = 0
    · subst h0
      rw [if_pos (show lN 0 = (0 : Int64) from rfl), if_pos rfl]
    · rw [if_neg (lN_ne h0 (by omega)), if_neg h0, x9_rest h0 (by omega) (by omega), obn_s]
      have r := rst_bl h0 (show a < 2 ^ 62 by omega) (show b < 2 ^ 62 by omega)
      have hb2 : bl b ≤ 40 := bl_le.mpr hb
      exact ih b (rst a b) n (by omega) hb (bl_le.mp (by omega)) (by omega)
theorem x9_gcd {a b : Nat} (ha : a < 2 ^ 40) (hb : b < 2 ^ 40) : F_X9_commonOf (lN a) (lN b) = some (lN (co a b)) := by
  have hb2 : bl b ≤ 40 := bl_le.mpr hb
  unfold F_X9_commonOf
  exact x9_gcd_l _ 64 a b 20000 (by omega) ha hb (by omega)
