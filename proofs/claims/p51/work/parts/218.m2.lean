/-! M2. the reference's forms as numbers: degree, product, quotient, rest -/
theorem bl_shr (x k : Nat) : bl (x / 2 ^ k) = bl x - k := by
  have h : ∀ j, bl (x / 2 ^ k) ≤ j ↔ bl x - k ≤ j := fun j => by
    rw [bl_le, Nat.div_lt_iff_lt_mul (Nat.two_pow_pos k), ← Nat.pow_add, ← bl_le]
    omega
  exact Nat.le_antisymm ((h _).mpr (Nat.le_refl _)) ((h _).mp (Nat.le_refl _))
theorem ni_m2 {z : Nat} (h : 2 ≤ z) : nI z + (-2) = nI (z - 2) := (Int32.sub_eq_add_neg (nI z) (nI 2)).symm.trans (pk_sub h)
theorem ni_m4 {z : Nat} (h : 4 ≤ z) : nI z + (-4) = nI (z - 4) := (Int32.sub_eq_add_neg (nI z) (nI 4)).symm.trans (pk_sub h)
theorem ni_m8 {z : Nat} (h : 8 ≤ z) : nI z + (-8) = nI (z - 8) := (Int32.sub_eq_add_neg (nI z) (nI 8)).symm.trans (pk_sub h)
theorem nz_73 {x z : Nat} (h0 : 1 ≤ x) (hx : x < 4) (hz : bl x ≤ z + 1) : J_J6_numberOfLeadingZeros_0f7a4_73 (nI x) (nI z) = some (nI (z + 1 - bl x)) := by
  unfold J_J6_numberOfLeadingZeros_0f7a4_73
  have hb : bl x = x / 2 + 1 := by
    rcases (show x = 1 ∨ x = 2 ∨ x = 3 by omega) with h | h | h <;> subst h
    · exact bl_of (k := 0) (by decide) (by decide)
    · exact bl_of (k := 1) (by decide) (by decide)
    · exact bl_of (k := 1) (by decide) (by decide)
  rw [pk_ushrN (by omega) 1 1 (by decide +kernel), Nat.pow_one, pk_sub (by omega)]
  exact congrArg (fun q => some (nI q)) (by omega)
theorem nz_61 {x z : Nat} (h0 : 1 ≤ x) (hx : x < 16) (hz : bl x ≤ z + 1) : J_J6_numberOfLeadingZeros_0f7a4_61 (nI x) (nI z) = some (nI (z + 1 - bl x)) := by
  unfold J_J6_numberOfLeadingZeros_0f7a4_61
  by_cases h : x < 4
  · rw [if_pos (show nI x < (4 : Int32) from (nI_ltI (b := 4) (by omega) (by omega)).mpr h)]
    exact nz_73 h0 h hz
  · rw [if_neg (show ¬ nI x < (4 : Int32) from fun h9 => h ((nI_ltI (b := 4) (by omega) (by omega)).mp h9))]
    simp only [bnd]
    have h4 : 3 ≤ bl x := bl_gt.mpr (show 2 ^ 2 ≤ x by omega)
    have hb := bl_shr x 2
    rw [pk_ushrN (by omega) 2 2 (by decide +kernel), ni_m2 (by omega), nz_73 (by omega) (by omega) (by omega), hb]
    exact congrArg (fun q => some (nI q)) (by omega)
theorem nz_48 {x z : Nat} (h0 : 1 ≤ x) (hx : x < 256) (hz : bl x ≤ z + 1) : J_J6_numberOfLeadingZeros_0f7a4_48 (nI x) (nI z) = some (nI (z + 1 - bl x)) := by
  unfold J_J6_numberOfLeadingZeros_0f7a4_48
  by_cases h : x < 16
  · rw [if_pos (show nI x < (16 : Int32) from (nI_ltI (b := 16) (by omega) (by omega)).mpr h)]
    exact nz_61 h0 h hz
  · rw [if_neg (show ¬ nI x < (16 : Int32) from fun h9 => h ((nI_ltI (b := 16) (by omega) (by omega)).mp h9))]
    simp only [bnd]
    have h4 : 5 ≤ bl x := bl_gt.mpr (show 2 ^ 4 ≤ x by omega)
    have hb := bl_shr x 4
    rw [pk_ushrN (by omega) 4 4 (by decide +kernel), ni_m4 (by omega), nz_61 (by omega) (by omega) (by omega), hb]
    exact congrArg (fun q => some (nI q)) (by omega)
theorem nz_33 {x z : Nat} (h0 : 1 ≤ x) (hx : x < 65536) (hz : bl x ≤ z + 1) : J_J6_numberOfLeadingZeros_0f7a4_33 (nI x) (nI z) = some (nI (z + 1 - bl x)) := by
  unfold J_J6_numberOfLeadingZeros_0f7a4_33
  by_cases h : x < 256
  · rw [if_pos (show nI x < (256 : Int32) from (nI_ltI (b := 256) (by omega) (by omega)).mpr h)]
    exact nz_48 h0 h hz
  · rw [if_neg (show ¬ nI x < (256 : Int32) from fun h9 => h ((nI_ltI (b := 256) (by omega) (by omega)).mp h9))]
    simp only [bnd]
    have h4 : 9 ≤ bl x := bl_gt.mpr (show 2 ^ 8 ≤ x by omega)
    have hb := bl_shr x 8
    rw [pk_ushrN (by omega) 8 8 (by decide +kernel), ni_m8 (by omega), nz_48 (by omega) (by omega) (by omega), hb]
    exact congrArg (fun q => some (nI q)) (by omega)
theorem ni_neg {m : Nat} (h1 : 2 ^ 31 ≤ m) (hm : m < 2 ^ 32) : nI m < 0 := by
  have c := BitVec.toInt_eq_toNat_cond (nI m).toBitVec
  rw [pk_tn hm] at c
  rw [Int32.lt_iff_toInt_lt, show (0 : Int32).toInt = 0 from by decide]
  show (nI m).toBitVec.toInt < 0
  rw [c]
  split <;> omega
theorem ni_0 {m : Nat} (hm : m < 2 ^ 32) (h : nI m = 0) : m = 0 := by
  have c := pk_tn hm
  rw [h] at c
  exact c.symm
theorem nlz32 {m : Nat} (hm : m < 2 ^ 32) : F_J6_numberOfLeadingZeros_0f7a4 (nI m) = some (nI (32 - bl m)) := by
  by_cases h0 : m = 0
  · subst h0
    rw [bl_0]
    decide +kernel
  · unfold F_J6_numberOfLeadingZeros_0f7a4
    have hb : bl m ≤ 32 := bl_le.mpr hm
    by_cases hs : m < 2 ^ 31
    · rw [if_pos (show (0 : Int32) < nI m from (nI_ltI (a := 0) (by omega) hs).mpr (by omega))]
      by_cases h : m < 65536
      · rw [if_pos (show nI m < (65536 : Int32) from (nI_ltI (b := 65536) hs (by omega)).mpr h)]
        exact nz_33 (z := 31) (by omega) h hb
      · rw [if_neg (show ¬ nI m < (65536 : Int32) from fun h9 => h ((nI_ltI (b := 65536) hs (by omega)).mp h9))]
        simp only [bnd]
        have h4 : 17 ≤ bl m := bl_gt.mpr (show 2 ^ 16 ≤ m by omega)
        have hb2 := bl_shr m 16
        rw [pk_ushrN (by omega) 16 16 (by decide +kernel), show (31 : Int32) + (-16) = nI 15 from by decide +kernel, nz_33 (by omega) (by omega) (by omega), hb2]
        exact congrArg (fun q => some (nI q)) (by omega)
    · have hn := ni_neg (by omega) hm
      have hb4 : 32 ≤ bl m := bl_gt.mpr (show 2 ^ 31 ≤ m by omega)
      rw [if_neg (show ¬ (0 : Int32) < nI m from fun h9 => by
        rw [Int32.lt_iff_toInt_lt] at hn h9
        omega), if_neg (fun h9 => h0 (ni_0 hm h9)), show 32 - bl m = 0 by omega]
      rfl
theorem nlz64 {n : Nat} (hn : n < 2 ^ 64) : F_J13_numberOfLeadingZeros_95d88 (lN n) = some (nI (64 - bl n)) := by
  unfold F_J13_numberOfLeadingZeros_95d88
  have e : ((lN n).toUInt64 >>> ((32 : Int32).toInt64.toUInt64 &&& Int64.toUInt64 63)).toInt64 = lN (n / 2 ^ 32) := wb_shr (k := 32) hn (by decide)
  simp only [bnd]
  rw [e, lN_i, lN_i]
  by_cases h : n < 2 ^ 32
  · have e2 : n / 2 ^ 32 = 0 := Nat.div_eq_of_lt h
    have hb : bl n ≤ 32 := bl_le.mpr h
    rw [e2, if_pos (show nI 0 = 0 from rfl), nlz32 h]
    exact congrArg some ((nI_add 32 (32 - bl n)).trans (congrArg nI (by omega)))
  · have hb : 33 ≤ bl n := bl_gt.mpr (show 2 ^ 32 ≤ n by omega)
    rw [if_neg (fun h9 => by have := ni_0 (m := n / 2 ^ 32) (by omega) h9; omega), nlz32 (by omega), bl_shr]
    exact congrArg some (congrArg nI (by omega))
noncomputable def dgI (n : Nat) : Int32 := nI (bl n) - 1
theorem dgI_63 : ∀ b, b < 65 → (63 : Int32) - nI (64 - b) = nI b - 1 := by decide +kernel
theorem x9_deg {n : Nat} (hn : n < 2 ^ 64) : F_X9_degreeOf (lN n) = some (dgI n) := by
  unfold F_X9_degreeOf
  rw [nlz64 hn]
  exact congrArg some (dgI_63 _ (Nat.lt_succ_of_le (bl_le.mpr hn)))
theorem dgI_tt : ∀ b, b < 65 → (nI b - 1).toInt = (b : Int) - 1 := by decide +kernel
theorem dgI_T {n : Nat} (hn : n < 2 ^ 64) : (dgI n).toInt = (bl n : Int) - 1 := dgI_tt _ (Nat.lt_succ_of_le (bl_le.mpr hn))
theorem dgI_p {n : Nat} (h : n ≠ 0) : dgI n = nI (bl n - 1) := by
  have := bl_pos h
  unfold dgI
  rw [show bl n = bl n - 1 + 1 by omega, nI_pred]
  rfl
/-! the class's degree -/
theorem sm_step {x b w : Nat} (hx : x < 2 ^ b) (hw : ∀ i, i < b → b ≤ i + w → x.testBit i = true) : (x ||| x / 2 ^ w) < 2 ^ b ∧ ∀ i, i < b → b ≤ i + (w + w) → (x ||| x / 2 ^ w).testBit i = true := by
  refine ⟨Nat.or_lt_two_pow hx (Nat.lt_of_le_of_lt (Nat.div_le_self _ _) hx), fun i hi h => ?_⟩
  rw [Nat.testBit_or, Nat.testBit_div_two_pow]
  by_cases h2 : b ≤ i + w
  · rw [hw i hi h2]; rfl
  · rw [hw (i + w) (by omega) (by omega)]; simp
theorem sm_all {x b : Nat} (hx : x < 2 ^ b) (h : ∀ i, i < b → x.testBit i = true) : x = 2 ^ b - 1 := by
  refine Nat.eq_of_testBit_eq fun i => ?_
  rw [Nat.testBit_two_pow_sub_one]
  by_cases hi : i < b
  · rw [h i hi]; simp [hi]
  · rw [Nat.testBit_lt_two_pow (Nat.lt_of_lt_of_le hx (Nat.pow_le_pow_right (by decide) (by omega)))]; simp [hi]
theorem sm_bc : ∀ b, b < 65 → F_J13_bitCount_95d88 (lN (2 ^ b - 1)) = some (nI b) := by decide +kernel
theorem sm_or {x w : Nat} (hx : x < 2 ^ 64) (hw : w < 64) : lN x ||| ((lN x).toUInt64 >>> ((nI w).toInt64.toUInt64 &&& Int64.toUInt64 63)).toInt64 = lN (x ||| x / 2 ^ w) := by
  rw [wb_shr hx hw, wb_or hx (Nat.lt_of_le_of_lt (Nat.div_le_self _ _) hx)]
theorem x0_deg {n : Nat} (hn : n < 2 ^ 64) : F_X0_degreeOf (lN n) = some (dgI n) := by
  have hb : bl n ≤ 64 := bl_le.mpr hn
  have up : ∀ {x : Nat}, x < 2 ^ bl n → x < 2 ^ 64 := fun h => Nat.lt_of_lt_of_le h (Nat.pow_le_pow_right (by decide) hb)
  have a0 : ∀ i, i < bl n → bl n ≤ i + 1 → n.testBit i = true := fun i hi h => by
    have h0 : n ≠ 0 := fun h => by rw [h, bl_0] at hi; omega
    have := bl_top h0
    rwa [show bl n - 1 = i by omega] at this
  obtain ⟨l1, a1⟩ := sm_step (w := 1) (lt_bl n) a0
  obtain ⟨l2, a2⟩ := sm_step (w := 2) l1 a1
  obtain ⟨l3, a3⟩ := sm_step (w := 4) l2 a2
  obtain ⟨l4, a4⟩ := sm_step (w := 8) l3 a3
  obtain ⟨l5, a5⟩ := sm_step (w := 16) l4 a4
  obtain ⟨l6, a6⟩ := sm_step (w := 32) l5 a5
  have e := sm_all l6 (fun i hi => a6 i hi (by omega))
  unfold F_X0_degreeOf
  simp only [bnd]
  rw [show ∀ q : Int64, q ||| (q.toUInt64 >>> ((1 : Int32).toInt64.toUInt64 &&& Int64.toUInt64 63)).toInt64 = q ||| (q.toUInt64 >>> ((nI 1).toInt64.toUInt64 &&& Int64.toUInt64 63)).toInt64 from fun _ => rfl, sm_or hn (by decide)]
  rw [show ∀ q : Int64, q ||| (q.toUInt64 >>> ((2 : Int32).toInt64.toUInt64 &&& Int64.toUInt64 63)).toInt64 = q ||| (q.toUInt64 >>> ((nI 2).toInt64.toUInt64 &&& Int64.toUInt64 63)).toInt64 from fun _ => rfl, sm_or (up l1) (by decide)]
  rw [show ∀ q : Int64, q ||| (q.toUInt64 >>> ((4 : Int32).toInt64.toUInt64 &&& Int64.toUInt64 63)).toInt64 = q ||| (q.toUInt64 >>> ((nI 4).toInt64.toUInt64 &&& Int64.toUInt64 63)).toInt64 from fun _ => rfl, sm_or (up l2) (by decide)]
  rw [show ∀ q : Int64, q ||| (q.toUInt64 >>> ((8 : Int32).toInt64.toUInt64 &&& Int64.toUInt64 63)).toInt64 = q ||| (q.toUInt64 >>> ((nI 8).toInt64.toUInt64 &&& Int64.toUInt64 63)).toInt64 from fun _ => rfl, sm_or (up l3) (by decide)]
  rw [show ∀ q : Int64, q ||| (q.toUInt64 >>> ((16 : Int32).toInt64.toUInt64 &&& Int64.toUInt64 63)).toInt64 = q ||| (q.toUInt64 >>> ((nI 16).toInt64.toUInt64 &&& Int64.toUInt64 63)).toInt64 from fun _ => rfl, sm_or (up l4) (by decide)]
  rw [show ∀ q : Int64, q ||| (q.toUInt64 >>> ((32 : Int32).toInt64.toUInt64 &&& Int64.toUInt64 63)).toInt64 = q ||| (q.toUInt64 >>> ((nI 32).toInt64.toUInt64 &&& Int64.toUInt64 63)).toInt64 from fun _ => rfl, sm_or (up l5) (by decide)]
  rw [e, sm_bc _ (by omega)]
  rfl
/-! bits -/
theorem sh_r {b k : Nat} (hb : b < 2 ^ 62) (hk : k < 64) : lN b >>> ((nI k).toInt64 &&& 63) = lN (b / 2 ^ k) := by
  refine pf_shr ?_ hb
  rw [wb_c k hk, wb_tb, show (64 : BitVec 64) = 64 from rfl, wb_sm k hk, BitVec.toNat_ofNat, Nat.mod_eq_of_lt (by omega)]
theorem tb_1 {b k : Nat} (hb : b < 2 ^ 62) (hk : k < 64) : ((lN b >>> ((nI k).toInt64 &&& 63)) &&& (1 : Int64)) = (1 : Int64) ↔ b.testBit k = true := by
  rw [sh_r hb hk, wb_a1 (Nat.lt_of_le_of_lt (Nat.div_le_self _ _) (by omega)), Nat.testBit_eq_decide_div_mod_eq]
  show lN (b / 2 ^ k % 2) = lN 1 ↔ _
  rw [lN_eq (by omega) (by omega)]
  simp
theorem tb_0 {b k : Nat} (hb : b < 2 ^ 62) (hk : k < 64) : ((lN b >>> ((nI k).toInt64 &&& 63)) &&& (1 : Int64)) = (0 : Int64) ↔ b.testBit k = false := by
  rw [sh_r hb hk, wb_a1 (Nat.lt_of_le_of_lt (Nat.div_le_self _ _) (by omega)), Nat.testBit_eq_decide_div_mod_eq]
  show lN (b / 2 ^ k % 2) = lN 0 ↔ _
  rw [lN_eq (by omega) (by omega)]
  simp only [decide_eq_false_iff_not]
  omega
/-! the reference's product -/
theorem x9_prod_l {a b : Nat} (hb : b < 2 ^ 62) (K : Int64 → Option Int64) : ∀ u k n, k + u = 40 → u < n → LQ2 (S_X9_productOf_6 (lN a) (lN b) K) n (lN (pm k a b)) (nI k) = K (lN (pm 40 a b)) := by
  intro u
  induction u with
  | zero =>
    intro k n hk hn
    obtain ⟨n, rfl⟩ : ∃ m, n = m + 1 := ⟨n - 1, by omega⟩
    have : k = 40 := by omega
    subst this
    show S_X9_productOf_6 _ _ K _ _ _ = _
    unfold S_X9_productOf_6
    rw [if_pos (show (40 : Int32) ≤ nI 40 from by decide +kernel)]
  | succ u ih =>
    intro k n hk hn
    obtain ⟨n, rfl⟩ : ∃ m, n = m + 1 := ⟨n - 1, by omega⟩
    have i2 := ih (k + 1) n (by omega) (by omega)
    show S_X9_productOf_6 _ _ K (LQ2 (S_X9_productOf_6 (lN a) (lN b) K) n) _ _ = _
    unfold S_X9_productOf_6
    rw [if_neg (show ¬ (40 : Int32) ≤ nI k from nI_ge (b := 40) (by omega) (by omega))]
    simp only [bnd]
    rw [nI_succ, pm] at i2
    by_cases hbit : b.testBit k = true
    · rw [if_pos ((tb_1 hb (by omega)).mpr hbit), wb_shl a (by omega), lN_xor]
      rw [if_pos hbit, Nat.shiftLeft_eq] at i2
      exact i2
    · rw [if_neg (fun h => hbit ((tb_1 hb (by omega)).mp h))]
      rw [if_neg hbit, Nat.xor_zero] at i2
      exact i2
theorem x9_prod {a b : Nat} (hb : b < 2 ^ 62) : F_X9_productOf (lN a) (lN b) = some (lN (pm 40 a b)) := x9_prod_l hb _ 40 0 20000 rfl (by decide)
theorem x9_prodc {a b : Nat} (hb : b < 2 ^ 40) : F_X9_productOf (lN a) (lN b) = some (lN (cl a b)) := by
  rw [x9_prod (Nat.lt_trans hb (by decide)), cl, pm_ext (n := 64) hb (by decide)]
/-! the reference's quotient and rest -/
theorem dv_low {b u l : Nat} (hb : b ≠ 0) (hl : l < 2 ^ (bl b - 1 + (u + 1))) : (l.testBit (u + (bl b - 1)) = true → l ^^^ b <<< u < 2 ^ (bl b - 1 + u)) ∧ (l.testBit (u + (bl b - 1)) = false → l < 2 ^ (bl b - 1 + u)) := by
  have hbp := bl_pos hb
  refine ⟨fun hbit => ?_, fun hbit => ?_⟩
  · have t1 : (b <<< u).testBit (u + (bl b - 1)) = true := by
      rw [Nat.testBit_shiftLeft, show u + (bl b - 1) - u = bl b - 1 by omega, bl_top hb]; simp
    have l1 : b <<< u < 2 ^ (bl b - 1 + (u + 1)) := by
      rw [← bl_le, bl_shl hb]; omega
    refine mx_lt (n := bl b - 1 + u) (Nat.xor_lt_two_pow hl l1) ?_
    rw [Nat.testBit_xor, show bl b - 1 + u = u + (bl b - 1) by omega, hbit, t1]; rfl
  · exact mx_lt (n := bl b - 1 + u) hl (by rw [show bl b - 1 + u = u + (bl b - 1) by omega]; exact hbit)
theorem x9_quo_l {b : Nat} (hb0 : b ≠ 0) (hb : b < 2 ^ 62) (K : Int64 → Option Int64) : ∀ u l q n, l < 2 ^ (bl b - 1 + u) → u + bl b ≤ 62 → q < 2 ^ 62 → u < n → LQ3 (S_X9_quotientOf_21 (lN b) (dgI b) K) n (lN l) (lN q) (nI u - 1) = K (lN (dv b u l q).2) := by
  have hbp := bl_pos hb0
  intro u
  induction u with
  | zero =>
    intro l q n hl hu hq hn
    obtain ⟨n, rfl⟩ : ∃ m, n = m + 1 := ⟨n - 1, by omega⟩
    show S_X9_quotientOf_21 _ _ K _ _ _ _ = _
    unfold S_X9_quotientOf_21
    rw [if_pos (show nI 0 - 1 < 0 from by decide +kernel)]
    rfl
  | succ u ih =>
    intro l q n hl hu hq hn
    obtain ⟨n, rfl⟩ : ∃ m, n = m + 1 := ⟨n - 1, by omega⟩
    have hl62 : l < 2 ^ 62 := Nat.lt_of_lt_of_le hl (Nat.pow_le_pow_right (by decide) (by omega))
    show S_X9_quotientOf_21 _ _ K (LQ3 (S_X9_quotientOf_21 (lN b) (dgI b) K) n) _ _ _ = _
    unfold S_X9_quotientOf_21
    rw [nI_pred, if_neg (show ¬ nI u < 0 from nI_pos (by omega)), dgI_p hb0, nI_add]
    simp only [bnd]
    obtain ⟨d1, d2⟩ := dv_low hb0 hl
    have e1 : nI u + (-1) = nI u - 1 := (Int32.sub_eq_add_neg (nI u) 1).symm
    rw [e1]
    by_cases hbit : l.testBit (u + (bl b - 1)) = true
    · rw [if_neg (fun h => by rw [tb_0 hl62 (by omega), hbit] at h; cases h)]
      have hq2 : q ||| 1 * 2 ^ u < 2 ^ 62 := Nat.or_lt_two_pow hq (by rw [Nat.one_mul]; exact Nat.pow_lt_pow_right (by decide) (by omega))
      rw [wb_shl b (by omega), lN_xor, show (1 : Int64) = lN 1 from rfl, wb_shl 1 (by omega), wb_or (by omega) (by have := Nat.pow_lt_pow_right (show 1 < 2 by decide) (show u < 62 by omega); omega)]
      have i2 := ih (l ^^^ b * 2 ^ u) (q ||| 1 * 2 ^ u) n (by rw [← Nat.shiftLeft_eq]; exact d1 hbit) (by omega) hq2 (by omega)
      rw [dgI_p hb0] at i2
      refine Eq.trans i2 ?_
      rw [dv, if_pos hbit, Nat.shiftLeft_eq, Nat.shiftLeft_eq]
    · rw [if_pos ((tb_0 hl62 (by omega)).mpr (by simpa using hbit))]
      have i2 := ih l q n (d2 (by simpa using hbit)) (by omega) hq (by omega)
      rw [dgI_p hb0] at i2
      refine Eq.trans i2 ?_
      rw [dv, if_neg hbit]
theorem dd_1 : ∀ x, x < 65 → ∀ y, y < 65 → y ≤ x + 1 → nI x - 1 - (nI y - 1) = nI (x + 1 - y) - 1 := by decide +kernel
theorem dd_2 : ∀ x, x < 65 → ∀ y, y < 65 → x + 1 < y → nI x - 1 - (nI y - 1) < 0 := by decide +kernel
theorem x9_quo {f b : Nat} (hb0 : b ≠ 0) (hf : f < 2 ^ 61) (hb : b < 2 ^ 61) : F_X9_quotientOf (lN f) (lN b) = some (lN (quo f b)) := by
  have h1 : bl f ≤ 61 := bl_le.mpr hf
  have h2 : bl b ≤ 61 := bl_le.mpr hb
  have h3 := bl_pos hb0
  unfold F_X9_quotientOf
  rw [x9_deg (by omega), x9_deg (by omega)]
  show LQ3 (S_X9_quotientOf_21 (lN b) (dgI b) _) 20000 (lN f) (lN 0) (dgI f - dgI b) = _
  by_cases h : bl b ≤ bl f + 1
  · rw [show dgI f - dgI b = nI (dvu f b) - 1 from dd_1 _ (by omega) _ (by omega) h]
    exact x9_quo_l hb0 (by omega) _ (dvu f b) f 0 20000 (by rw [← bl_le, dvu]; omega) (by rw [dvu]; omega) (by decide) (by rw [dvu]; omega)
  · have e : quo f b = 0 := by
      rw [quo, show dvu f b = 0 by rw [dvu]; omega]
      rfl
    rw [e]
    show S_X9_quotientOf_21 _ _ _ _ _ _ _ = _
    unfold S_X9_quotientOf_21
    rw [if_pos (show dgI f - dgI b < 0 from dd_2 _ (by omega) _ (by omega) (by omega))]
theorem x9_rest {f b : Nat} (hb0 : b ≠ 0) (hf : f < 2 ^ 61) (hb : b < 2 ^ 40) : F_X9_restOf (lN f) (lN b) = some (lN (rst f b)) := by
  have h1 : bl f ≤ 61 := bl_le.mpr hf
  have hb2 : b < 2 ^ 61 := Nat.lt_trans hb (by decide)
  obtain ⟨s1, s2, s3⟩ := dm_spec hb0 (show f < 2 ^ 62 by omega) (show b < 2 ^ 62 by omega)
  have h3 := bl_pos hb0
  have hq : quo f b < 2 ^ 64 := Nat.lt_of_lt_of_le s3 (Nat.pow_le_pow_right (by decide) (by rw [dvu]; omega))
  unfold F_X9_restOf
  rw [x9_quo hb0 hf hb2]
  show obn (F_X9_productOf (lN (quo f b)) (lN b)) _ = _
  rw [x9_prodc hb, cl_comm hq (by omega)]
  show some (lN f ^^^ lN (cl b (quo f b))) = _
  rw [lN_xor]
  have e : f ^^^ cl b (quo f b) = rst f b := by
    have a1 : f ^^^ cl b (quo f b) = (cl b (quo f b) ^^^ rst f b) ^^^ cl b (quo f b) := by rw [s1]
    have a2 : (cl b (quo f b) ^^^ rst f b) ^^^ cl b (quo f b) = (cl b (quo f b) ^^^ cl b (quo f b)) ^^^ rst f b := by ac_rfl
    rw [a1, a2, Nat.xor_self, Nat.zero_xor]
  rw [e]
