/-! S1. what both do to forms, digit by digit -/
theorem uu_s (f : Nat → Int64) (i : Nat) (v w : Int64) : vp_updL (vp_updL f i v) i w = vp_updL f i w := funext fun j => by
  show (if j = i then w else if j = i then v else f j) = if j = i then w else f j
  by_cases h : j = i
  · rw [if_pos h, if_pos h]
  · rw [if_neg h, if_neg h, if_neg h]
theorem uu_a (f : Nat → Int64) (i : Nat) (v : Int64) : vp_updL f i v i = v := if_pos rfl
theorem uu_n {f : Nat → Int64} {i j : Nat} {v : Int64} (h : j ≠ i) : vp_updL f i v j = f j := if_neg h
theorem uu_i {f : Nat → Int64} {i : Nat} {v : Int64} (h : v = f i) : vp_updL f i v = f := funext fun j => by
  show (if j = i then v else f j) = f j
  by_cases hj : j = i
  · rw [if_pos hj, h, hj]
  · rw [if_neg hj]
theorem fx_X7_done (c_t_acts : Int32) (p0 : Int32) : ok (F_X7_done c_t_acts p0) (fun r => r.1 = p0 ∧ r.2 = c_t_acts + (1 : Int32)) := ok_s ⟨rfl, rfl⟩
theorem fx_X9_done (c_t_acts : Int32) (p0 : Int32) : ok (F_X9_done c_t_acts p0) (fun r => r.1 = p0 ∧ r.2 = c_t_acts + (1 : Int32)) := ok_s ⟨rfl, rfl⟩
theorem fx_X7_refuse (c : Int32) : ok (F_X7_refuse c) (fun r => r.1 = (-9 : Int32) ∧ r.2 = c + (1 : Int32)) := ok_s ⟨rfl, rfl⟩
theorem fx_X9_no (c : Int32) : ok (F_X9_no c) (fun r => r.1 = (-9 : Int32) ∧ r.2 = c + (1 : Int32)) := ok_s ⟨rfl, rfl⟩
/-- the degree as an answer -/
noncomputable def DI (x : Int64) : Int32 := (F_X9_degreeOf x).getD 0
theorem DI_is (x : Int64) : F_X9_degreeOf x = some (DI x) ∧ F_X0_degreeOf x = some (DI x) := by
  obtain ⟨n, hn, rfl⟩ := wb_of x
  rw [DI, x9_deg hn, x0_deg hn]
  exact ⟨rfl, rfl⟩
theorem DI_T (x : Int64) : (DI x).toInt = DG x := by
  obtain ⟨r, e, h⟩ := sp_X9_degreeOf x
  rw [(DI_is x).1] at e
  rw [Option.some.inj e]
  exact h.1
theorem fx_X0_degreeOf (p0 : Int64) : ok (F_X0_degreeOf p0) (fun r => r = DI p0 ∧ r.toInt = DG p0 ∧ -1 ≤ r.toInt ∧ r.toInt ≤ 63) := by
  rw [(DI_is p0).2]
  have h1 := DG_ge p0
  have h2 := DG_63 p0
  have h3 := DI_T p0
  exact ok_s (show DI p0 = DI p0 ∧ (DI p0).toInt = DG p0 ∧ -1 ≤ (DI p0).toInt ∧ (DI p0).toInt ≤ 63 from ⟨rfl, by omega, by omega, by omega⟩)
theorem fx_X9_degreeOf (p0 : Int64) : ok (F_X9_degreeOf p0) (fun r => r = DI p0 ∧ r.toInt = DG p0 ∧ -1 ≤ r.toInt ∧ r.toInt ≤ 63) := by
  rw [(DI_is p0).1]
  have h1 := DG_ge p0
  have h2 := DG_63 p0
  have h3 := DI_T p0
  exact ok_s (show DI p0 = DI p0 ∧ (DI p0).toInt = DG p0 ∧ -1 ≤ (DI p0).toInt ∧ (DI p0).toInt ≤ 63 from ⟨rfl, by omega, by omega, by omega⟩)
theorem fx_X7_become (c_t_acts : Int32) (f : Nat → Int64) (p0 : Int32) (p1 : Int64) (h0 : 0 ≤ p0.toInt) (h5 : p0.toInt ≤ 5) : ok (F_X7_become c_t_acts f p0 p1) (fun r => r.1 = DI p1 ∧ r.2.1 = c_t_acts + (1 : Int32) ∧ r.2.2 = vp_updL f p0.toNatClampNeg p1) := by
  unfold F_X7_become
  refine ok_c (ixo h0 (by omega)) (ok_b ?_)
  rw [(DI_is p1).2, obn_s]
  exact ok_s ⟨rfl, rfl, rfl⟩
theorem fx_X9_give (c_t_acts : Int32) (f : Nat → Int64) (p0 : Int32) (p1 : Int64) (hf : FA f) (h0 : 0 ≤ p0.toInt) (h5 : p0.toInt ≤ 5) (hd : DG p1 ≤ 39) : ok (F_X9_give c_t_acts f p0 p1) (fun r => r.1 = DI p1 ∧ r.2.1 = c_t_acts + (1 : Int32) ∧ r.2.2 = vp_updL f p0.toNatClampNeg p1 ∧ FA r.2.2) := by
  unfold F_X9_give
  refine ok_c (ixo h0 (by omega)) (ok_b ?_)
  rw [(DI_is p1).1, obn_s]
  exact ok_s ⟨rfl, rfl, rfl, FA_upd hf _ hd⟩
/-! a digit -/
theorem fx_X0_hasOne (p0 : Int64) (p1 : Int32) : ok (F_X0_hasOne p0 p1) (fun r => (r.toInt = 1 ∧ ((p0 >>> (p1.toInt64 &&& 63)) &&& (1 : Int64)).toInt = 1) ∨ (r.toInt = 0 ∧ ((p0 >>> (p1.toInt64 &&& 63)) &&& (1 : Int64)).toInt ≠ 1)) := by
  unfold F_X0_hasOne
  refine ok_i (fun h => ok_s ?_) (fun h => ok_s ?_)
  · exact Or.inl ⟨rfl, by rw [h]; rfl⟩
  · exact Or.inr ⟨rfl, fun h9 => h (Int64.toInt_inj.mp (by rw [h9]; rfl))⟩
theorem dg_bit {n k : Nat} (hn : n < 2 ^ 40) (hk : k < 40) : (n.testBit k = false → lN n &&& (lN (2 ^ k) ^^^ (-1 : Int64)) = lN n ∧ lN n ||| lN (2 ^ k) = lN n ^^^ lN (2 ^ k)) ∧ (n.testBit k = true → lN n &&& (lN (2 ^ k) ^^^ (-1 : Int64)) = lN n ^^^ lN (2 ^ k) ∧ lN n ||| lN (2 ^ k) = lN n) ∧ lN n ^^^ lN (2 ^ k) ≠ lN n := by
  have hp : 2 ^ k < 2 ^ 64 := Nat.pow_lt_pow_right (by decide) (by omega)
  have hn2 : n < 2 ^ 64 := by omega
  have hx : 2 ^ k ^^^ (2 ^ 64 - 1) < 2 ^ 64 := Nat.xor_lt_two_pow hp (by decide)
  have e1 : lN (2 ^ k) ^^^ (-1 : Int64) = lN (2 ^ k ^^^ (2 ^ 64 - 1)) := by
    rw [show (-1 : Int64) = lN (2 ^ 64 - 1) from rfl, lN_xor]
  rw [e1, wb_and hn2 hx, wb_or hn2 hp, lN_xor]
  have b64 : ∀ i, 64 ≤ i → n.testBit i = false := fun i hi => Nat.testBit_lt_two_pow (Nat.lt_of_lt_of_le hn2 (Nat.pow_le_pow_right (by decide) hi))
  refine ⟨fun h => ⟨congrArg lN ?_, congrArg lN ?_⟩, fun h => ⟨congrArg lN ?_, congrArg lN ?_⟩, fun h => ?_⟩
  · refine Nat.eq_of_testBit_eq fun i => ?_
    rw [Nat.testBit_and, Nat.testBit_xor, Nat.testBit_two_pow, Nat.testBit_two_pow_sub_one]
    by_cases hi : k = i
    · subst hi; simp [h]
    · by_cases h6 : i < 64
      · simp [hi, h6]
      · rw [b64 i (by omega)]; simp
  · refine Nat.eq_of_testBit_eq fun i => ?_
    rw [Nat.testBit_or, Nat.testBit_xor, Nat.testBit_two_pow]
    by_cases hi : k = i
    · subst hi; simp [h]
    · simp [hi]
  · refine Nat.eq_of_testBit_eq fun i => ?_
    rw [Nat.testBit_and, Nat.testBit_xor, Nat.testBit_xor, Nat.testBit_two_pow, Nat.testBit_two_pow_sub_one]
    by_cases hi : k = i
    · subst hi; simp [h, show k < 64 by omega]
    · by_cases h6 : i < 64
      · simp [hi, h6]
      · rw [b64 i (by omega)]; simp; omega
  · refine Nat.eq_of_testBit_eq fun i => ?_
    rw [Nat.testBit_or, Nat.testBit_two_pow]
    by_cases hi : k = i
    · subst hi; simp [h]
    · simp [hi]
  · have e2 := congrArg (fun q : Int64 => q.toBitVec.toNat) h
    simp only [wb_tn (Nat.xor_lt_two_pow hn2 hp), wb_tn hn2] at e2
    have e3 := congrArg (fun q : Nat => q.testBit k) e2
    simp only [Nat.testBit_xor, Nat.testBit_two_pow_self] at e3
    cases hb : n.testBit k <;> rw [hb] at e3 <;> cases e3
/-- the digit's answer and what stands there then -/
theorem dg_all {x : Int64} {p : Int32} (hx : DG x ≤ 39) (h0 : 0 ≤ p.toInt) (h1 : p.toInt ≤ 39) :
    (((x >>> (p.toInt64 &&& 63)) &&& (1 : Int64)).toInt ≠ 1 → x &&& (((1 : Int64) <<< (p.toInt64 &&& 63)) ^^^ (-1 : Int64)) = x ∧ x ||| ((1 : Int64) <<< (p.toInt64 &&& 63)) = x ^^^ ((1 : Int64) <<< (p.toInt64 &&& 63))) ∧
    (((x >>> (p.toInt64 &&& 63)) &&& (1 : Int64)).toInt = 1 → x &&& (((1 : Int64) <<< (p.toInt64 &&& 63)) ^^^ (-1 : Int64)) = x ^^^ ((1 : Int64) <<< (p.toInt64 &&& 63)) ∧ x ||| ((1 : Int64) <<< (p.toInt64 &&& 63)) = x) ∧ x ^^^ ((1 : Int64) <<< (p.toInt64 &&& 63)) ≠ x := by
  obtain ⟨n, hn, hn2, rfl, _⟩ := DG_fo (x := x) (k := 40) (by omega)
  obtain ⟨k, hk, rfl⟩ := i_of (n := 39) h0 h1
  obtain ⟨a, b, c⟩ := dg_bit hn (show k < 40 by omega)
  rw [sh_1 (by omega)]
  have t := tb_1 (b := n) (k := k) (by omega) (by omega)
  refine ⟨fun h => a ?_, fun h => b ?_, c⟩
  · cases hb : n.testBit k with
    | false => rfl
    | true => exact absurd (by rw [t.mpr hb]; rfl) h
  · exact t.mp (Int64.toInt_inj.mp (by rw [h]; rfl))
theorem jd_94 (i : Int32) (x : Int64) (v : Int64) (ac th : Int32) (f : Nat → Int64) (h0 : 0 ≤ i.toInt) (h5 : i.toInt ≤ 5) : J_X9_digit_94 i x i v ac th f = some (if v = x then (0 : Int32) else (1 : Int32), ac + (1 : Int32), th, vp_updL f i.toNatClampNeg v) := by
  have hc := ixo (x := i) (N := 6) h0 (by omega)
  unfold J_X9_digit_94 chk
  rw [if_pos hc]
  simp only [bnd]
  rw [if_pos hc, uu_a]
  by_cases h : v = x
  · rw [if_pos h, if_pos h]; rfl
  · rw [if_neg h, if_neg h]; rfl
/-! a run -/
theorem mx_add {k x : Nat} (h : x < 2 ^ k) : x ^^^ 2 ^ k = 2 ^ k + x := by
  have e := Nat.two_pow_add_eq_or_of_lt h 1
  rw [Nat.mul_one] at e
  rw [e]
  refine Nat.eq_of_testBit_eq fun i => ?_
  rw [Nat.testBit_xor, Nat.testBit_or, Nat.testBit_two_pow]
  by_cases hi : k = i
  · subst hi
    rw [Nat.testBit_lt_two_pow h]; simp
  · simp [hi]
set_option maxRecDepth 100000 in
theorem run_c : ∀ b, b < 41 → ∀ a, a < b + 1 → ((1 : Int64) <<< ((nI b).toInt64 &&& 63)) - ((1 : Int64) <<< ((nI a).toInt64 &&& 63)) = lN (2 ^ b - 2 ^ a) := by decide +kernel
theorem DG_lNle {n k : Nat} (h : n < 2 ^ k) (hk : k ≤ 63) : DG (lN n) ≤ (k : Int) - 1 := by
  have h2 : n < 2 ^ 64 := Nat.lt_of_lt_of_le h (Nat.pow_le_pow_right (by decide) (by omega))
  rw [DG_lN h2]
  have := bl_le.mpr h
  omega
theorem run_v {x : Int64} {a b : Int32} (hx : DG x ≤ 39) (h0 : 0 ≤ a.toInt) (h1 : a.toInt ≤ b.toInt) (h2 : b.toInt ≤ 40) : DG (x ^^^ (((1 : Int64) <<< (b.toInt64 &&& 63)) - ((1 : Int64) <<< (a.toInt64 &&& 63)))) ≤ 39 := by
  obtain ⟨A, hA, rfl⟩ := i_of (n := 40) h0 (by omega)
  obtain ⟨B, hB, rfl⟩ := i_of (n := 40) (x := b) (by omega) h2
  rw [nI_toInt (by omega), nI_toInt (by omega)] at h1
  rw [run_c B (by omega) A (by omega)]
  have hb := Nat.pow_le_pow_right (show 0 < 2 by decide) (show B ≤ 40 by omega)
  have ha := Nat.two_pow_pos A
  exact DG_xor hx (DG_lNle (k := 40) (by omega) (by decide))
theorem run_loop {Q : Int32 × Int32 × Int32 × (Nat → Int64) → Prop} (K : (Nat → Int64) → Option (Int32 × Int32 × Int32 × (Nat → Int64))) (f : Nat → Int64) (i a b : Int32) (hf : FA f) (hi0 : 0 ≤ i.toInt) (hi5 : i.toInt ≤ 5) (h0 : 0 ≤ a.toInt) (h1 : a.toInt ≤ b.toInt) (h2 : b.toInt ≤ 40) (hK : ∀ g, FA g → g = vp_updL f i.toNatClampNeg (f i.toNatClampNeg ^^^ (((1 : Int64) <<< (b.toInt64 &&& 63)) - ((1 : Int64) <<< (a.toInt64 &&& 63)))) → ok (K g) Q) : ok (LQ2 (S_X9_run_44 i b K) 20000 a f) Q := by
  have hK := hK _ (FA_upd hf _ (run_v (hf _) h0 h1 h2)) rfl
  obtain ⟨A, hA, rfl⟩ := i_of (n := 40) h0 (by omega)
  obtain ⟨B, hB, rfl⟩ := i_of (n := 40) (x := b) (by omega) h2
  rw [nI_toInt (by omega), nI_toInt (by omega)] at h1
  have hAB : A ≤ B := by omega
  rw [run_c B (by omega) A (by omega)] at hK
  refine ok_L2 (fun y g => ∃ k, A ≤ k ∧ k ≤ B ∧ y = nI k ∧ g = vp_updL f i.toNatClampNeg (f i.toNatClampNeg ^^^ lN (2 ^ k - 2 ^ A))) (fun y _ => (50 - y.toInt).toNat) (fun ih y g hI hih => ?_) 20000 _ _ ⟨A, Nat.le_refl _, hAB, rfl, ?_⟩ (by rw [nI_toInt (by omega)]; omega)
  · obtain ⟨k, h3, h4, rfl, rfl⟩ := hI
    unfold S_X9_run_44
    by_cases hk : B ≤ k
    · rw [if_pos (nI_le hk (by omega)), show k = B by omega]
      exact hK
    · rw [if_neg (nI_ge (by omega) (by omega))]
      have hc := ixo (x := i) (N := 6) hi0 (by omega)
      refine ok_c hc (ok_c hc (ok_bx (fun g2 eg => ok_bx (fun y2 ey => ?_))))
      have ey : y2 = nI (k + 1) := by rw [ey, nI_succ]
      subst ey
      refine hih _ _ ⟨k + 1, by omega, by omega, rfl, ?_⟩ (by rw [nI_toInt (by omega), nI_toInt (by omega)]; omega)
      rw [eg, uu_a, uu_s, sh_1 (by omega)]
      obtain ⟨n, hn, e⟩ := wb_of (f i.toNatClampNeg)
      have hkA := Nat.pow_le_pow_right (show 0 < 2 by decide) h3
      have hA0 := Nat.two_pow_pos A
      rw [e, lN_xor, lN_xor, lN_xor, Nat.xor_assoc, mx_add (x := 2 ^ k - 2 ^ A) (k := k) (by omega)]
      rw [show 2 ^ k + (2 ^ k - 2 ^ A) = 2 ^ (k + 1) - 2 ^ A by rw [Nat.pow_succ]; omega]
  · have e : f i.toNatClampNeg ^^^ lN (2 ^ A - 2 ^ A) = f i.toNatClampNeg := by
      obtain ⟨n, hn, e⟩ := wb_of (f i.toNatClampNeg)
      rw [e, lN_xor, Nat.sub_self, Nat.xor_zero]
    exact (uu_i e).symm
/-! the slope -/
noncomputable def slA (n : Nat) : Nat → Nat
  | 0 => 0
  | k + 1 => slA n k ||| n / 2 ^ (2 * k + 1) % 2 * 2 ^ (2 * k)
theorem slA_bit (n k i : Nat) : (slA n k).testBit i = (decide (i < 2 * k) && (decide (i % 2 = 0) && n.testBit (i + 1))) := by
  induction k with
  | zero => simp [slA]
  | succ k ih =>
    have hm := Nat.mod_lt (n / 2 ^ (2 * k + 1)) (show 0 < 2 by decide)
    have hb : (n / 2 ^ (2 * k + 1) % 2 * 2 ^ (2 * k)).testBit i = (decide (i = 2 * k) && n.testBit (i + 1)) := by
      rw [Nat.testBit_mul_two_pow]
      by_cases h : i = 2 * k
      · subst h
        rw [Nat.sub_self, Nat.testBit_eq_decide_div_mod_eq (x := n), Nat.testBit_zero]
        simp
      · by_cases h2 : 2 * k ≤ i
        · have h3 : (n / 2 ^ (2 * k + 1) % 2).testBit (i - 2 * k) = false := Nat.testBit_lt_two_pow (Nat.lt_of_lt_of_le hm (by have := Nat.pow_le_pow_right (show 0 < 2 by decide) (show 1 ≤ i - 2 * k by omega); omega))
          rw [h3]; simp [h]
        · simp [h, h2]
    rw [slA, Nat.testBit_or, ih, hb]
    by_cases h1 : i < 2 * k
    · have h2 : i < 2 * (k + 1) := by omega
      have h3 : ¬ i = 2 * k := by omega
      simp [h1, h2, h3]
    · by_cases h3 : i = 2 * k
      · subst h3
        have h4 : 2 * k < 2 * (k + 1) := by omega
        simp [h4]
      · by_cases h4 : i = 2 * k + 1
        · subst h4
          have h5 : (2 * k + 1) % 2 = 1 := by omega
          simp [h5]
        · have h5 : ¬ i < 2 * (k + 1) := by omega
          simp [h1, h3, h5]
theorem ev_bit : ∀ i, i < 64 → (366503875925 : Nat).testBit i = (decide (i < 40) && decide (i % 2 = 0)) := by decide +kernel
theorem sl_eq {n : Nat} (hn : n < 2 ^ 40) : slA n 20 = (n / 2) &&& 366503875925 := by
  refine Nat.eq_of_testBit_eq fun i => ?_
  rw [slA_bit, Nat.testBit_and, Nat.testBit_div_two]
  by_cases h : i < 64
  · rw [ev_bit i h]
    by_cases h2 : i < 40
    · simp [h2, Bool.and_comm]
    · simp [h2]
  · have e1 : n.testBit (i + 1) = false := Nat.testBit_lt_two_pow (Nat.lt_of_lt_of_le hn (Nat.pow_le_pow_right (by decide) (by omega)))
    rw [e1]; simp
noncomputable def sL (x : Int64) : Int64 := ((x >>> ((1 : Int32).toInt64 &&& 63)) &&& (366503875925 : Int64))
theorem slA_lt {n : Nat} (hn : n < 2 ^ 40) (k : Nat) (hk : k ≤ 20) : slA n k < 2 ^ 40 := by
  induction k with
  | zero => exact Nat.two_pow_pos _
  | succ k ih =>
    have hm := Nat.mod_lt (n / 2 ^ (2 * k + 1)) (show 0 < 2 by decide)
    rw [slA]
    refine Nat.or_lt_two_pow (ih (by omega)) ?_
    have h1 : n / 2 ^ (2 * k + 1) % 2 * 2 ^ (2 * k) ≤ 1 * 2 ^ (2 * k) := Nat.mul_le_mul_right _ (by omega)
    have h2 := Nat.pow_lt_pow_right (show 1 < 2 by decide) (show 2 * k < 40 by omega)
    omega
theorem sl_loop {Q : Int32 × Int32 × Int32 × (Nat → Int64) → Prop} (K : Int64 → Option (Int32 × Int32 × Int32 × (Nat → Int64))) (f : Nat → Int64) (i : Int32) (hf : FA f) (hi0 : 0 ≤ i.toInt) (hi5 : i.toInt ≤ 5) (hK : ∀ v, DG v ≤ 39 → v = ((f i.toNatClampNeg) >>> ((1 : Int32).toInt64 &&& 63)) &&& (366503875925 : Int64) → ok (K v) Q) : ok (LQ2 (S_X9_slope_26 i f K) 20000 (0 : Int64) (0 : Int32)) Q := by
  obtain ⟨n, hn, hn2, e, _⟩ := DG_fo (x := f i.toNatClampNeg) (k := 40) (by have := hf i.toNatClampNeg; omega)
  have hc := ixo (x := i) (N := 6) hi0 (by omega)
  refine ok_L2 (fun v y => ∃ k, k ≤ 20 ∧ y = nI (2 * k) ∧ v = lN (slA n k)) (fun _ y => (50 - y.toInt).toNat) (fun ih v y hI hih => ?_) 20000 _ _ ⟨0, by omega, rfl, rfl⟩ (by decide)
  obtain ⟨k, hk, rfl, rfl⟩ := hI
  have hl := slA_lt hn k hk
  unfold S_X9_slope_26
  by_cases h : k = 20
  · subst h
    rw [if_pos (show (40 : Int32) ≤ nI (2 * 20) by decide)]
    refine hK _ (DG_lNle (k := 40) hl (by decide)) ?_
    rw [e, show ((1 : Int32).toInt64 &&& 63) = ((nI 1).toInt64 &&& 63) from rfl, sh_r (by omega) (by decide), show (366503875925 : Int64) = lN 366503875925 from rfl, wb_and (Nat.lt_of_le_of_lt (Nat.div_le_self _ _) hn2) (by decide), sl_eq hn, Nat.pow_one]
  · rw [if_neg (show ¬ (40 : Int32) ≤ nI (2 * k) from nI_ge (b := 40) (by omega) (by omega))]
    refine ok_c hc (ok_bx (fun v2 ev => ok_bx (fun y2 ey => ?_)))
    have ey : y2 = nI (2 * (k + 1)) := by
      rw [ey, show (2 : Int32) = nI 2 from rfl, nI_add]
      exact congrArg nI (by omega)
    subst ey
    refine hih _ _ ⟨k + 1, by omega, rfl, ?_⟩ (by rw [nI_toInt (by omega), nI_toInt (by omega)]; omega)
    have hm := Nat.mod_lt (n / 2 ^ (2 * k + 1)) (show 0 < 2 by decide)
    have h1 : n / 2 ^ (2 * k + 1) % 2 * 2 ^ (2 * k) < 2 ^ 64 := by
      have h1 : n / 2 ^ (2 * k + 1) % 2 * 2 ^ (2 * k) ≤ 1 * 2 ^ (2 * k) := Nat.mul_le_mul_right _ (by omega)
      have h2 := Nat.pow_lt_pow_right (show 1 < 2 by decide) (show 2 * k < 40 by omega)
      omega
    rw [ev, e, show nI (2 * k) + (1 : Int32) = nI (2 * k + 1) from (nI_succ _).symm, sh_r (by omega) (by omega), wb_a1 (Nat.lt_of_le_of_lt (Nat.div_le_self _ _) hn2), wb_shl _ (by omega), wb_or (by omega) h1, slA]
/-! the shift down -/
theorem sh_neg {x : Int64} {p : Int32} (hx : DG x ≤ 39) (h0 : p.toInt < 0) (h1 : -39 ≤ p.toInt) : DG (x >>> ((-p).toInt64 &&& 63)) ≤ 39 := by
  have hn := negT (a := p) (by omega)
  exact Int.le_trans (DG_shr (by rw [hn]; omega) (by rw [hn]; omega) (by omega)) hx
/-! the row's answers -/
theorem i64_i (x : Int32) : x.toInt64.toInt32 = x := Int32.toInt32_toInt64 x
