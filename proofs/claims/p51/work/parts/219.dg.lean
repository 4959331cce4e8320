/-! the degree of a form, as a number -/
noncomputable def DG (x : Int64) : Int := (bl x.toBitVec.toNat : Int) - 1
theorem DG_lN {n : Nat} (hn : n < 2 ^ 64) : DG (lN n) = (bl n : Int) - 1 := by rw [DG, wb_tn hn]
theorem DG_lt {x : Int64} {k : Nat} (h0 : 0 ≤ x.toInt) (h : x.toInt < 2 ^ k) : DG x < k := by
  obtain ⟨n, hn, rfl⟩ := pk_lOf (x := x) (by rw [Int64.lt_iff_toInt_lt, show (0 : Int64).toInt = 0 from by decide]; omega)
  rw [pk_lT hn] at h
  have h2 : n < 2 ^ k := by exact_mod_cast h
  have := bl_le.mpr h2
  rw [DG_lN (by omega)]
  omega
theorem half_k : ∀ k, k < 11 → ((2 : Int64) <<< ((nI k / (2 : Int32)).toInt64 &&& 63)).toInt ≤ 64 := by decide +kernel
theorem half_sh {x : Int32} (h : 0 ≤ x.toInt) (h2 : x.toInt ≤ 10) : ((2 : Int64) <<< ((x / (2 : Int32)).toInt64 &&& 63)).toInt ≤ 64 := by
  obtain ⟨k, hk, rfl⟩ := i_of (n := 10) h h2
  exact half_k k (by omega)
theorem div_b {a b : Int32} (h : 0 ≤ a.toInt) (h2 : a.toInt ≤ 100) (hb : 1 ≤ b.toInt) (hb2 : b.toInt ≤ 100) : 0 ≤ (a / b).toInt ∧ (a / b).toInt ≤ 100 := by
  obtain ⟨j, hj, rfl⟩ := i_of (n := 100) h h2
  obtain ⟨k, hk, rfl⟩ := i_of (n := 100) (x := b) (by omega) hb2
  rw [nI_toInt (by omega)] at hb
  have := Nat.div_le_self j k
  rw [pk_div (by omega) (by omega) (by omega)]
  generalize j / k = q at this ⊢
  rw [nI_toInt (by omega)]
  omega
theorem sh32k : ∀ k, k < 7 → 1 ≤ ((1 : Int32) <<< (nI k &&& 31)).toInt ∧ ((1 : Int32) <<< (nI k &&& 31)).toInt ≤ 64 ∧ ((2 : Int32) <<< (nI k &&& 31)).toInt ≤ 128 := by decide +kernel
theorem sh32 {x : Int32} (h : 0 ≤ x.toInt) (h2 : x.toInt ≤ 6) : 1 ≤ ((1 : Int32) <<< (x &&& 31)).toInt ∧ ((1 : Int32) <<< (x &&& 31)).toInt ≤ 64 ∧ ((2 : Int32) <<< (x &&& 31)).toInt ≤ 128 := by
  obtain ⟨k, hk, rfl⟩ := i_of (n := 6) h h2
  exact sh32k k (by omega)
theorem DG_i {x : Int32} (h : 0 ≤ x.toInt) (h2 : x.toInt ≤ 255) : DG x.toInt64 < ((8 : Nat) : Int) := DG_lt (by rw [Int32.toInt_toInt64]; exact h) (by rw [Int32.toInt_toInt64]; omega)
