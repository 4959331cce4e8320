/-! what both answer -/
noncomputable def PRC (p : Int32) : Int32 := (F_X9_primesOf p).getD 0
noncomputable def PCD (p k : Int32) : Int32 := (F_X2_codeOf p k).getD 0
theorem fx_X9_primesOf (p0 : Int32) (h0 : 1 ≤ p0.toInt) (h1 : p0.toInt ≤ 10) : ok (F_X9_primesOf p0) (fun r => r = PRC p0) := by
  obtain ⟨n, hn, rfl⟩ := i_of (n := 10) (by omega) h1
  have e := x9_cn hn
  rw [PRC, e]
  exact ok_s rfl
theorem fx_X2_howManyByCounting (p0 : Int32) (h0 : 1 ≤ p0.toInt) (h1 : p0.toInt ≤ 10) : ok (F_X2_howManyByCounting p0) (fun r => r = PRC p0) := by
  obtain ⟨n, hn, rfl⟩ := i_of (n := 10) (by omega) h1
  rw [x2_cn hn, PRC, x9_cn hn]
  exact ok_s rfl
theorem fx_X2_codeOf (p0 p1 : Int32) (h0 : 1 ≤ p0.toInt) (h1 : p0.toInt ≤ 6) (h2 : 0 ≤ p1.toInt) (h3 : p1.toInt ≤ 9) : ok (F_X2_codeOf p0 p1) (fun r => r = PCD p0 p1) := by
  obtain ⟨n, hn, rfl⟩ := i_of (n := 6) (by omega) h1
  obtain ⟨k, hk, rfl⟩ := i_of (n := 9) h2 h3
  rw [PCD, x2_pc hn (by omega)]
  exact ok_s rfl
theorem pc_loop {Q : Int32 × Int32 → Prop} (K0 : Int64 → Option (Int32 × Int32)) (K1 : Unit → Option (Int32 × Int32)) (p0 p1 : Int32) (h0 : 1 ≤ p0.toInt) (h1 : p0.toInt ≤ 6) (h2 : 0 ≤ p1.toInt) (h3 : p1.toInt ≤ 9) (hK0 : ∀ v : Int64, v.toInt32 = PCD p0 p1 → ok (K0 v) Q) (hK1 : (-1 : Int32) = PCD p0 p1 → ok (K1 ()) Q) : ok (LQ2 (S_X9_prime_42 p0 K0 K1) 20000 p1 ((1 : Int64) <<< (p0.toInt64 &&& 63))) Q := by
  obtain ⟨n, hn, rfl⟩ := i_of (n := 6) (by omega) h1
  obtain ⟨k, hk, rfl⟩ := i_of (n := 9) h2 h3
  have h6 := Nat.pow_le_pow_right (show 0 < 2 by decide) hn
  have e := x9_pc_l (R := Unit) hn K0 K1 (2 ^ n) (2 ^ n) k 20000 (by rw [Nat.pow_succ]; omega) (by omega) (by omega)
  rw [sh_1 (by omega), e]
  rw [PCD, x2_pc hn (by omega)] at hK0 hK1
  cases hp : pcd (2 ^ n) (2 ^ n) k with
  | none => rw [hp] at hK1; exact hK1 rfl
  | some r => rw [hp] at hK0; exact hK0 (lN r) (lN_i r)
