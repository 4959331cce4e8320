/-! how many primes, by the table of least divisors -/
noncomputable def kcn (u f : Nat) : Nat := Nat.rec (motive := fun _ => Nat → Nat) (fun _ => 0) (fun _ ih f => Nat.add (Bool.rec 0 1 (Nat.beq (lpT f) f)) (ih (Nat.add f 1))) u f
theorem kcn_is : ∀ u f, 2 ≤ f → f + u ≤ 2048 → kcn u f = cn u f := by
  intro u
  induction u with
  | zero => intro f _ _; rfl
  | succ u ih =>
    intro f h2 h
    show Nat.add (Bool.rec 0 1 (Nat.beq (lpT f) f)) (kcn u (f + 1)) = (if prm f then 1 else 0) + cn u (f + 1)
    rw [ih (f + 1) (by omega) (by omega), prm_lp h2 (by omega)]
    cases Nat.beq (lpT f) f <;> rfl
set_option maxRecDepth 100000 in
theorem x2_sumk : ∀ n, n < 11 → 1 ≤ n → F_X2_howManyBySum (nI n) = some (nI (kcn (2 ^ n) (2 ^ n))) := by decide +kernel
theorem x2_sum {n : Nat} (hn : n < 11) (h1 : 1 ≤ n) : F_X2_howManyBySum (nI n) = some (nI (cn (2 ^ n) (2 ^ n))) := by
  have a := Nat.pow_le_pow_right (show 0 < 2 by decide) (show n ≤ 10 by omega)
  have b := Nat.pow_le_pow_right (show 0 < 2 by decide) h1
  rw [x2_sumk n hn h1, kcn_is _ _ (by omega) (by omega)]
theorem fx_X2_howManyBySum (p0 : Int32) (h0 : 1 ≤ p0.toInt) (h1 : p0.toInt ≤ 10) : ok (F_X2_howManyBySum p0) (fun r => r = PRC p0) := by
  obtain ⟨n, hn, rfl⟩ := i_of (n := 10) (by omega) h1
  rw [nI_toInt (by omega)] at h0
  rw [x2_sum (by omega) (by omega), PRC, x9_cn hn]
  exact ok_s rfl
