/-! the class's wheels and shift row -/
theorem x6_per_l {w P : Nat} (h9 : w < 512) (hw : 2 ≤ bl w) (K0 : Int32 → Option Int32) (K1 : Unit → Option Int32) : ∀ f k y n, fnp w f k (rst (y * 2) w) = some P → f < n → k + f ≤ 1000 → y < 2 ^ 30 → LQ2 (S_X6_periodByMultiplying_5 (lN w) K0 K1) n (lN y) (nI k) = K0 (nI P) := by
  have hw0 : w ≠ 0 := fun h => by subst h; rw [bl_0] at hw; omega
  have hb9 : bl w ≤ 9 := bl_le.mpr (by omega)
  intro f
  induction f with
  | zero => intro k y n h; cases h
  | succ f ih =>
    intro k y n h hn hk hy
    obtain ⟨n, rfl⟩ : ∃ m, n = m + 1 := ⟨n - 1, by omega⟩
    show S_X6_periodByMultiplying_5 _ K0 K1 (LQ2 (S_X6_periodByMultiplying_5 (lN w) K0 K1) n) _ _ = _
    unfold S_X6_periodByMultiplying_5
    have e1 : lN y <<< ((1 : Int32).toInt64 &&& 63) = lN (y * 2) := wb_shl (k := 1) y (by decide)
    have r1 := (rst_bl (f := y * 2) (b := w) hw0 (by omega) (by omega)).1
    have r2 : rst (y * 2) w < 2 ^ 30 := bl_le.mp (by omega)
    rw [if_neg (show ¬ (1000 : Int32) ≤ nI k from nI_ge (b := 1000) (by omega) (by omega)), e1, x0_rest hw0 (by omega) (by omega), obn_s]
    rw [fnp] at h
    by_cases e : rst (y * 2) w = 1
    · rw [if_pos e] at h
      rw [if_pos (show lN (rst (y * 2) w) = (1 : Int64) by rw [e]; rfl), Option.some.inj h]
    · rw [if_neg e] at h
      rw [if_neg (show ¬ lN (rst (y * 2) w) = (1 : Int64) from fun h => e ((lN_eq (b := 1) (by omega) (by omega)).mp h))]
      have i2 := ih (k + 1) (rst (y * 2) w) n h (by omega) (by omega) r2
      rw [nI_succ] at i2
      exact i2
theorem x6_per {w : Nat} (h9 : w < 512) (hw : 2 ≤ bl w) (ho : w % 2 = 1) : F_X6_periodByMultiplying (lN w) = some (nI (perN w)) := by
  obtain ⟨P, hP⟩ := Option.isSome_iff_exists.mp (wh_per w h9 hw ho)
  have e1 : perN w = P := by rw [perN, hP]; rfl
  unfold F_X6_periodByMultiplying
  rw [e1]
  exact x6_per_l h9 hw _ _ 256 1 1 20000 hP (by decide) (by decide) (by decide)
theorem st_c : ∀ y, y < 256 → (F_X0_onesOf (lN y)).map (fun r => (r &&& (1 : Int32)).toInt64) = some (lN (if pr y then 1 else 0)) := by decide +kernel
theorem st_d : ∀ d, d < 9 → 1 ≤ d → (nI d - (1 : Int32)).toInt64 = (nI (d - 1)).toInt64 := by decide +kernel
theorem x5_stepped {w x : Nat} (hw9 : w < 512) (hw : 2 ≤ bl w) (hx : x < 2 ^ (bl w - 1)) : F_X5_stepped (lN x) (lN w) = some (lN (nx w x)) := by
  have hb9 : bl w ≤ 9 := bl_le.mpr (by omega)
  have hx8 : x < 256 := Nat.lt_of_lt_of_le hx (Nat.pow_le_pow_right (by decide) (show bl w - 1 ≤ 8 by omega))
  have hw0 : w ≠ 0 := fun h => by subst h; rw [bl_0] at hw; omega
  have hxw : x &&& w < 256 := Nat.lt_of_le_of_lt Nat.and_le_left hx8
  have hxw2 : (x &&& w) &&& (2 ^ (bl w - 1) - 1) = x &&& w := by
    rw [Nat.and_two_pow_sub_one_eq_mod, Nat.mod_eq_of_lt (Nat.lt_of_le_of_lt Nat.and_le_left hx)]
  unfold F_X5_stepped nx
  rw [wb_and (by omega) (by omega), x0_deg (by omega), dgI_p hw0, hxw2]
  have hp := st_c _ hxw
  generalize x &&& w = y at hp
  have hx2 : x / 2 < 2 ^ (bl w - 2) := by
    have e := wb_pw (a := 1) (b := bl w - 1) (by omega)
    rw [show bl w - 1 - 1 = bl w - 2 by omega] at e
    omega
  have e1 : lN x >>> ((1 : Int32).toInt64 &&& 63) = lN (x / 2) := sh_r (k := 1) (by omega) (by decide)
  have h2 := Nat.pow_le_pow_right (show 0 < 2 by decide) (show bl w - 2 ≤ 7 by omega)
  cases hr : F_X0_onesOf (lN y) with
  | none => rw [hr] at hp; cases hp
  | some r =>
    rw [hr] at hp
    have hp : (r &&& (1 : Int32)).toInt64 = lN (if pr y then 1 else 0) := Option.some.inj hp
    rw [obn_s]
    simp only [bnd]
    rw [obn_s, hp, e1, st_d (bl w - 1) (by omega) (by omega), show bl w - 1 - 1 = bl w - 2 by omega, wb_shl _ (by omega), wb_or (by omega) (by split <;> omega)]
    cases pr y with
    | true =>
      have e := Nat.two_pow_add_eq_or_of_lt hx2 1
      have e3 : x / 2 ^^^ 2 ^ (bl w - 2) = 2 ^ (bl w - 2) + x / 2 := by
        rw [Nat.mul_one] at e
        rw [e]
        refine Nat.eq_of_testBit_eq fun i => ?_
        rw [Nat.testBit_xor, Nat.testBit_or, Nat.testBit_two_pow]
        by_cases hi : bl w - 2 = i
        · subst hi
          rw [Nat.testBit_lt_two_pow hx2]; simp
        · simp [hi]
      simp only [if_true]
      rw [Nat.mul_one] at e
      rw [e3, e, Nat.one_mul, Nat.or_comm]
    | false =>
      simp only [Bool.false_eq_true, if_false]
      rw [Nat.zero_mul, Nat.or_zero, Nat.xor_zero]
theorem x5_again_l {w x P : Nat} (h9 : w < 512) (hw : 2 ≤ bl w) (hx : x < 2 ^ (bl w - 1)) (K0 : Int32 → Option Int32) (K1 : Unit → Option Int32) : ∀ f k y n, fnd w x f k (nx w y) = some P → f < n → k + f ≤ 1000 → y < 2 ^ (bl w - 1) → LQ2 (S_X5_stepsTillSame_6 (lN x) (lN w) K0 K1) n (lN y) (nI k) = K0 (nI P) := by
  have hb9 : bl w ≤ 9 := bl_le.mpr (by omega)
  have h8 := Nat.pow_le_pow_right (show 0 < 2 by decide) (show bl w - 1 ≤ 8 by omega)
  intro f
  induction f with
  | zero => intro k y n h; cases h
  | succ f ih =>
    intro k y n h hn hk hy
    obtain ⟨n, rfl⟩ : ∃ m, n = m + 1 := ⟨n - 1, by omega⟩
    show S_X5_stepsTillSame_6 _ _ K0 K1 (LQ2 (S_X5_stepsTillSame_6 (lN x) (lN w) K0 K1) n) _ _ = _
    unfold S_X5_stepsTillSame_6
    have hn2 := nx_lt hw hy
    rw [if_neg (show ¬ (1000 : Int32) ≤ nI k from nI_ge (b := 1000) (by omega) (by omega)), x5_stepped h9 hw hy, obn_s]
    rw [fnd] at h
    by_cases e : nx w y = x
    · rw [if_pos e] at h
      rw [if_pos (show lN (nx w y) = lN x by rw [e]), Option.some.inj h]
    · rw [if_neg e] at h
      rw [if_neg (fun h => e ((lN_eq (by omega) (by omega)).mp h))]
      have i2 := ih (k + 1) (nx w y) n h (by omega) (by omega) hn2
      rw [nI_succ] at i2
      exact i2
theorem x5_again {w x : Nat} (h9 : w < 512) (hw : 2 ≤ bl w) (ho : w % 2 = 1) (hx : x < 2 ^ (bl w - 1)) : F_X5_stepsTillSame (lN x) (lN w) = some (nI (agN w x)) := by
  unfold F_X5_stepsTillSame
  exact x5_again_l h9 hw hx _ _ 256 1 x 20000 (agN_is h9 hw ho hx) (by decide) (by decide) hx
theorem x5_begun {w : Nat} (h9 : w < 512) (hw : 2 ≤ bl w) : F_X5_cellsBegun (lN w) = some (lN (2 ^ (bl w - 2))) := by
  have hb9 : bl w ≤ 9 := bl_le.mpr (by omega)
  have hw0 : w ≠ 0 := fun h => by subst h; rw [bl_0] at hw; omega
  unfold F_X5_cellsBegun
  rw [x0_deg (by omega), obn_s, dgI_p hw0, st_d (bl w - 1) (by omega) (by omega), show bl w - 1 - 1 = bl w - 2 by omega, sh_1 (by omega)]
theorem wh_same : ∀ w, w < 512 → 2 ≤ bl w → w % 2 = 1 → agN w (2 ^ (bl w - 2)) = perN w := fun _ h9 hw ho => wh_same0 h9 hw ho
theorem x6_steps {w : Nat} (h9 : w < 512) (hw : 2 ≤ bl w) (ho : w % 2 = 1) : F_X6_periodBySteps (lN w) = some (nI (perN w)) := by
  unfold F_X6_periodBySteps
  rw [x5_begun h9 hw, obn_s, x5_again h9 hw ho (Nat.pow_lt_pow_right (by decide) (by omega)), obn_s, wh_same w h9 hw ho]
/-- how many of the digits that go in m steps are 1 -/
noncomputable def gs (w : Nat) : Nat → Nat → Nat
  | 0, _ => 0
  | m + 1, x => x % 2 + gs w m (nx w x)
theorem bit_c : ∀ x, x < 256 → ((lN x &&& (1 : Int64)).toInt32 = nI (x % 2)) ∧ (nI x &&& (1 : Int32) = nI (x % 2)) := by decide +kernel
theorem x5_go_l {w m : Nat} (h9 : w < 512) (hw : 2 ≤ bl w) (hm : m ≤ 255) (K : Int32 → Int64 → Option (Int32 × Int64)) : ∀ u k c x n, k + u = m → u < n → x < 2 ^ (bl w - 1) → LQ3 (S_X5_goOn_4 (nI m) (lN w) K) n (nI c) (nI k) (lN x) = K (nI (c + gs w u x)) (lN (it w u x)) := by
  have hb9 : bl w ≤ 9 := bl_le.mpr (by omega)
  have h8 := Nat.pow_le_pow_right (show 0 < 2 by decide) (show bl w - 1 ≤ 8 by omega)
  intro u
  induction u with
  | zero =>
    intro k c x n hk hn hx
    obtain ⟨n, rfl⟩ : ∃ m, n = m + 1 := ⟨n - 1, by omega⟩
    show S_X5_goOn_4 _ _ K _ _ _ _ = _
    unfold S_X5_goOn_4
    rw [if_pos (nI_le (by omega) (by omega))]
    rfl
  | succ u ih =>
    intro k c x n hk hn hx
    obtain ⟨n, rfl⟩ : ∃ m, n = m + 1 := ⟨n - 1, by omega⟩
    show S_X5_goOn_4 _ _ K (LQ3 (S_X5_goOn_4 (nI m) (lN w) K) n) _ _ _ = _
    unfold S_X5_goOn_4
    have i2 := ih (k + 1) (c + x % 2) (nx w x) n (by omega) (by omega) (nx_lt hw hx)
    rw [if_neg (nI_ge (by omega) (by omega)), (bit_c x (by omega)).1, nI_add, x5_stepped h9 hw hx, gs, it]
    rw [nI_succ, Nat.add_assoc] at i2
    exact i2
theorem x9_go_l {w m : Nat} (h9 : w < 512) (hw : 2 ≤ bl w) (hm : m ≤ 255) (K : Int32 → Int32 → Option (Int32 × Int32 × Int32 × Int32)) : ∀ u k c x n, k + u = m → u < n → x < 2 ^ (bl w - 1) → LQ3 (S_X9_step_29 (nI m) (lN w) K) n (nI c) (nI k) (nI x) = K (nI (c + gs w u x)) (nI (it w u x)) := by
  have hb9 : bl w ≤ 9 := bl_le.mpr (by omega)
  have h8 := Nat.pow_le_pow_right (show 0 < 2 by decide) (show bl w - 1 ≤ 8 by omega)
  intro u
  induction u with
  | zero =>
    intro k c x n hk hn hx
    obtain ⟨n, rfl⟩ : ∃ m, n = m + 1 := ⟨n - 1, by omega⟩
    show S_X9_step_29 _ _ K _ _ _ _ = _
    unfold S_X9_step_29
    rw [if_pos (nI_le (by omega) (by omega))]
    rfl
  | succ u ih =>
    intro k c x n hk hn hx
    obtain ⟨n, rfl⟩ : ∃ m, n = m + 1 := ⟨n - 1, by omega⟩
    show S_X9_step_29 _ _ K (LQ3 (S_X9_step_29 (nI m) (lN w) K) n) _ _ _ = _
    unfold S_X9_step_29
    have i2 := ih (k + 1) (c + x % 2) (nx w x) n (by omega) (by omega) (nx_lt hw hx)
    rw [if_neg (nI_ge (by omega) (by omega)), (bit_c x (by omega)).2, nI_add, x9_next h9 hw hx, gs, it]
    rw [nI_succ, Nat.add_assoc] at i2
    exact i2
