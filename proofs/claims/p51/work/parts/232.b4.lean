/-! B4. rests of products: the power -/
theorem rst_uniq {f b q r : Nat} (hb : b ≠ 0) (hf : f < 2 ^ 62) (hb2 : b < 2 ^ 62) (h : cl b q ^^^ r = f) (hq : q < 2 ^ 64) (hr : r < 2 ^ (bl b - 1)) : rst f b = r ∧ quo f b = q := by
  obtain ⟨e, h1, h2⟩ := dm_spec hb hf hb2
  have h3 := bl_pos hb
  have h4 : bl f ≤ 62 := bl_le.mpr hf
  have h5 : bl (quo f b) ≤ dvu f b := bl_le.mpr h2
  have hq2 : quo f b < 2 ^ 64 := bl_le.mp (by unfold dvu at h5; omega)
  obtain ⟨a1, a2⟩ := dm_uniq hb (e.trans h.symm) hq2 hq h1 hr
  exact ⟨a2, a1⟩
theorem rst_small {f b : Nat} (hb : b ≠ 0) (hb2 : b < 2 ^ 62) (h : f < 2 ^ (bl b - 1)) : rst f b = f := by
  have h1 : bl b ≤ 62 := bl_le.mpr hb2
  have h2 := bl_pos hb
  have hf : f < 2 ^ 62 := Nat.lt_of_lt_of_le h (Nat.pow_le_pow_right (by decide) (by omega))
  exact (rst_uniq (q := 0) hb hf hb2 (by rw [cl_0r, Nat.zero_xor]) (by decide) h).1
theorem rst_mul {f b q : Nat} (hb : b ≠ 0) (hf : f < 2 ^ 61) (hb2 : b < 2 ^ 61) (hq : q < 2 ^ 61) (hs : bl b + bl q ≤ 62) : rst (f ^^^ cl b q) b = rst f b := by
  obtain ⟨e, h1, h2⟩ := dm_spec (f := f) hb (by omega) (show b < 2 ^ 62 by omega)
  have h3 := bl_pos hb
  have h4 : bl f ≤ 61 := bl_le.mpr hf
  have h5 : bl (quo f b) ≤ dvu f b := bl_le.mpr h2
  have hq2 : quo f b < 2 ^ 64 := bl_le.mp (by unfold dvu at h5; omega)
  have h6 := cl_ble b (b := q) (by omega)
  have h7 : f ^^^ cl b q < 2 ^ 62 := bl_le.mp (bl_xor (by omega) (by omega))
  refine (rst_uniq (q := quo f b ^^^ q) hb h7 (by omega) ?_ (Nat.xor_lt_two_pow hq2 (by omega)) h1).1
  rw [cl_xr]
  have : cl b (quo f b) ^^^ cl b q ^^^ rst f b = (cl b (quo f b) ^^^ rst f b) ^^^ cl b q := by ac_rfl
  rw [this, e]
theorem rst_clr {x y b : Nat} (hb : b ≠ 0) (hx : bl x ≤ 21) (hy : bl y ≤ 40) (hbb : bl b ≤ 21) : rst (cl x (rst y b)) b = rst (cl x y) b := by
  have h3 := bl_pos hb
  have y1 : y < 2 ^ 40 := bl_le.mp hy
  have x1 : x < 2 ^ 21 := bl_le.mp hx
  have b1 : b < 2 ^ 21 := bl_le.mp hbb
  obtain ⟨e, h1, h2⟩ := dm_spec (f := y) hb (by omega) (show b < 2 ^ 62 by omega)
  have hq : bl (quo y b) ≤ dvu y b := bl_le.mpr h2
  have hq2 : bl (quo y b) + bl b ≤ 41 ∨ bl (quo y b) = 0 := by
    unfold dvu at hq
    omega
  have hq3 : bl (quo y b) ≤ 40 := by unfold dvu at hq; omega
  have q1 : quo y b < 2 ^ 40 := bl_le.mp hq3
  have r1 : bl (rst y b) ≤ bl b - 1 := bl_le.mpr h1
  have hr : rst y b < 2 ^ 21 := bl_le.mp (by omega)
  have e2 : cl x y = cl x (rst y b) ^^^ cl b (cl x (quo y b)) := by
    have a1 : cl x y = cl x (cl b (quo y b) ^^^ rst y b) := by rw [e]
    rw [a1, cl_xr]
    have a2 : cl x (cl b (quo y b)) = cl b (cl x (quo y b)) := by
      rw [← cl_assoc (a := x) (b := b) (c := quo y b) (by omega) (by omega) (by omega), cl_comm (a := x) (b := b) (by omega) (by omega), cl_assoc (a := b) (b := x) (c := quo y b) (by omega) (by omega) (by omega)]
    rw [a2]
    ac_rfl
  have c1 := cl_ble x (b := rst y b) (by omega)
  have c2 := cl_ble x (b := quo y b) (by omega)
  rw [e2]
  refine (rst_mul hb (bl_le.mp (by omega)) (by omega) (bl_le.mp (by omega)) ?_).symm
  omega
/-- the rest of the product of k of them -/
noncomputable def pw (b g : Nat) : Nat → Nat
  | 0 => rst 1 b
  | k + 1 => rst (cl (pw b g k) g) b
theorem pw_lt {b g : Nat} (hb : b ≠ 0) (hbb : bl b ≤ 21) (hg : bl g ≤ 21) : ∀ k, pw b g k < 2 ^ (bl b - 1) := by
  have b1 : b < 2 ^ 21 := bl_le.mp hbb
  have g1 : g < 2 ^ 21 := bl_le.mp hg
  have h3 := bl_pos hb
  intro k
  induction k with
  | zero => exact (dm_spec (f := 1) hb (by decide) (show b < 2 ^ 62 by omega)).2.1
  | succ k ih =>
    have h4 : bl (pw b g k) ≤ bl b - 1 := bl_le.mpr ih
    have h5 := cl_ble (pw b g k) (b := g) (by omega)
    exact (dm_spec (f := cl (pw b g k) g) hb (bl_le.mp (by omega)) (show b < 2 ^ 62 by omega)).2.1
theorem pw_add {b g : Nat} (hb : b ≠ 0) (hbb : bl b ≤ 21) (hg : bl g ≤ 21) (j : Nat) : ∀ k, rst (cl (pw b g j) (pw b g k)) b = pw b g (j + k) := by
  have b1 : b < 2 ^ 21 := bl_le.mp hbb
  have g1 : g < 2 ^ 21 := bl_le.mp hg
  have h3 := bl_pos hb
  have hl := pw_lt (g := g) hb hbb hg
  have hl2 : ∀ k, bl (pw b g k) ≤ bl b - 1 := fun k => bl_le.mpr (hl k)
  intro k
  induction k with
  | zero =>
    have := hl2 j
    rw [pw, rst_clr hb (by omega) (by decide +kernel) hbb, cl_1, rst_small hb (by omega) (hl j)]
    rfl
  | succ k ih =>
    have t1 := hl2 j
    have t2 := hl2 k
    have p1 : pw b g j < 2 ^ 21 := bl_le.mp (by omega)
    have p2 : pw b g k < 2 ^ 21 := bl_le.mp (by omega)
    have c1 := cl_ble (pw b g k) (b := g) (by omega)
    have c2 := cl_ble (pw b g j) (b := pw b g k) (by omega)
    rw [pw, rst_clr hb (by omega) (by omega) hbb, ← cl_assoc (a := pw b g j) (b := pw b g k) (c := g) (by omega) (by omega) (by omega)]
    have c3 : cl (pw b g j) (pw b g k) < 2 ^ 41 := bl_le.mp (by omega)
    rw [cl_comm (by omega) (by omega), ← rst_clr hb hg (by omega) hbb, ih, ← cl_comm (a := pw b g (j + k)) (b := g) (by have := hl2 (j + k); exact bl_le.mp (by omega)) (by omega)]
    rfl
theorem x9_pow_l {b g : Nat} (hb : b ≠ 0) (hbb : bl b ≤ 21) (hg : bl g ≤ 21) {n : Nat} (hn : n ≤ 255) (K : Int64 → Option Int64) : ∀ u k m, k + u = n → u < m → LQ2 (S_X9_powerOf_17 (nI n) (lN b) (lN g) K) m (lN (pw b g k)) (nI k) = K (lN (pw b g n)) := by
  have b1 : b < 2 ^ 21 := bl_le.mp hbb
  have g1 : g < 2 ^ 21 := bl_le.mp hg
  have h3 := bl_pos hb
  intro u
  induction u with
  | zero =>
    intro k m hk hm
    obtain ⟨m, rfl⟩ : ∃ j, m = j + 1 := ⟨m - 1, by omega⟩
    show S_X9_powerOf_17 _ _ _ K _ _ _ = _
    unfold S_X9_powerOf_17
    rw [if_pos (nI_le (by omega) (by omega)), show k = n by omega]
  | succ u ih =>
    intro k m hk hm
    obtain ⟨m, rfl⟩ : ∃ j, m = j + 1 := ⟨m - 1, by omega⟩
    show S_X9_powerOf_17 _ _ _ K (LQ2 (S_X9_powerOf_17 (nI n) (lN b) (lN g) K) m) _ _ = _
    unfold S_X9_powerOf_17
    have h4 : bl (pw b g k) ≤ bl b - 1 := bl_le.mpr (pw_lt hb hbb hg k)
    have c1 := cl_ble (pw b g k) (b := g) (by omega)
    rw [if_neg (nI_ge (by omega) (by omega)), x9_prodc (by omega), obn_s, x9_rest hb (bl_le.mp (by omega)) (by omega), obn_s]
    have i2 := ih (k + 1) m (by omega) (by omega)
    rw [nI_succ] at i2
    exact i2
theorem pb_c : ∀ n, n < 256 → ∀ k, k < 8 → ((((nI n >>> (nI k &&& 31)) &&& (1 : Int32)) = (1 : Int32)) ↔ (n / 2 ^ k % 2 = 1)) := by decide +kernel
theorem x0_pow_l {b g : Nat} (hb : b ≠ 0) (hbb : bl b ≤ 21) (hg : bl g ≤ 21) {n : Nat} (hn : n ≤ 255) (K : Int64 → Option Int64) : ∀ k m, k ≤ 8 → k < m → LQ2 (S_X0_powerRest_18 (nI n) (lN b) (lN g) K) m (lN (pw b g (n / 2 ^ k))) (nI k - 1) = K (lN (pw b g n)) := by
  have b1 : b < 2 ^ 21 := bl_le.mp hbb
  have g1 : g < 2 ^ 21 := bl_le.mp hg
  have h3 := bl_pos hb
  have hl2 : ∀ k, bl (pw b g k) ≤ bl b - 1 := fun k => bl_le.mpr (pw_lt hb hbb hg k)
  intro k
  induction k with
  | zero =>
    intro m hk hm
    obtain ⟨m, rfl⟩ : ∃ j, m = j + 1 := ⟨m - 1, by omega⟩
    show S_X0_powerRest_18 _ _ _ K _ _ _ = _
    unfold S_X0_powerRest_18
    rw [if_pos neg_m1, Nat.pow_zero, Nat.div_one]
  | succ k ih =>
    intro m hk hm
    obtain ⟨m, rfl⟩ : ∃ j, m = j + 1 := ⟨m - 1, by omega⟩
    show S_X0_powerRest_18 _ _ _ K (LQ2 (S_X0_powerRest_18 (nI n) (lN b) (lN g) K) m) _ _ = _
    unfold S_X0_powerRest_18
    have t1 := hl2 (n / 2 ^ (k + 1))
    have c1 := cl_ble (pw b g (n / 2 ^ (k + 1))) (b := pw b g (n / 2 ^ (k + 1))) (bl_le.mp (by omega))
    have i2 := ih m (by omega) (by omega)
    rw [half_k1 n k] at i2
    rw [nI_pred, if_neg (nI_pos (by omega)), x0_sq (bl_le.mp (by omega)), obn_s, x0_rest hb (bl_le.mp (by omega)) (by omega), obn_s, pw_add hb hbb hg]
    have hm2 := Nat.mod_lt (n / 2 ^ k) (show 0 < 2 by decide)
    rw [← nI_m1] at i2
    by_cases hz : n / 2 ^ k % 2 = 1
    · have t2 := hl2 (n / 2 ^ (k + 1) + n / 2 ^ (k + 1))
      have c2 := cl_ble (pw b g (n / 2 ^ (k + 1) + n / 2 ^ (k + 1))) (b := g) (by omega)
      rw [if_pos ((pb_c n (by omega) k (by omega)).mpr hz), x0_mul (by omega), obn_s, x0_rest hb (bl_le.mp (by omega)) (by omega), obn_s]
      rw [hz, show 2 * (n / 2 ^ (k + 1)) + 1 = (n / 2 ^ (k + 1) + n / 2 ^ (k + 1)) + 1 by omega, pw] at i2
      exact i2
    · rw [if_neg (fun h => hz ((pb_c n (by omega) k (by omega)).mp h))]
      rw [show n / 2 ^ k % 2 = 0 by omega, show 2 * (n / 2 ^ (k + 1)) + 0 = n / 2 ^ (k + 1) + n / 2 ^ (k + 1) by omega] at i2
      exact i2
theorem x9_pow {f b n : Nat} (hb : b ≠ 0) (hbb : bl b ≤ 21) (hf : f < 2 ^ 40) (hn : n ≤ 255) : F_X9_powerOf (lN f) (nI n) (lN b) = some (lN (pw b (rst f b) n)) := by
  have b1 : b < 2 ^ 21 := bl_le.mp hbb
  have r1 := rst_bl hb (show f < 2 ^ 62 by omega) (show b < 2 ^ 62 by omega)
  unfold F_X9_powerOf
  rw [show (1 : Int64) = lN 1 from rfl, x9_rest hb (by omega) (by omega), obn_s, x9_rest hb (by omega) (by omega), obn_s]
  exact x9_pow_l hb hbb (by omega) hn _ n 0 20000 (by omega) (by omega)
theorem x0_pow {f b n : Nat} (hb : b ≠ 0) (hbb : bl b ≤ 21) (hf : f < 2 ^ 40) (hn : n ≤ 255) : F_X0_powerRest (lN f) (nI n) (lN b) = some (lN (pw b (rst f b) n)) := by
  have b1 : b < 2 ^ 21 := bl_le.mp hbb
  have r1 := rst_bl hb (show f < 2 ^ 62 by omega) (show b < 2 ^ 62 by omega)
  unfold F_X0_powerRest
  rw [show (1 : Int64) = lN 1 from rfl, x0_rest hb (by omega) (by omega), obn_s, x0_rest hb (by omega) (by omega), obn_s]
  have e := x0_pow_l hb hbb (g := rst f b) (by omega) hn (fun y => some y) 8 20000 (by omega) (by omega)
  rw [show n / 2 ^ 8 = 0 from Nat.div_eq_of_lt (by omega)] at e
  exact e
