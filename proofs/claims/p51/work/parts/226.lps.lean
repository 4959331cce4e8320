/-! M6. loops of the reference by hand: multipliers, all primes, the product of the roll -/
theorem sp_quo_rest {a b : Int64} (h0 : 0 ≤ DG b) (h1 : DG a ≤ 39) (h2 : DG b ≤ 39) : ∃ q r, F_X9_quotientOf a b = some q ∧ F_X9_productOf q b = some r ∧ DG (a ^^^ r) < DG b ∧ DG (a ^^^ r) ≤ DG a ∧ ((DG a < DG b ∧ DG q = -1) ∨ (DG b ≤ DG a ∧ DG q = DG a - DG b)) := by
  obtain ⟨x, hx, hx2, rfl, e1⟩ := DG_fo (x := a) (k := 40) (by omega)
  obtain ⟨y, hy, hy2, rfl, e2⟩ := DG_fo (x := b) (k := 40) (by omega)
  have hy0 : y ≠ 0 := fun h => by subst h; rw [bl_0] at e2; omega
  have f1 : bl x ≤ 40 := bl_le.mpr hx
  have f2 : bl y ≤ 40 := bl_le.mpr hy
  have p := bl_pos hy0
  obtain ⟨s1, s2, s3⟩ := dm_spec hy0 (show x < 2 ^ 62 by omega) (show y < 2 ^ 62 by omega)
  have q1 : bl (quo x y) ≤ dvu x y := bl_le.mpr s3
  have hq : quo x y < 2 ^ 64 := bl_le.mp (by unfold dvu at q1; omega)
  refine ⟨lN (quo x y), lN (cl (quo x y) y), x9_quo hy0 (by omega) (by omega), x9_prodc hy, ?_⟩
  have e : x ^^^ cl (quo x y) y = rst x y := by
    rw [cl_comm hq hy2]
    have a1 : x ^^^ cl y (quo x y) = (cl y (quo x y) ^^^ rst x y) ^^^ cl y (quo x y) := by rw [s1]
    have a2 : (cl y (quo x y) ^^^ rst x y) ^^^ cl y (quo x y) = (cl y (quo x y) ^^^ cl y (quo x y)) ^^^ rst x y := by ac_rfl
    rw [a1, a2, Nat.xor_self, Nat.zero_xor]
  obtain ⟨r1, r2⟩ := rst_bl hy0 (show x < 2 ^ 62 by omega) (show y < 2 ^ 62 by omega)
  rw [lN_xor, e, DG_lN (bl_le.mp (show bl (rst x y) ≤ 64 by omega)), DG_lN hq, e1, e2]
  refine ⟨by omega, by omega, ?_⟩
  rcases Nat.lt_or_ge (bl x) (bl y) with h | h
  · rw [quo_bl0 h, bl_0]
    exact Or.inl ⟨by omega, by omega⟩
  · rw [quo_bl hy0 (by omega) (by omega) h]
    exact Or.inr ⟨by omega, by omega⟩
/-- the two rows of the multipliers: how far their forms reach -/
noncomputable def MI (f g : Nat → Int64) : Prop := DG (f 0) ≤ 39 ∧ DG (g 0) ≤ 39 ∧ (∀ i, i = 1 ∨ i = 2 → DG (f i) ≤ 39 ∧ DG (g i) ≤ 39 ∧ DG (f i) + DG (g 0) ≤ 39 ∧ DG (g i) + DG (f 0) ≤ 39)
theorem mi_step {f g : Nat → Int64} (h : MI f g) (hg : 0 ≤ DG (g 0)) : ∃ q r0 r1 r2, F_X9_quotientOf (f 0) (g 0) = some q ∧ F_X9_productOf q (g 0) = some r0 ∧ F_X9_productOf q (g 1) = some r1 ∧ F_X9_productOf q (g 2) = some r2 ∧ DG (f 0 ^^^ r0) < DG (g 0) ∧ ∀ f' g' : Nat → Int64, f' 0 = g 0 → f' 1 = g 1 → f' 2 = g 2 → g' 0 = f 0 ^^^ r0 → g' 1 = f 1 ^^^ r1 → g' 2 = f 2 ^^^ r2 → MI f' g' := by
  obtain ⟨h1, h2, h3⟩ := h
  obtain ⟨q, r0, e1, e2, e3, e4, e5⟩ := sp_quo_rest hg h1 h2
  obtain ⟨a1, a2, a3, a4⟩ := h3 1 (Or.inl rfl)
  obtain ⟨b1, b2, b3, b4⟩ := h3 2 (Or.inr rfl)
  have n1 := DG_ge (g 1)
  have n2 := DG_ge (g 2)
  obtain ⟨r1, g1, p1⟩ := sp_X9_productOf q (g 1) (by omega) a2
  obtain ⟨r2, g2, p2⟩ := sp_X9_productOf q (g 2) (by omega) b2
  refine ⟨q, r0, r1, r2, e1, e2, g1, g2, e3, fun f' g' i0 i1 i2 j0 j1 j2 => ?_⟩
  have k1 : DG (f 1 ^^^ r1) ≤ 39 - DG (g 0) := DG_xor (by omega) (by omega)
  have k2 : DG (f 2 ^^^ r2) ≤ 39 - DG (g 0) := DG_xor (by omega) (by omega)
  refine ⟨by rw [i0]; exact h2, by rw [j0]; omega, fun i hi => ?_⟩
  rcases hi with rfl | rfl
  · rw [i1, j1, i0, j0]
    exact ⟨a2, by omega, by omega, by omega⟩
  · rw [i2, j2, i0, j0]
    exact ⟨b2, by omega, by omega, by omega⟩
theorem mi_in {q r : Int64} {K : (Nat → Int64) → (Nat → Int64) → Option (Int32 × Int32 × Int32 × (Nat → Int64))} {ih : Int32 → (Nat → Int64) → (Nat → Int64) → Option (Int32 × Int32 × Int32 × (Nat → Int64))} {f g : Nat → Int64} {k : Nat} (hk : k < 3) (h : F_X9_productOf q (g k) = some r) : S_X9_multipliers_123 q K ih (nI k) f g = ih (nI (k + 1)) (vp_updL f k (g k)) (vp_updL g k (f k ^^^ r)) := by
  have hc : ¬ (nI k < 0 ∨ 3 ≤ (nI k).toNatClampNeg) := ixo (by rw [nI_toInt (by omega)]; omega) (by rw [nI_toInt (by omega)]; omega)
  have e : (nI k).toNatClampNeg = k := cl_N (by omega)
  unfold S_X9_multipliers_123
  rw [if_neg (show ¬ (3 : Int32) ≤ nI k from nI_ge (b := 3) (by omega) (by omega))]
  have hc2 : ¬ (nI k < 0 ∨ 3 ≤ k) := by rw [e] at hc; exact hc
  simp only [chk, bnd, e, h, obn, if_pos hc2]
  rw [nI_succ]
theorem mi_inner {q r0 r1 r2 : Int64} (K : (Nat → Int64) → (Nat → Int64) → Option (Int32 × Int32 × Int32 × (Nat → Int64))) {f g : Nat → Int64} (h0 : F_X9_productOf q (g 0) = some r0) (h1 : F_X9_productOf q (g 1) = some r1) (h2 : F_X9_productOf q (g 2) = some r2) : ∃ f' g' : Nat → Int64, f' 0 = g 0 ∧ f' 1 = g 1 ∧ f' 2 = g 2 ∧ g' 0 = f 0 ^^^ r0 ∧ g' 1 = f 1 ^^^ r1 ∧ g' 2 = f 2 ^^^ r2 ∧ LQ3 (S_X9_multipliers_123 q K) 20000 (0 : Int32) f g = K f' g' := by
  refine ⟨vp_updL (vp_updL (vp_updL f 0 (g 0)) 1 (g 1)) 2 (g 2), vp_updL (vp_updL (vp_updL g 0 (f 0 ^^^ r0)) 1 (f 1 ^^^ r1)) 2 (f 2 ^^^ r2), rfl, rfl, rfl, rfl, rfl, rfl, ?_⟩
  show S_X9_multipliers_123 q K (LQ3 (S_X9_multipliers_123 q K) 19999) (nI 0) f g = _
  rw [mi_in (k := 0) (by decide) h0]
  show S_X9_multipliers_123 q K (LQ3 (S_X9_multipliers_123 q K) 19998) (nI 1) (vp_updL f 0 (g 0)) (vp_updL g 0 (f 0 ^^^ r0)) = _
  rw [mi_in (k := 1) (g := vp_updL g 0 (f 0 ^^^ r0)) (by decide) h1]
  show S_X9_multipliers_123 q K (LQ3 (S_X9_multipliers_123 q K) 19997) (nI 2) (vp_updL (vp_updL f 0 (g 0)) 1 (g 1)) (vp_updL (vp_updL g 0 (f 0 ^^^ r0)) 1 (f 1 ^^^ r1)) = _
  rw [mi_in (k := 2) (g := vp_updL (vp_updL g 0 (f 0 ^^^ r0)) 1 (f 1 ^^^ r1)) (by decide) h2]
  show S_X9_multipliers_123 q K (LQ3 (S_X9_multipliers_123 q K) 19996) (nI 3) _ _ = _
  unfold S_X9_multipliers_123
  rw [if_pos (show (3 : Int32) ≤ nI 3 from by decide)]
  rfl
theorem mi_loop {Q : Int32 × Int32 × Int32 × (Nat → Int64) → Prop} (K : (Nat → Int64) → (Nat → Int64) → Option (Int32 × Int32 × Int32 × (Nat → Int64))) (hK : ∀ f g, MI f g → ok (K f g) Q) (f g : Nat → Int64) (h : MI f g) : ok (LQ2 (S_X9_multipliers_98 K) 20000 f g) Q := by
  refine ok_L2 (fun f g => MI f g) (fun _ g => (DG (g 0) + 1).toNat) (fun ih f g hI hih => ?_) 20000 f g h (by have := DG_63 (g 0); show (DG (g 0) + 1).toNat < 20000; omega)
  have hI : MI f g := hI
  unfold S_X9_multipliers_98
  have z0 : (0 : Int32).toNatClampNeg = 0 := rfl
  rw [z0]
  by_cases hz : g 0 = 0
  · rw [if_pos hz]
    exact hK f g hI
  · rw [if_neg hz]
    have hg : 0 ≤ DG (g 0) := by
      rcases DG_z (g 0) with ⟨a, _⟩ | ⟨_, b⟩
      · exact absurd (Int64.toInt_inj.mp a) hz
      · exact b
    obtain ⟨q, r0, r1, r2, e1, e2, e3, e4, e5, e6⟩ := mi_step hI hg
    rw [e1]
    obtain ⟨f', g', i0, i1, i2, j0, j1, j2, e⟩ := mi_inner (q := q) (fun a b => ih a b) e2 e3 e4
    rw [obn_s, e]
    refine hih f' g' (e6 f' g' i0 i1 i2 j0 j1 j2) ?_
    show (DG (g' 0) + 1).toNat < (DG (g 0) + 1).toNat
    rw [j0]
    have := DG_ge (f 0 ^^^ r0)
    omega
theorem mi_init {z z' : Nat → Int64} {a b : Int64} (ha : DG a ≤ 39) (hb : DG b ≤ 39) : MI (vp_updL (vp_updL (vp_updL z (0 : Int32).toNatClampNeg a) (1 : Int32).toNatClampNeg (1 : Int64)) (2 : Int32).toNatClampNeg (0 : Int64)) (vp_updL (vp_updL (vp_updL z' (0 : Int32).toNatClampNeg b) (1 : Int32).toNatClampNeg (0 : Int64)) (2 : Int32).toNatClampNeg (1 : Int64)) := by
  have g0 := DG_0
  have g1 := DG_1
  refine ⟨ha, hb, fun i hi => ?_⟩
  rcases hi with rfl | rfl
  · show DG (1 : Int64) ≤ 39 ∧ DG (0 : Int64) ≤ 39 ∧ DG (1 : Int64) + DG b ≤ 39 ∧ DG (0 : Int64) + DG a ≤ 39
    omega
  · show DG (0 : Int64) ≤ 39 ∧ DG (1 : Int64) ≤ 39 ∧ DG (0 : Int64) + DG b ≤ 39 ∧ DG (1 : Int64) + DG a ≤ 39
    omega
/-! all primes of the degrees that divide n -/
noncomputable def pT (f : Nat) : Bool := f == 2 || f == 3 || f == 7 || f == 11 || f == 13 || f == 19 || f == 25 || f == 31 || f == 37 || f == 41 || f == 47 || f == 55 || f == 59 || f == 61
set_option maxRecDepth 100000 in
theorem pT_ok : ∀ f, f < 64 → 2 ≤ f → F_X9_isPrimeNow (lN f) = some (nI (if pT f then 1 else 0)) := by decide +kernel
noncomputable def apI (d : Nat) : Nat → Nat → Nat → Nat
  | 0, m, _ => m
  | u + 1, m, f => apI d u (if pT f then cl m f else m) (f + 1)
noncomputable def apO (n : Nat) : Nat → Nat → Nat → Nat
  | 0, m, _ => m
  | u + 1, m, d => apO n u (if n % d = 0 then apI d (2 ^ d) m (2 ^ d) else m) (d + 1)
theorem lN_succ (f : Nat) : lN f + (1 : Int64) = lN (f + 1) := (Int64.ofNat_add f 1).symm
theorem lN_leI {a b : Nat} (ha : a < 2 ^ 63) (hb : b < 2 ^ 63) : lN a ≤ lN b ↔ a ≤ b := by
  rw [Int64.le_iff_toInt_le, pf_lI ha, pf_lI hb]
  omega
theorem ap_in {d : Nat} (hd : 1 ≤ d) (hd2 : d ≤ 5) (K : Int64 → Option (Int32 × Int32 × Int32 × (Nat → Int64))) : ∀ u m f n, f + u = 2 ^ (d + 1) → 2 ≤ f → u < n → LQ2 (S_X9_allPrimes_63 (nI d) K) n (lN m) (lN f) = K (lN (apI d u m f)) := by
  have h6 := Nat.pow_le_pow_right (show 0 < 2 by decide) (show d + 1 ≤ 6 by omega)
  have e2 : (2 : Int64) <<< ((nI d).toInt64 &&& 63) = lN (2 ^ (d + 1)) := by
    rw [show (2 : Int64) = lN 2 from rfl, wb_shl 2 (by omega), Nat.pow_succ, Nat.mul_comm]
  intro u
  induction u with
  | zero =>
    intro m f n hf h2 hn
    obtain ⟨n, rfl⟩ : ∃ k, n = k + 1 := ⟨n - 1, by omega⟩
    show S_X9_allPrimes_63 _ K _ _ _ = _
    unfold S_X9_allPrimes_63
    rw [if_pos (show (2 : Int64) <<< ((nI d).toInt64 &&& 63) ≤ lN f from by rw [e2]; exact (lN_leI (by omega) (by omega)).mpr (by omega))]
    rfl
  | succ u ih =>
    intro m f n hf h2 hn
    obtain ⟨n, rfl⟩ : ∃ k, n = k + 1 := ⟨n - 1, by omega⟩
    show S_X9_allPrimes_63 _ K (LQ2 (S_X9_allPrimes_63 (nI d) K) n) _ _ = _
    unfold S_X9_allPrimes_63
    rw [if_neg (show ¬ (2 : Int64) <<< ((nI d).toInt64 &&& 63) ≤ lN f from fun h => by rw [e2] at h; have := (lN_leI (by omega) (by omega)).mp h; omega), pT_ok f (by omega) h2, apI]
    cases hp : pT f with
    | true =>
      have i2 := ih (cl m f) (f + 1) n (by omega) (by omega) (by omega)
      simp only [eq_self, if_true]
      rw [obn_s, if_neg (show ¬ nI 1 = 0 by decide), x9_prodc (by omega), obn_s]
      rw [← lN_succ] at i2
      exact i2
    | false =>
      have i2 := ih m (f + 1) n (by omega) (by omega) (by omega)
      simp only [Bool.false_eq_true, if_false]
      rw [obn_s, if_pos (show nI 0 = 0 from rfl)]
      rw [← lN_succ] at i2
      exact i2
theorem ap_out {n : Nat} (hn : 1 ≤ n) (hn5 : n ≤ 5) (K : Int64 → Option (Int32 × Int32 × Int32 × (Nat → Int64))) : ∀ u m d k, d + u = n + 1 → 1 ≤ d → u < k → LQ2 (S_X9_allPrimes_41 (nI n) K) k (lN m) (nI d) = K (lN (apO n u m d)) := by
  intro u
  induction u with
  | zero =>
    intro m d k hd h1 hk
    obtain ⟨k, rfl⟩ : ∃ j, k = j + 1 := ⟨k - 1, by omega⟩
    show S_X9_allPrimes_41 _ K _ _ _ = _
    unfold S_X9_allPrimes_41
    rw [if_pos ((nI_ltI (by omega) (by omega)).mpr (by omega))]
    rfl
  | succ u ih =>
    intro m d k hd h1 hk
    obtain ⟨k, rfl⟩ : ∃ j, k = j + 1 := ⟨k - 1, by omega⟩
    show S_X9_allPrimes_41 _ K (LQ2 (S_X9_allPrimes_41 (nI n) K) k) _ _ = _
    unfold S_X9_allPrimes_41
    rw [if_neg (fun h => by have := (nI_ltI (by omega) (by omega)).mp h; omega)]
    unfold chk
    rw [if_pos (fun h => by have := (nI_eq (a := d) (b := 0) (by omega) (by omega)).mp h; omega), pk_rem (by omega) (by omega) (by omega), apO]
    have hs : nI d + 1 = nI (d + 1) := (nI_succ d).symm
    have hm : n % d < 2 ^ 31 := Nat.lt_of_le_of_lt (Nat.mod_le _ _) (by omega)
    by_cases hz : n % d = 0
    · rw [if_pos (show nI (n % d) = 0 by rw [hz]; rfl), if_pos hz]
      have e1 : (1 : Int64) <<< ((nI d).toInt64 &&& 63) = lN (2 ^ d) := by
        rw [show (1 : Int64) = lN 1 from rfl, wb_shl 1 (by omega), Nat.one_mul]
      have h5 := Nat.pow_le_pow_right (show 0 < 2 by decide) (show d ≤ 5 by omega)
      have h4 := Nat.pow_le_pow_right (show 0 < 2 by decide) (show 1 ≤ d by omega)
      show LQ2 (S_X9_allPrimes_63 (nI d) _) 20000 (lN m) ((1 : Int64) <<< ((nI d).toInt64 &&& 63)) = _
      rw [e1, ap_in h1 (by omega) _ (2 ^ d) m (2 ^ d) 20000 (by rw [Nat.pow_succ]; omega) (by omega) (by omega)]
      unfold J_X9_allPrimes_99
      show LQ2 (S_X9_allPrimes_41 (nI n) K) k _ (nI d + 1) = _
      rw [hs]
      exact ih _ (d + 1) k (by omega) (by omega) (by omega)
    · rw [if_neg (show ¬ nI (n % d) = 0 from fun h => hz ((nI_eq (b := 0) hm (by omega)).mp h)), if_neg hz]
      unfold J_X9_allPrimes_99
      show LQ2 (S_X9_allPrimes_41 (nI n) K) k _ (nI d + 1) = _
      rw [hs]
      exact ih _ (d + 1) k (by omega) (by omega) (by omega)
theorem ap_c : ∀ n, n < 6 → 1 ≤ n → apO n n 1 1 < 2 ^ 33 := by decide +kernel
theorem ap_loop {Q : Int32 × Int32 × Int32 × (Nat → Int64) → Prop} (K : Int64 → Option (Int32 × Int32 × Int32 × (Nat → Int64))) (hK : ∀ v, DG v ≤ 39 → ok (K v) Q) (p : Int32) (h1 : 1 ≤ p.toInt) (h5 : p.toInt ≤ 5) : ok (LQ2 (S_X9_allPrimes_41 p K) 20000 (1 : Int64) (1 : Int32)) Q := by
  obtain ⟨n, hn, rfl⟩ := i_of (n := 5) (by omega) h5
  rw [nI_toInt (by omega)] at h1
  have e := ap_out (n := n) (by omega) hn K n 1 1 20000 (by omega) (by omega) (by omega)
  have e : LQ2 (S_X9_allPrimes_41 (nI n) K) 20000 (1 : Int64) (1 : Int32) = K (lN (apO n n 1 1)) := e
  rw [e]
  have hc := ap_c n (by omega) (by omega)
  have := bl_le.mpr hc
  exact hK _ (by rw [DG_lN (by omega)]; omega)
/-! the product of the roll -/
noncomputable def SD (f : Nat → Int64) : Nat → Int
  | 0 => 0
  | k + 1 => SD f k + DG (f k)
theorem SD_mono {f : Nat → Int64} {m : Nat} (h : ∀ j, j < m → 0 ≤ DG (f j)) : ∀ k u, k + u = m → SD f k ≤ SD f m := by
  intro k u
  induction u generalizing k with
  | zero => intro e; rw [show k = m by omega]; exact Int.le_refl _
  | succ u ih =>
    intro e
    have := ih (k + 1) (by omega)
    rw [SD] at this
    have := h k (by omega)
    omega
theorem or01 : ∀ a, a < 2 → ∀ b, b < 2 → (nI a ||| nI b) = nI (if a = 0 ∧ b = 0 then 0 else 1) := by decide +kernel
theorem pd_1 {Q : Int32 × Int32 × Int32 × Int32 × (Nat → Int64) → Prop} (K : Int32 → Int32 → Option (Int32 × Int32 × Int32 × Int32 × (Nat → Int64))) (m : Int32) (f : Nat → Int64) (hf : FA f) (h0 : 0 ≤ m.toInt) (h12 : m.toInt ≤ 12) (hK : ∀ s e, (e = 0 ∧ s.toInt = SD f m.toInt.toNat ∧ ∀ j, j < m.toInt.toNat → 0 ≤ DG (f j)) ∨ e = 1 → ok (K s e) Q) : ok (LQ3 (S_X9_product_28 m f K) 20000 (0 : Int32) (0 : Int32) (0 : Int32)) Q := by
  obtain ⟨M, hM, rfl⟩ := i_of (n := 12) h0 h12
  rw [nI_toInt (by omega)] at hK
  have hK : ∀ s e, (e = 0 ∧ s.toInt = SD f M ∧ ∀ j, j < M → 0 ≤ DG (f j)) ∨ e = 1 → ok (K s e) Q := hK
  refine ok_L3 (fun s e k => ∃ j, j ≤ M ∧ k = nI j ∧ s.toInt = SD f j ∧ -(j : Int) ≤ SD f j ∧ SD f j ≤ 39 * j ∧ ((e = 0 ∧ ∀ i, i < j → 0 ≤ DG (f i)) ∨ e = 1)) (fun _ _ k => (20 - k.toInt).toNat) (fun ih s e k hI hih => ?_) 20000 _ _ _ ⟨0, by omega, rfl, rfl, by simp [SD], by simp [SD], Or.inl ⟨rfl, fun i h => by omega⟩⟩ (by decide)
  obtain ⟨j, hj, rfl, hs, b1, b2, he⟩ := hI
  unfold S_X9_product_28
  by_cases hm : M ≤ j
  · rw [if_pos (nI_le hm (by omega))]
    have : j = M := by omega
    subst this
    refine hK s e ?_
    rcases he with ⟨e1, e2⟩ | e1
    · exact Or.inl ⟨e1, hs, e2⟩
    · exact Or.inr e1
  · rw [if_neg (nI_ge (by omega) (by omega))]
    have hc : ¬ (nI j < 0 ∨ 12 ≤ (nI j).toNatClampNeg) := ixo (by rw [nI_toInt (by omega)]; omega) (by rw [nI_toInt (by omega)]; omega)
    have ec : (nI j).toNatClampNeg = j := cl_N (by omega)
    obtain ⟨g1, g2⟩ := FA_at hf j
    refine ok_c hc (ok_o (sp_X9_degreeOf _) (fun r h => ok_bx (fun s2 es => ok_c hc ?_)))
    rw [ec] at h ⊢
    have hs2 : s2.toInt = SD f (j + 1) := by
      rw [es, addT (by rw [hs]; omega) (by rw [hs]; omega), hs, SD]; omega
    have go : ∀ b, b < 2 → (b = 0 → 0 ≤ DG (f j)) → ok (J_X9_product_68 ih s2 (nI j) e (nI b)) Q := by
      intro b hb hbd
      unfold J_X9_product_68
      refine ok_bx (fun e2 ee => ok_bx (fun k2 ek => ?_))
      have ek : k2 = nI (j + 1) := by rw [ek, nI_succ]
      subst ek
      refine hih s2 e2 _ ⟨j + 1, by omega, rfl, hs2, by rw [SD]; omega, by rw [SD]; omega, ?_⟩ (by rw [nI_toInt (by omega), nI_toInt (by omega)]; omega)
      rcases he with ⟨e1, e9⟩ | e1
      · subst e1
        by_cases hb0 : b = 0
        · subst hb0
          refine Or.inl ⟨by rw [ee]; exact or01 0 (by decide) 0 (by decide), fun i hi => ?_⟩
          rcases Nat.lt_or_ge i j with h9 | h9
          · exact e9 i h9
          · rw [show i = j by omega]; exact hbd rfl
        · have : b = 1 := by omega
          subst this
          exact Or.inr (by rw [ee]; exact or01 0 (by decide) 1 (by decide))
      · subst e1
        refine Or.inr ?_
        rw [ee]
        have := or01 1 (by decide) b hb
        rw [if_neg (by omega)] at this
        exact this
    by_cases hz : f j = 0
    · rw [if_pos hz]
      exact go 1 (by decide) (fun h => by omega)
    · rw [if_neg hz]
      refine go 0 (by decide) (fun _ => ?_)
      rcases DG_z (f j) with ⟨a, _⟩ | ⟨_, b⟩
      · exact absurd (Int64.toInt_inj.mp a) hz
      · exact b
theorem pd_2 {Q : Int32 × Int32 × Int32 × Int32 × (Nat → Int64) → Prop} (K : Int64 → Option (Int32 × Int32 × Int32 × Int32 × (Nat → Int64))) (hK : ∀ v, DG v ≤ 39 → ok (K v) Q) (m : Int32) (f : Nat → Int64) (e : Int32) (v : Int64) (hf : FA f) (h0 : 0 ≤ m.toInt) (h12 : m.toInt ≤ 12) (he : (e = 0 ∧ v = 1 ∧ SD f m.toInt.toNat ≤ 39 ∧ ∀ j, j < m.toInt.toNat → 0 ≤ DG (f j)) ∨ (e = 1 ∧ v = 0)) : ok (LQ2 (S_X9_product_105 e m f K) 20000 v (0 : Int32)) Q := by
  obtain ⟨M, hM, rfl⟩ := i_of (n := 12) h0 h12
  rw [nI_toInt (by omega)] at he
  have he : (e = 0 ∧ v = 1 ∧ SD f M ≤ 39 ∧ ∀ j, j < M → 0 ≤ DG (f j)) ∨ (e = 1 ∧ v = 0) := he
  rcases he with ⟨rfl, rfl, hs, hn⟩ | ⟨rfl, rfl⟩
  · refine ok_L2 (fun w k => ∃ j, j ≤ M ∧ k = nI j ∧ DG w = SD f j) (fun _ k => (20 - k.toInt).toNat) (fun ih w k hI hih => ?_) 20000 _ _ ⟨0, by omega, rfl, DG_1⟩ (by decide)
    obtain ⟨j, hj, rfl, hw⟩ := hI
    have mo := SD_mono hn j (M - j) (by omega)
    unfold S_X9_product_105
    by_cases hm : M ≤ j
    · rw [if_pos (nI_le hm (by omega))]
      exact hK w (by omega)
    · rw [if_neg (nI_ge (by omega) (by omega)), if_pos rfl]
      have hc : ¬ (nI j < 0 ∨ 12 ≤ (nI j).toNatClampNeg) := ixo (by rw [nI_toInt (by omega)]; omega) (by rw [nI_toInt (by omega)]; omega)
      have ec : (nI j).toNatClampNeg = j := cl_N (by omega)
      obtain ⟨g1, g2⟩ := FA_at hf j
      have g3 := hn j (by omega)
      have mo2 := SD_mono hn (j + 1) (M - (j + 1)) (by omega)
      have mo0 := SD_mono (m := j) (fun i hi => hn i (by omega)) 0 j (by omega)
      simp only [SD] at mo2 mo0
      refine ok_c hc ?_
      rw [ec]
      refine ok_o (sp_X9_productOf _ _ (by omega) g2) (fun r h => ok_bx (fun k2 ek => ?_))
      have ek : k2 = nI (j + 1) := by rw [ek, nI_succ]
      subst ek
      exact hih r _ ⟨j + 1, by omega, rfl, by rw [SD]; omega⟩ (by rw [nI_toInt (by omega), nI_toInt (by omega)]; omega)
  · show ok (S_X9_product_105 1 (nI M) f K _ _ _) Q
    unfold S_X9_product_105
    refine ok_i (fun _ => hK _ (by rw [DG_0]; decide)) (fun _ => ?_)
    rw [if_neg (by decide)]
    exact hK _ (by rw [DG_0]; decide)
theorem mulT1 {a b : Int32} {n : Int} (ha : a.toInt = n) (h1 : -2147483648 ≤ n * b.toInt) (h2 : n * b.toInt < 2147483648) : (a * b).toInt = n * b.toInt := by
  rw [Int32.toInt_mul, ha]
  exact Int.bmod_eq_of_le (by omega) (by omega)
theorem negT {a : Int32} (h : -2147483647 ≤ a.toInt) : (-a).toInt = - a.toInt := by
  have h2 := a.toInt_lt
  rw [Int32.toInt_neg]
  exact Int.bmod_eq_of_le (by omega) (by omega)
theorem sh10 : ∀ k, k < 11 → 1 ≤ ((1 : Int64) <<< ((nI k).toInt64 &&& 63)).toInt ∧ ((1 : Int64) <<< ((nI k).toInt64 &&& 63)).toInt ≤ 1024 ∧ 2 ≤ ((2 : Int64) <<< ((nI k).toInt64 &&& 63)).toInt ∧ ((2 : Int64) <<< ((nI k).toInt64 &&& 63)).toInt ≤ 2048 := by decide +kernel
theorem sh_10 {x : Int32} (h : 0 ≤ x.toInt) (h2 : x.toInt ≤ 10) : 1 ≤ ((1 : Int64) <<< (x.toInt64 &&& 63)).toInt ∧ ((1 : Int64) <<< (x.toInt64 &&& 63)).toInt ≤ 1024 ∧ 2 ≤ ((2 : Int64) <<< (x.toInt64 &&& 63)).toInt ∧ ((2 : Int64) <<< (x.toInt64 &&& 63)).toInt ≤ 2048 := by
  obtain ⟨k, hk, rfl⟩ := i_of (n := 10) h h2
  exact sh10 k (by omega)
theorem DG_i0 {p : Int32} (h : p.toInt = 0) : DG p.toInt64 = -1 := by
  have e : p = 0 := Int32.toInt_inj.mp (by rw [h]; rfl)
  subst e
  exact DG_0
theorem and1k (x : Int32) : 0 ≤ (x &&& (1 : Int32)).toInt ∧ (x &&& (1 : Int32)).toInt ≤ 1 := by
  have h : (x &&& 1).toBitVec.toNat ≤ 1 := by
    rw [Int32.toBitVec_and, BitVec.toNat_and]
    exact Nat.le_trans Nat.and_le_right (by decide)
  have c := BitVec.toInt_eq_toNat_cond (x &&& 1).toBitVec
  show 0 ≤ (x &&& 1).toBitVec.toInt ∧ (x &&& 1).toBitVec.toInt ≤ 1
  rw [c]
  split <;> omega
theorem nl_of {x : Int32} (h : 0 ≤ x.toInt) : ¬ x < 0 := fun h9 => by
  rw [Int32.lt_iff_toInt_lt, show (0 : Int32).toInt = 0 from by decide] at h9
  omega
theorem cl_le {x : Int32} {n : Nat} (h : 0 ≤ x.toInt) (h2 : x.toInt ≤ n) : x.toNatClampNeg ≤ n := by
  rw [Int32.toNatClampNeg]
  omega
theorem bad_mark : ∀ k, k < 11 → 1 ≤ k → (F_X2_markOf (nI k)).isSome = true := by decide +kernel
theorem bad_sum : ∀ k, k < 11 → 1 ≤ k → (F_X2_howManyBySum (nI k)).isSome = true := by decide +kernel
theorem sp_X2_howManyBySum (p0 : Int32) (h0 : 1 ≤ p0.toInt) (h1 : p0.toInt ≤ 10) : ok (F_X2_howManyBySum p0) (fun _ => True) := by
  obtain ⟨k, hk, rfl⟩ := i_of (n := 10) (by omega) h1
  rw [nI_toInt (by omega)] at h0
  obtain ⟨r, hr⟩ := Option.isSome_iff_exists.mp (bad_sum k (by omega) (by omega))
  exact ⟨r, hr, trivial⟩
theorem pd_he0 {e s : Int32} {f : Nat → Int64} {m : Nat} (h : (e = 0 ∧ s.toInt = SD f m ∧ ∀ j, j < m → 0 ≤ DG (f j)) ∨ e = 1) (h0 : e.toInt = 0) (hs : s.toInt ≤ 39) : (e = 0 ∧ (1 : Int64) = 1 ∧ SD f m ≤ 39 ∧ ∀ j, j < m → 0 ≤ DG (f j)) ∨ (e = 1 ∧ (1 : Int64) = 0) := by
  rcases h with ⟨h1, h2, h3⟩ | h1
  · exact Or.inl ⟨h1, rfl, by omega, h3⟩
  · subst h1
    exact absurd h0 (by decide)
theorem pd_he1 {e s : Int32} {f : Nat → Int64} {m : Nat} (h : (e = 0 ∧ s.toInt = SD f m ∧ ∀ j, j < m → 0 ≤ DG (f j)) ∨ e = 1) (h0 : e.toInt ≠ 0) : (e = 0 ∧ (0 : Int64) = 1 ∧ SD f m ≤ 39 ∧ ∀ j, j < m → 0 ≤ DG (f j)) ∨ (e = 1 ∧ (0 : Int64) = 0) := by
  rcases h with ⟨h1, h2, h3⟩ | h1
  · exact absurd (by rw [h1]; rfl) h0
  · exact Or.inr ⟨h1, rfl⟩
