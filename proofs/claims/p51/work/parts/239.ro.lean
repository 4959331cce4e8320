/-! S2. the roll: behind, away, turned, put in a row -/
theorem cl_i {k : Nat} (h : k < 2 ^ 31) : (nI k).toNatClampNeg = k := cl_N h
theorem ix_12 {k : Nat} (h : k < 12) : ¬ (nI k < 0 ∨ 12 ≤ (nI k).toNatClampNeg) := ixo (by rw [nI_toInt (by omega)]; omega) (by rw [nI_toInt (by omega)]; omega)
theorem ix_12b {k : Nat} (h : k < 12) : ¬ (nI k < 0 ∨ 12 ≤ k) := fun h9 => h9.elim (nI_pos (by omega)) (by omega)
theorem nI_p1 (k : Nat) : nI k + (1 : Int32) = nI (k + 1) := (nI_succ k).symm
theorem nI_p1' (k : Nat) : nI k + 1 = nI (k + 1) := (nI_succ k).symm
theorem nI_s1 (k : Nat) : nI (k + 1) - (1 : Int32) = nI k := nI_pred k
theorem nI_s1' {k : Nat} (h : 1 ≤ k) : nI k - (1 : Int32) = nI (k - 1) := by
  have := nI_pred (k - 1)
  rw [show k - 1 + 1 = k by omega] at this
  exact this
theorem fx_X3_append (s : Int32) (f : Nat → Int64) (v : Int64) (h0 : 0 ≤ s.toInt) (h1 : s.toInt ≤ 11) : ok (F_X3_append s f v) (fun r => r.1 = s + (1 : Int32) ∧ r.2 = vp_updL f s.toNatClampNeg v) := by
  unfold F_X3_append
  rw [if_neg (fun h => by rw [Int32.le_iff_toInt_le, show (12 : Int32).toInt = 12 from by decide] at h; omega)]
  exact ok_c (ixo h0 (by omega)) (ok_s ⟨rfl, rfl⟩)
theorem fx_X3_at (s : Int32) (f : Nat → Int64) (k : Int32) (h0 : 0 ≤ k.toInt) (h1 : k.toInt ≤ s.toInt - 1) (h2 : s.toInt ≤ 12) : ok (F_X3_at s f k) (fun r => r = f k.toNatClampNeg) := by
  have e0 : (0 : Int32).toInt = 0 := by decide
  unfold F_X3_at
  rw [if_neg (fun h => by rw [Int32.lt_iff_toInt_lt, e0] at h; omega), if_pos (by rw [Int32.lt_iff_toInt_lt]; omega)]
  exact ok_c (ixo h0 (by omega)) (ok_s rfl)
/-- one goes -/
noncomputable def rmA (f : Nat → Int64) (k m : Nat) : Nat → Int64 := fun i => if k ≤ i ∧ i < m then f (i + 1) else f i
theorem rmA_FA {f : Nat → Int64} (h : FA f) (k m : Nat) : FA (rmA f k m) := fun i => by
  show DG (if k ≤ i ∧ i < m then f (i + 1) else f i) ≤ 39
  split
  · exact h _
  · exact h _
theorem rmA_0 (f : Nat → Int64) (k : Nat) : rmA f k k = f := funext fun i => by
  show (if k ≤ i ∧ i < k then f (i + 1) else f i) = f i
  rw [if_neg (by omega)]
theorem rmA_s {f : Nat → Int64} {k m : Nat} (h : k ≤ m) : vp_updL (rmA f k m) m (rmA f k m (m + 1)) = rmA f k (m + 1) := funext fun i => by
  show (if i = m then (if k ≤ m + 1 ∧ m + 1 < m then f (m + 1 + 1) else f (m + 1)) else if k ≤ i ∧ i < m then f (i + 1) else f i) = if k ≤ i ∧ i < m + 1 then f (i + 1) else f i
  by_cases hi : i = m
  · subst hi
    rw [if_pos rfl, if_neg (by omega), if_pos (by omega)]
  · rw [if_neg hi]
    by_cases h2 : k ≤ i ∧ i < m
    · rw [if_pos h2, if_pos (by omega)]
    · rw [if_neg h2, if_neg (by omega)]
theorem fx_X3_removeAt (s : Int32) (f : Nat → Int64) (k : Int32) (h0 : 0 ≤ k.toInt) (h1 : k.toInt ≤ s.toInt - 1) (h2 : s.toInt ≤ 12) : ok (F_X3_removeAt s f k) (fun r => r.1 = s - (1 : Int32) ∧ r.2 = rmA f k.toInt.toNat (s.toInt.toNat - 1)) := by
  obtain ⟨m, hm, rfl⟩ := i_of (n := 12) (by omega) h2
  obtain ⟨j, hj, rfl⟩ := i_of (n := 12) h0 (by omega)
  rw [nI_toInt (by omega), nI_toInt (by omega)] at h1
  rw [nI_toInt (by omega), nI_toInt (by omega)]
  unfold F_X3_removeAt
  rw [if_neg (nI_pos (by omega)), if_pos ((nI_ltI (by omega) (by omega)).mpr (by omega))]
  refine ok_bx (fun x2 ex => ?_)
  have ex : x2 = nI (j + 1) := by rw [ex, nI_p1]
  subst ex
  show ok _ (fun r : Int32 × (Nat → Int64) => r.1 = nI m - (1 : Int32) ∧ r.2 = rmA f j (m - 1))
  refine ok_L2 (fun y g => ∃ a, j ≤ a ∧ a + 1 ≤ m ∧ y = nI (a + 1) ∧ g = rmA f j a) (fun y _ => (20 - y.toInt).toNat) (fun ih y g hI hih => ?_) 20000 _ _ ⟨j, Nat.le_refl _, by omega, rfl, (rmA_0 f j).symm⟩ (by rw [nI_toInt (by omega)]; omega)
  obtain ⟨a, h3, h4, rfl, rfl⟩ := hI
  unfold S_X3_removeAt_17
  by_cases h : m ≤ a + 1
  · rw [if_pos (nI_le h (by omega))]
    have : a = m - 1 := by omega
    subst this
    exact ok_s ⟨rfl, rfl⟩
  · rw [if_neg (nI_ge (by omega) (by omega)), nI_s1]
    refine ok_c (by first | exact ix_12 (by omega) | exact ix_12b (by omega)) (ok_c (by first | exact ix_12 (by omega) | exact ix_12b (by omega)) (ok_bx (fun g2 eg => ok_bx (fun y2 ey => ?_))))
    have ey : y2 = nI (a + 1 + 1) := by first | exact ey | rw [ey, nI_p1']
    subst ey
    refine hih _ _ ⟨a + 1, by omega, by omega, rfl, ?_⟩ (by rw [nI_toInt (by omega), nI_toInt (by omega)]; omega)
    rw [eg, cl_i (by omega), cl_i (by omega), rmA_s h3]
theorem st_loop {Q : Int32 × Int32 × Int32 × Int32 × (Nat → Int64) → Prop} (K : (Nat → Int64) → Option (Int32 × Int32 × Int32 × Int32 × (Nat → Int64))) (s k : Int32) (f : Nat → Int64) (hf : FA f) (h0 : 0 ≤ k.toInt) (h1 : k.toInt ≤ s.toInt) (h2 : s.toInt ≤ 11) (hK : ∀ g, FA g → g = rmA f k.toInt.toNat s.toInt.toNat → ok (K g) Q) : ok (LQ2 (S_X9_strike_48 s K) 20000 k f) Q := by
  obtain ⟨m, hm, rfl⟩ := i_of (n := 11) (by omega) h2
  obtain ⟨j, hj, rfl⟩ := i_of (n := 11) h0 (by omega)
  rw [nI_toInt (by omega), nI_toInt (by omega)] at h1
  rw [nI_toInt (by omega), nI_toInt (by omega)] at hK
  have hK : ∀ g, FA g → g = rmA f j m → ok (K g) Q := hK
  refine ok_L2 (fun y g => ∃ a, j ≤ a ∧ a ≤ m ∧ y = nI a ∧ g = rmA f j a) (fun y _ => (20 - y.toInt).toNat) (fun ih y g hI hih => ?_) 20000 _ _ ⟨j, Nat.le_refl _, by omega, rfl, (rmA_0 f j).symm⟩ (by rw [nI_toInt (by omega)]; omega)
  obtain ⟨a, h3, h4, rfl, rfl⟩ := hI
  unfold S_X9_strike_48
  by_cases h : m ≤ a
  · rw [if_pos (nI_le h (by omega))]
    have : a = m := by omega
    subst this
    exact hK _ (rmA_FA hf _ _) rfl
  · rw [if_neg (nI_ge (by omega) (by omega)), nI_p1]
    refine ok_c (by first | exact ix_12 (by omega) | exact ix_12b (by omega)) (ok_c (by first | exact ix_12 (by omega) | exact ix_12b (by omega)) (ok_bx (fun g2 eg => ok_bx (fun y2 ey => ?_))))
    have ey : y2 = nI (a + 1) := by first | exact ey | rw [ey, nI_p1']
    subst ey
    refine hih _ _ ⟨a + 1, by omega, by omega, rfl, ?_⟩ (by rw [nI_toInt (by omega), nI_toInt (by omega)]; omega)
    rw [eg, cl_i (by omega), cl_i (by omega), rmA_s h3]
/-! how many are other ones -/
noncomputable def oc (f g : Nat → Int64) : Nat → Nat
  | 0 => 0
  | m + 1 => oc f g m + (if f m = g m then 0 else 1)
theorem oc_congr {f g f' g' : Nat → Int64} : ∀ m, (∀ i, i < m → f i = f' i) → (∀ i, i < m → g i = g' i) → oc f g m = oc f' g' m := by
  intro m
  induction m with
  | zero => intro _ _; rfl
  | succ m ih => intro h1 h2; rw [oc, oc, ih (fun i hi => h1 i (by omega)) (fun i hi => h2 i (by omega)), h1 m (by omega), h2 m (by omega)]
theorem oc_le (f g : Nat → Int64) : ∀ m, oc f g m ≤ m := by
  intro m
  induction m with
  | zero => exact Nat.le_refl _
  | succ m ih => rw [oc]; split <;> omega
theorem fx_X3_howManyOthers (s : Int32) (f g : Nat → Int64) (h0 : 0 ≤ s.toInt) (h2 : s.toInt ≤ 12) : ok (F_X3_howManyOthers s f g) (fun r => r = nI (oc f g s.toInt.toNat)) := by
  obtain ⟨m, hm, rfl⟩ := i_of (n := 12) h0 h2
  rw [nI_toInt (by omega)]
  show ok _ (fun r : Int32 => r = nI (oc f g m))
  unfold F_X3_howManyOthers
  refine ok_L2 (fun c y => ∃ a, a ≤ m ∧ y = nI a ∧ c = nI (oc f g a)) (fun _ y => (20 - y.toInt).toNat) (fun ih c y hI hih => ?_) 20000 _ _ ⟨0, by omega, rfl, rfl⟩ (by decide)
  obtain ⟨a, h3, rfl, rfl⟩ := hI
  unfold S_X3_howManyOthers_4
  by_cases h : m ≤ a
  · rw [if_pos (nI_le h (by omega))]
    have : a = m := by omega
    subst this
    exact ok_s rfl
  · rw [if_neg (nI_ge (by omega) (by omega))]
    refine ok_c (by first | exact ix_12 (by omega) | exact ix_12b (by omega)) (ok_c (by first | exact ix_12 (by omega) | exact ix_12b (by omega)) ?_)
    rw [cl_i (by omega)]
    by_cases he : f a = g a
    · rw [if_pos he]
      refine ok_bx (fun y2 ey => ?_)
      have ey : y2 = nI (a + 1) := by first | exact ey | rw [ey, nI_p1']
      subst ey
      refine hih _ _ ⟨a + 1, by omega, rfl, ?_⟩ (by rw [nI_toInt (by omega), nI_toInt (by omega)]; omega)
      rw [oc, if_pos he]; rfl
    · rw [if_neg he]
      refine ok_bx (fun c2 ec => ok_bx (fun y2 ey => ?_))
      have ey : y2 = nI (a + 1) := by first | exact ey | rw [ey, nI_p1']
      subst ey
      refine hih _ _ ⟨a + 1, by omega, rfl, ?_⟩ (by rw [nI_toInt (by omega), nI_toInt (by omega)]; omega)
      rw [ec, oc, if_neg he, nI_p1']
theorem cpy_at (f g : Nat → Int64) (i : Nat) (h : i < 12) : va_cpy f g (0 : Int32).toNatClampNeg (0 : Int32).toNatClampNeg (12 : Int32).toNatClampNeg i = f i := by
  show (if 0 ≤ i ∧ i < 0 + 12 then f (0 + (i - 0)) else g i) = f i
  rw [if_pos (by omega), Nat.zero_add, Nat.sub_zero]
/-! each turned -/
noncomputable def tuA (f : Nat → Int64) (m : Nat) : Nat → Int64 := fun i => if i < m then uL (f i) else f i
theorem tuA_0 (f : Nat → Int64) : tuA f 0 = f := funext fun i => if_neg (by omega)
theorem tuA_s (f : Nat → Int64) (m : Nat) : vp_updL (tuA f m) m (uL (f m)) = tuA f (m + 1) := funext fun i => by
  show (if i = m then uL (f m) else if i < m then uL (f i) else f i) = if i < m + 1 then uL (f i) else f i
  by_cases hi : i = m
  · subst hi
    rw [if_pos rfl, if_pos (by omega)]
  · rw [if_neg hi]
    by_cases h2 : i < m
    · rw [if_pos h2, if_pos (by omega)]
    · rw [if_neg h2, if_neg (by omega)]
theorem tuA_at (f : Nat → Int64) (m : Nat) : tuA f m m = f m := if_neg (by omega)
theorem uL_39 {x : Int64} (h : DG x ≤ 39) : DG (uL x) ≤ 39 := by
  obtain ⟨r, _, h1, h2⟩ := fx_X9_turnedOf x h
  rw [← h2]; exact h1
theorem tuA_FA {f : Nat → Int64} (h : FA f) (m : Nat) : FA (tuA f m) := fun i => by
  show DG (if i < m then uL (f i) else f i) ≤ 39
  split
  · exact uL_39 (h _)
  · exact h _
theorem fx_X3_turnEach (s : Int32) (f b : Nat → Int64) (hf : FA f) (h0 : 0 ≤ s.toInt) (h2 : s.toInt ≤ 12) : ok (F_X3_turnEach s f b) (fun r => r.1 = nI (oc (tuA f s.toInt.toNat) f s.toInt.toNat) ∧ r.2.1 = tuA f s.toInt.toNat) := by
  obtain ⟨m, hm, rfl⟩ := i_of (n := 12) h0 h2
  have e : (nI m).toInt.toNat = m := by rw [nI_toInt (by omega)]; rfl
  rw [e]
  unfold F_X3_turnEach
  refine ok_bx (fun b2 eb => ?_)
  refine ok_L2 (fun y g => ∃ a, a ≤ m ∧ y = nI a ∧ g = tuA f a) (fun y _ => (20 - y.toInt).toNat) (fun ih y g hI hih => ?_) 20000 _ _ ⟨0, by omega, rfl, (tuA_0 f).symm⟩ (by decide)
  obtain ⟨a, h3, rfl, rfl⟩ := hI
  unfold S_X3_turnEach_17
  by_cases h : m ≤ a
  · rw [if_pos (nI_le h (by omega))]
    have : a = m := by omega
    subst this
    refine ok_o (fx_X3_howManyOthers (nI a) (tuA f a) b2 h0 h2) (fun r hr => ok_s ⟨?_, rfl⟩)
    show r = _
    rw [hr, e]
    exact congrArg nI (oc_congr a (fun _ _ => rfl) (fun i hi => by rw [eb]; exact cpy_at f b i (by omega)))
  · rw [if_neg (nI_ge (by omega) (by omega))]
    refine ok_c (by first | exact ix_12 (by omega) | exact ix_12b (by omega)) ?_
    rw [cl_i (by omega), tuA_at]
    refine ok_o (fx_X0_turned (f a) (hf a)) (fun r hr => ok_c (by first | exact ix_12 (by omega) | exact ix_12b (by omega)) (ok_bx (fun g2 eg => ok_bx (fun y2 ey => ?_))))
    have ey : y2 = nI (a + 1) := by first | exact ey | rw [ey, nI_p1']
    subst ey
    have hr : r = uL (f a) := hr
    refine hih _ _ ⟨a + 1, by omega, rfl, ?_⟩ (by rw [nI_toInt (by omega), nI_toInt (by omega)]; omega)
    rw [eg, hr, tuA_s]
theorem tu_loop {Q : Int32 × Int32 × Int32 × (Nat → Int64) → Prop} (K : Int32 → (Nat → Int64) → Option (Int32 × Int32 × Int32 × (Nat → Int64))) (s : Int32) (f : Nat → Int64) (hf : FA f) (h0 : 0 ≤ s.toInt) (h2 : s.toInt ≤ 12) (hK : ∀ c g, c = nI (oc (tuA f s.toInt.toNat) f s.toInt.toNat) ∧ g = tuA f s.toInt.toNat ∧ FA g → ok (K c g) Q) : ok (LQ3 (S_X9_turnAll_9 s K) 20000 (0 : Int32) (0 : Int32) f) Q := by
  obtain ⟨m, hm, rfl⟩ := i_of (n := 12) h0 h2
  have e : (nI m).toInt.toNat = m := by rw [nI_toInt (by omega)]; rfl
  rw [e] at hK
  refine ok_L3 (fun c y g => ∃ a, a ≤ m ∧ y = nI a ∧ g = tuA f a ∧ c = nI (oc (tuA f m) f a)) (fun _ y _ => (20 - y.toInt).toNat) (fun ih c y g hI hih => ?_) 20000 _ _ _ ⟨0, by omega, rfl, (tuA_0 f).symm, rfl⟩ (by decide)
  obtain ⟨a, h3, rfl, rfl, rfl⟩ := hI
  unfold S_X9_turnAll_9
  by_cases h : m ≤ a
  · rw [if_pos (nI_le h (by omega))]
    have : a = m := by omega
    subst this
    exact hK _ _ ⟨rfl, rfl, tuA_FA hf _⟩
  · rw [if_neg (nI_ge (by omega) (by omega))]
    refine ok_c (by first | exact ix_12 (by omega) | exact ix_12b (by omega)) ?_
    rw [cl_i (by omega), tuA_at]
    refine ok_o (fx_X9_turnedOf (f a) (hf a)) (fun r hr => ok_c (by first | exact ix_12 (by omega) | exact ix_12b (by omega)) ?_)
    have hr : r = uL (f a) := hr.2
    have hm9 : tuA f m a = uL (f a) := if_pos (by omega)
    by_cases he : r = f a
    · rw [if_pos he]
      refine ok_bx (fun c2 ec => ok_c (by first | exact ix_12 (by omega) | exact ix_12b (by omega)) (ok_bx (fun g2 eg => ok_bx (fun y2 ey => ?_))))
      have ey : y2 = nI (a + 1) := by first | exact ey | rw [ey, nI_p1']
      subst ey
      refine hih _ _ _ ⟨a + 1, by omega, rfl, by rw [eg, hr, tuA_s], ?_⟩ (by rw [nI_toInt (by omega), nI_toInt (by omega)]; omega)
      rw [ec, oc, hm9, ← hr, if_pos he]
      exact Int32.add_zero _
    · rw [if_neg he]
      refine ok_bx (fun c2 ec => ok_c (by first | exact ix_12 (by omega) | exact ix_12b (by omega)) (ok_bx (fun g2 eg => ok_bx (fun y2 ey => ?_))))
      have ey : y2 = nI (a + 1) := by first | exact ey | rw [ey, nI_p1']
      subst ey
      refine hih _ _ _ ⟨a + 1, by omega, rfl, by rw [eg, hr, tuA_s], ?_⟩ (by rw [nI_toInt (by omega), nI_toInt (by omega)]; omega)
      rw [ec, oc, hm9, ← hr, if_neg he, nI_p1]
/-! the product of the roll -/
noncomputable def PDn (f : Nat → Int64) : Nat → Int64
  | 0 => 1
  | k + 1 => cL (PDn f k) (f k)
theorem fx_X3_hasEmpty (s : Int32) (f : Nat → Int64) (h0 : 0 ≤ s.toInt) (h2 : s.toInt ≤ 12) : ok (F_X3_hasEmpty s f) (fun r => (r.toInt = 0 ∧ ∀ j, j < s.toInt.toNat → 0 ≤ DG (f j)) ∨ (r.toInt = 1 ∧ ∃ j, j < s.toInt.toNat ∧ DG (f j) = -1)) := by
  obtain ⟨m, hm, rfl⟩ := i_of (n := 12) h0 h2
  have e : (nI m).toInt.toNat = m := by rw [nI_toInt (by omega)]; rfl
  rw [e]
  unfold F_X3_hasEmpty
  refine ok_L1 (fun y => ∃ a, a ≤ m ∧ y = nI a ∧ ∀ j, j < a → 0 ≤ DG (f j)) (fun y => (20 - y.toInt).toNat) (fun ih y hI hih => ?_) 20000 _ ⟨0, by omega, rfl, fun j hj => by omega⟩ (by decide)
  obtain ⟨a, h3, rfl, h4⟩ := hI
  unfold S_X3_hasEmpty_2
  by_cases h : m ≤ a
  · rw [if_pos (nI_le h (by omega))]
    have : a = m := by omega
    subst this
    exact ok_s (Or.inl ⟨rfl, h4⟩)
  · rw [if_neg (nI_ge (by omega) (by omega))]
    refine ok_c (by first | exact ix_12 (by omega) | exact ix_12b (by omega)) ?_
    rw [cl_i (by omega)]
    by_cases he : f a = 0
    · rw [if_pos he]
      exact ok_s (Or.inr ⟨rfl, a, by omega, by rw [he]; exact DG_0⟩)
    · rw [if_neg he]
      refine ok_bx (fun y2 ey => ?_)
      have ey : y2 = nI (a + 1) := by first | exact ey | rw [ey, nI_p1']
      subst ey
      refine hih _ ⟨a + 1, by omega, rfl, fun j hj => ?_⟩ (by rw [nI_toInt (by omega), nI_toInt (by omega)]; omega)
      rcases Nat.lt_or_ge j a with h9 | h9
      · exact h4 j h9
      · rw [show j = a by omega]
        rcases DG_z (f a) with ⟨q, _⟩ | ⟨_, q⟩
        · exact absurd (Int64.toInt_inj.mp q) he
        · exact q
theorem SD_b {f : Nat → Int64} (hf : FA f) : ∀ j : Nat, -(j : Int) ≤ SD f j ∧ SD f j ≤ 39 * (j : Int) := by
  intro j
  induction j with
  | zero => exact ⟨by show -((0 : Nat) : Int) ≤ 0; decide, by show (0 : Int) ≤ 39 * ((0 : Nat) : Int); decide⟩
  | succ j ih =>
    obtain ⟨g1, g2⟩ := FA_at hf j
    rw [SD]
    omega
theorem fx_X3_degreesTogether (s : Int32) (f : Nat → Int64) (hf : FA f) (h0 : 0 ≤ s.toInt) (h2 : s.toInt ≤ 12) : ok (F_X3_degreesTogether s f) (fun r => r.toInt = SD f s.toInt.toNat) := by
  obtain ⟨m, hm, rfl⟩ := i_of (n := 12) h0 h2
  have e : (nI m).toInt.toNat = m := by rw [nI_toInt (by omega)]; rfl
  rw [e]
  unfold F_X3_degreesTogether
  refine ok_L2 (fun c y => ∃ a, a ≤ m ∧ y = nI a ∧ c.toInt = SD f a) (fun _ y => (20 - y.toInt).toNat) (fun ih c y hI hih => ?_) 20000 _ _ ⟨0, by omega, rfl, rfl⟩ (by decide)
  obtain ⟨a, h3, rfl, h4⟩ := hI
  unfold S_X3_degreesTogether_4
  by_cases h : m ≤ a
  · rw [if_pos (nI_le h (by omega))]
    have : a = m := by omega
    subst this
    exact ok_s h4
  · rw [if_neg (nI_ge (by omega) (by omega))]
    refine ok_c (by first | exact ix_12 (by omega) | exact ix_12b (by omega)) ?_
    rw [cl_i (by omega), (DI_is _).2, obn_s]
    refine ok_bx (fun c2 ec => ok_bx (fun y2 ey => ?_))
    have ey : y2 = nI (a + 1) := by first | exact ey | rw [ey, nI_p1']
    subst ey
    have hb := SD_b hf a
    obtain ⟨g1, g2⟩ := FA_at hf a
    have hd := DI_T (f a)
    refine hih _ _ ⟨a + 1, by omega, rfl, ?_⟩ (by rw [nI_toInt (by omega), nI_toInt (by omega)]; omega)
    rw [ec, addT (by omega) (by omega), h4, hd, SD]
theorem fx_X3_multipliedAll (s : Int32) (f : Nat → Int64) (hf : FA f) (h0 : 0 ≤ s.toInt) (h2 : s.toInt ≤ 12) : ok (F_X3_multipliedAll s f) (fun r => ((∀ j, j < s.toInt.toNat → 0 ≤ DG (f j)) → r = PDn f s.toInt.toNat) ∧ ((∃ j, j < s.toInt.toNat ∧ DG (f j) = -1) → r = 0)) := by
  unfold F_X3_multipliedAll
  refine ok_o (fx_X3_hasEmpty s f h0 h2) (fun r hr => ?_)
  obtain ⟨m, hm, rfl⟩ := i_of (n := 12) h0 h2
  have e : (nI m).toInt.toNat = m := by rw [nI_toInt (by omega)]; rfl
  rw [e] at hr ⊢
  rcases hr with ⟨h1, h3⟩ | ⟨h1, j, hj, h3⟩
  · rw [if_pos (Int32.toInt_inj.mp (by rw [h1]; rfl))]
    refine ok_L2 (fun c y => ∃ a, a ≤ m ∧ y = nI a ∧ c = PDn f a) (fun _ y => (20 - y.toInt).toNat) (fun ih c y hI hih => ?_) 20000 _ _ ⟨0, by omega, rfl, rfl⟩ (by decide)
    obtain ⟨a, h4, rfl, rfl⟩ := hI
    unfold S_X3_multipliedAll_13
    by_cases h : m ≤ a
    · rw [if_pos (nI_le h (by omega))]
      have : a = m := by omega
      subst this
      exact ok_s ⟨fun _ => rfl, fun ⟨j, hj, h9⟩ => by have := h3 j hj; omega⟩
    · rw [if_neg (nI_ge (by omega) (by omega))]
      refine ok_c (by first | exact ix_12 (by omega) | exact ix_12b (by omega)) ?_
      rw [cl_i (by omega)]
      have hfa := hf a
      refine ok_o (fx_X0_multiplied (PDn f a) (f a) (by omega)) (fun r hr => ok_bx (fun y2 ey => ?_))
      have ey : y2 = nI (a + 1) := by first | exact ey | rw [ey, nI_p1']
      subst ey
      exact hih _ _ ⟨a + 1, by omega, rfl, hr⟩ (by rw [nI_toInt (by omega), nI_toInt (by omega)]; omega)
  · rw [if_neg (fun h9 => by rw [h9] at h1; exact absurd h1 (by decide))]
    exact ok_s ⟨fun h9 => by have := h9 j hj; omega, fun _ => rfl⟩
/-- the reference's two loops, with what comes out -/
theorem pd_3 {Q : Int32 × Int32 × Int32 × Int32 × (Nat → Int64) → Prop} (K : Int32 → Int32 → Option (Int32 × Int32 × Int32 × Int32 × (Nat → Int64))) (m : Int32) (f : Nat → Int64) (hf : FA f) (h0 : 0 ≤ m.toInt) (h12 : m.toInt ≤ 12) (hK : ∀ s e, (e.toInt = 0 ∧ s.toInt = SD f m.toInt.toNat ∧ ∀ j, j < m.toInt.toNat → 0 ≤ DG (f j)) ∨ (e.toInt = 1 ∧ ∃ j, j < m.toInt.toNat ∧ DG (f j) = -1) → ok (K s e) Q) : ok (LQ3 (S_X9_product_28 m f K) 20000 (0 : Int32) (0 : Int32) (0 : Int32)) Q := by
  obtain ⟨M, hM, rfl⟩ := i_of (n := 12) h0 h12
  have e9 : (nI M).toInt.toNat = M := by rw [nI_toInt (by omega)]; rfl
  rw [e9] at hK
  refine ok_L3 (fun s e k => ∃ j, j ≤ M ∧ k = nI j ∧ s.toInt = SD f j ∧ ((e = 0 ∧ ∀ i, i < j → 0 ≤ DG (f i)) ∨ (e = 1 ∧ ∃ i, i < j ∧ DG (f i) = -1))) (fun _ _ k => (20 - k.toInt).toNat) (fun ih s e k hI hih => ?_) 20000 _ _ _ ⟨0, by omega, rfl, rfl, Or.inl ⟨rfl, fun i h => by omega⟩⟩ (by decide)
  obtain ⟨j, hj, rfl, hs, he⟩ := hI
  have hb := SD_b hf j
  unfold S_X9_product_28
  by_cases hm : M ≤ j
  · rw [if_pos (nI_le hm (by omega))]
    have : j = M := by omega
    subst this
    refine hK s e ?_
    rcases he with ⟨e1, e2⟩ | ⟨e1, e2⟩
    · exact Or.inl ⟨by rw [e1]; rfl, hs, e2⟩
    · exact Or.inr ⟨by rw [e1]; rfl, e2⟩
  · rw [if_neg (nI_ge (by omega) (by omega))]
    obtain ⟨g1, g2⟩ := FA_at hf j
    have hd := DI_T (f j)
    refine ok_c (by first | exact ix_12 (by omega) | exact ix_12b (by omega)) ?_
    rw [cl_i (by omega), (DI_is _).1, obn_s]
    refine ok_bx (fun s2 es => ok_c (by first | exact ix_12 (by omega) | exact ix_12b (by omega)) ?_)
    have hs2 : s2.toInt = SD f (j + 1) := by
      rw [es, addT (by omega) (by omega), hs, hd, SD]
    have go : ∀ b, b < 2 → (b = 0 → 0 ≤ DG (f j)) → (b = 1 → DG (f j) = -1) → ok (J_X9_product_68 ih s2 (nI j) e (nI b)) Q := by
      intro b hb hb0 hb1
      unfold J_X9_product_68
      refine ok_bx (fun e2 ee => ok_bx (fun k2 ek => ?_))
      have ek : k2 = nI (j + 1) := by first | exact ek | rw [ek, nI_p1']
      subst ek
      refine hih s2 e2 _ ⟨j + 1, by omega, rfl, hs2, ?_⟩ (by rw [nI_toInt (by omega), nI_toInt (by omega)]; omega)
      rcases he with ⟨e1, e9⟩ | ⟨e1, i, hi, e9⟩
      · subst e1
        by_cases hz : b = 0
        · subst hz
          refine Or.inl ⟨by rw [ee]; exact or01 0 (by decide) 0 (by decide), fun i hi => ?_⟩
          rcases Nat.lt_or_ge i j with h9 | h9
          · exact e9 i h9
          · rw [show i = j by omega]; exact hb0 rfl
        · have : b = 1 := by omega
          subst this
          exact Or.inr ⟨by rw [ee]; exact or01 0 (by decide) 1 (by decide), j, by omega, hb1 rfl⟩
      · subst e1
        refine Or.inr ⟨?_, i, by omega, e9⟩
        rw [ee]
        have := or01 1 (by decide) b hb
        rw [if_neg (by omega)] at this
        exact this
    by_cases hz : f j = 0
    · rw [if_pos hz]
      exact go 1 (by decide) (fun h => by omega) (fun _ => by rw [hz]; exact DG_0)
    · rw [if_neg hz]
      refine go 0 (by decide) (fun _ => ?_) (fun h => by omega)
      rcases DG_z (f j) with ⟨a, _⟩ | ⟨_, b⟩
      · exact absurd (Int64.toInt_inj.mp a) hz
      · exact b
theorem cL_DG {x y : Int64} (h0 : 0 ≤ DG x) (h1 : 0 ≤ DG y) (h : DG x + DG y ≤ 61) (hy : DG y ≤ 39) : DG (cL x y) = DG x + DG y := by
  obtain ⟨r, _, h2, h3⟩ := fx_X9_productOf x y h hy
  rw [← h3]; omega
theorem PD_DG {f : Nat → Int64} {m : Nat} (hf : FA f) (hn : ∀ j, j < m → 0 ≤ DG (f j)) (hs : SD f m ≤ 39) : ∀ k, k ≤ m → DG (PDn f k) = SD f k := by
  intro k
  induction k with
  | zero => intro _; exact DG_1
  | succ k ih =>
    intro hk
    have i := ih (by omega)
    have mo : SD f k + DG (f k) ≤ SD f m := SD_mono hn (k + 1) (m - (k + 1)) (by omega)
    have mo0 : 0 ≤ SD f k := SD_mono (m := k) (fun i hi => hn i (by omega)) 0 k (by omega)
    have h1 := hn k (by omega)
    have h2 := hf k
    rw [PDn, SD, cL_DG (by omega) h1 (by omega) h2, i]
theorem pd_4 {Q : Int32 × Int32 × Int32 × Int32 × (Nat → Int64) → Prop} (K : Int64 → Option (Int32 × Int32 × Int32 × Int32 × (Nat → Int64))) (m : Int32) (f : Nat → Int64) (e : Int32) (v : Int64) (hf : FA f) (h0 : 0 ≤ m.toInt) (h12 : m.toInt ≤ 12) (he : (e.toInt = 0 ∧ v = 1 ∧ SD f m.toInt.toNat ≤ 39 ∧ ∀ j, j < m.toInt.toNat → 0 ≤ DG (f j)) ∨ (e.toInt = 1 ∧ v = 0)) (hK : ∀ w, DG w ≤ 39 ∧ (e.toInt = 0 → w = PDn f m.toInt.toNat) ∧ (e.toInt = 1 → w = 0) → ok (K w) Q) : ok (LQ2 (S_X9_product_105 e m f K) 20000 v (0 : Int32)) Q := by
  obtain ⟨M, hM, rfl⟩ := i_of (n := 12) h0 h12
  have e9 : (nI M).toInt.toNat = M := by rw [nI_toInt (by omega)]; rfl
  rw [e9] at hK he
  rcases he with ⟨he, rfl, hs, hn⟩ | ⟨he, rfl⟩
  · have he0 : e = 0 := Int32.toInt_inj.mp (by rw [he]; rfl)
    subst he0
    have hd := PD_DG hf hn hs
    refine ok_L2 (fun w k => ∃ j, j ≤ M ∧ k = nI j ∧ w = PDn f j) (fun _ k => (20 - k.toInt).toNat) (fun ih w k hI hih => ?_) 20000 _ _ ⟨0, by omega, rfl, rfl⟩ (by decide)
    obtain ⟨j, hj, rfl, rfl⟩ := hI
    have hdj := hd j hj
    have mo := SD_mono hn j (M - j) (by omega)
    unfold S_X9_product_105
    by_cases hm : M ≤ j
    · rw [if_pos (nI_le hm (by omega))]
      have : j = M := by omega
      subst this
      exact hK _ ⟨by omega, fun _ => rfl, fun h => by omega⟩
    · rw [if_neg (nI_ge (by omega) (by omega)), if_pos rfl]
      refine ok_c (by first | exact ix_12 (by omega) | exact ix_12b (by omega)) ?_
      rw [cl_i (by omega)]
      have h2 := hf j
      have mo2 : SD f j + DG (f j) ≤ SD f M := SD_mono hn (j + 1) (M - (j + 1)) (by omega)
      refine ok_o (fx_X9_productOf _ _ (by omega) h2) (fun r hr => ok_bx (fun k2 ek => ?_))
      have ek : k2 = nI (j + 1) := by first | exact ek | rw [ek, nI_p1']
      subst ek
      exact hih r _ ⟨j + 1, by omega, rfl, hr.2⟩ (by rw [nI_toInt (by omega), nI_toInt (by omega)]; omega)
  · have he0 : e = 1 := Int32.toInt_inj.mp (by rw [he]; rfl)
    subst he0
    have k0 := hK 0 ⟨by rw [DG_0]; decide, fun h => by omega, fun _ => rfl⟩
    show ok (S_X9_product_105 1 (nI M) f K _ _ _) Q
    unfold S_X9_product_105
    refine ok_i (fun _ => k0) (fun _ => ?_)
    rw [if_neg (by decide)]
    exact k0
