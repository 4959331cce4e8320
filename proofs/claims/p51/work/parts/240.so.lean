/-! S3. put in a row: one and the same row by moving and by counting -/
noncomputable def kk (z : Int32) (x : Int64) : Int := if z = 0 then x.toInt else - x.toInt
theorem kk_inj {z : Int32} {x y : Int64} (h : kk z x = kk z y) : x = y := by
  unfold kk at h
  by_cases hz : z = 0
  · rw [if_pos hz, if_pos hz] at h; exact Int64.toInt_inj.mp h
  · rw [if_neg hz, if_neg hz] at h; exact Int64.toInt_inj.mp (by omega)
noncomputable def cc (p : Int64 → Bool) (f : Nat → Int64) : Nat → Nat
  | 0 => 0
  | m + 1 => cc p f m + (if p (f m) = true then 1 else 0)
theorem cc_congr {p : Int64 → Bool} {f g : Nat → Int64} : ∀ m, (∀ i, i < m → f i = g i) → cc p f m = cc p g m := by
  intro m
  induction m with
  | zero => intro _; rfl
  | succ m ih => intro h; rw [cc, cc, ih (fun i hi => h i (by omega)), h m (by omega)]
theorem cc_mono {p : Int64 → Bool} {f : Nat → Int64} {a : Nat} : ∀ b, a ≤ b → cc p f a ≤ cc p f b := by
  intro b
  induction b with
  | zero => intro h; rw [show a = 0 by omega]; exact Nat.le_refl _
  | succ b ih =>
    intro h
    rcases Nat.lt_or_ge a (b + 1) with h2 | h2
    · have := ih (by omega)
      rw [cc]
      omega
    · rw [show a = b + 1 by omega]; exact Nat.le_refl _
theorem cc_le (p : Int64 → Bool) (f : Nat → Int64) : ∀ m, cc p f m ≤ m := by
  intro m
  induction m with
  | zero => exact Nat.le_refl _
  | succ m ih => rw [cc]; split <;> omega
theorem cc_none {p : Int64 → Bool} {f : Nat → Int64} {a : Nat} : ∀ m, a ≤ m → (∀ j, a ≤ j → j < m → p (f j) = false) → cc p f m = cc p f a := by
  intro m
  induction m with
  | zero => intro h _; rw [show a = 0 by omega]
  | succ m ih =>
    intro h hj
    rcases Nat.lt_or_ge a (m + 1) with h2 | h2
    · rw [cc, ih (by omega) (fun j h3 h4 => hj j h3 (by omega)), hj m (by omega) (by omega)]
      rfl
    · rw [show a = m + 1 by omega]
theorem cc_all {p : Int64 → Bool} {f : Nat → Int64} : ∀ m, (∀ j, j < m → p (f j) = true) → cc p f m = m := by
  intro m
  induction m with
  | zero => intro _; rfl
  | succ m ih => intro h; rw [cc, ih (fun j hj => h j (by omega)), if_pos (h m (by omega))]
theorem cc_occ {p : Int64 → Bool} {f : Nat → Int64} : ∀ m e, e < cc p f m → ∃ k, k < m ∧ p (f k) = true ∧ cc p f k = e := by
  intro m
  induction m with
  | zero => intro e h; exact absurd h (Nat.not_lt_zero _)
  | succ m ih =>
    intro e h
    rcases Nat.lt_or_ge e (cc p f m) with h2 | h2
    · obtain ⟨k, h3, h4, h5⟩ := ih e h2
      exact ⟨k, by omega, h4, h5⟩
    · rw [cc] at h
      by_cases hp : p (f m) = true
      · rw [if_pos hp] at h
        exact ⟨m, by omega, hp, by omega⟩
      · rw [if_neg hp] at h
        omega
noncomputable def sw (g : Nat → Int64) (a : Nat) : Nat → Int64 := vp_updL (vp_updL g (a + 1) (g a)) a (g (a + 1))
theorem sw_a (g : Nat → Int64) (a : Nat) : sw g a a = g (a + 1) := uu_a _ _ _
theorem sw_b (g : Nat → Int64) (a : Nat) : sw g a (a + 1) = g a := (uu_n (by omega)).trans (uu_a _ _ _)
theorem sw_n (g : Nat → Int64) {a i : Nat} (h1 : i ≠ a) (h2 : i ≠ a + 1) : sw g a i = g i := (uu_n h1).trans (uu_n h2)
theorem cc_swap (p : Int64 → Bool) (g : Nat → Int64) (a : Nat) : ∀ m, a + 2 ≤ m → cc p (sw g a) m = cc p g m := by
  intro m
  induction m with
  | zero => intro h; omega
  | succ m ih =>
    intro h
    rcases Nat.lt_or_ge (a + 1) m with h2 | h2
    · rw [cc, cc, ih (by omega), sw_n g (by omega) (by omega)]
    · have : m = a + 1 := by omega
      subst this
      rw [cc, cc, cc, cc, sw_a, sw_b, cc_congr (g := g) a (fun i hi => sw_n g (by omega) (by omega))]
      omega
noncomputable def ltp (z : Int32) (v : Int64) (y : Int64) : Bool := decide (kk z y < kk z v)
noncomputable def lep (z : Int32) (v : Int64) (y : Int64) : Bool := decide (kk z y ≤ kk z v)
noncomputable def eqp (v : Int64) (y : Int64) : Bool := decide (y = v)
theorem cc_lep (z : Int32) (v : Int64) (f : Nat → Int64) : ∀ m, cc (lep z v) f m = cc (ltp z v) f m + cc (eqp v) f m := by
  intro m
  induction m with
  | zero => rfl
  | succ m ih =>
    rw [cc, cc, cc, ih]
    by_cases h1 : kk z (f m) < kk z v
    · have h2 : f m ≠ v := fun e => by rw [e] at h1; omega
      rw [if_pos (show lep z v (f m) = true from decide_eq_true (by omega)), if_pos (show ltp z v (f m) = true from decide_eq_true h1), if_neg (show ¬ eqp v (f m) = true from fun h => h2 (of_decide_eq_true h))]
      omega
    · by_cases h2 : f m = v
      · rw [if_pos (show lep z v (f m) = true from decide_eq_true (by rw [h2]; omega)), if_neg (show ¬ ltp z v (f m) = true from fun h => h1 (of_decide_eq_true h)), if_pos (show eqp v (f m) = true from decide_eq_true h2)]
        omega
      · have h3 : kk z (f m) ≠ kk z v := fun e => h2 (kk_inj e)
        rw [if_neg (show ¬ lep z v (f m) = true from fun h => by have : kk z (f m) ≤ kk z v := of_decide_eq_true h; omega), if_neg (show ¬ ltp z v (f m) = true from fun h => h1 (of_decide_eq_true h)), if_neg (show ¬ eqp v (f m) = true from fun h => h2 (of_decide_eq_true h))]
        omega
/-- how many stand ahead of the k-th one -/
noncomputable def rkS (z : Int32) (f : Nat → Int64) (k : Nat) : Nat → Nat
  | 0 => 0
  | j + 1 => rkS z f k j + (if kk z (f j) < kk z (f k) ∨ (f j = f k ∧ j < k) then 1 else 0)
theorem rk_is (z : Int32) (f : Nat → Int64) (k : Nat) : ∀ j, rkS z f k j = cc (ltp z (f k)) f j + cc (eqp (f k)) f (min j k) := by
  intro j
  induction j with
  | zero => rw [Nat.zero_min]; rfl
  | succ j ih =>
    rw [rkS, ih, cc]
    by_cases h1 : kk z (f j) < kk z (f k)
    · have h2 : f j ≠ f k := fun e => by rw [e] at h1; omega
      rw [if_pos (Or.inl h1), if_pos (show ltp z (f k) (f j) = true from decide_eq_true h1)]
      by_cases hj : j < k
      · rw [Nat.min_eq_left (by omega), Nat.min_eq_left (by omega), cc, if_neg (show ¬ eqp (f k) (f j) = true from fun h => h2 (of_decide_eq_true h))]
        omega
      · rw [Nat.min_eq_right (by omega), Nat.min_eq_right (by omega)]
        omega
    · rw [if_neg (show ¬ ltp z (f k) (f j) = true from fun h => h1 (of_decide_eq_true h))]
      by_cases hj : j < k
      · rw [Nat.min_eq_left (by omega), Nat.min_eq_left (by omega), cc]
        by_cases h2 : f j = f k
        · rw [if_pos (Or.inr ⟨h2, hj⟩), if_pos (show eqp (f k) (f j) = true from decide_eq_true h2)]
          omega
        · rw [if_neg (fun h => h.elim h1 (fun h => h2 h.1)), if_neg (show ¬ eqp (f k) (f j) = true from fun h => h2 (of_decide_eq_true h))]
          omega
      · rw [if_neg (fun h => h.elim h1 (fun h => hj h.2)), Nat.min_eq_right (by omega), Nat.min_eq_right (by omega)]
        omega
theorem rk_lt (z : Int32) (f : Nat → Int64) {k m : Nat} (h : k < m) : rkS z f k m < m := by
  have e := rk_is z f k m
  rw [Nat.min_eq_right (by omega)] at e
  have h1 := cc_lep z (f k) f m
  have h2 := cc_le (lep z (f k)) f m
  have h3 : cc (eqp (f k)) f (k + 1) = cc (eqp (f k)) f k + 1 := by
    rw [cc, if_pos (show eqp (f k) (f k) = true from decide_eq_true rfl)]
  have h4 := cc_mono (p := eqp (f k)) (f := f) (a := k + 1) m (by omega)
  omega
noncomputable def SO (z : Int32) (g : Nat → Int64) (m : Nat) : Prop := ∀ i j, i < j → j < m → kk z (g i) ≤ kk z (g j)
theorem SO_le {z : Int32} {g : Nat → Int64} {m : Nat} (h : SO z g m) {i j : Nat} (hij : i ≤ j) (hj : j < m) : kk z (g i) ≤ kk z (g j) := by
  rcases Nat.lt_or_ge i j with h1 | h1
  · exact h i j h1 hj
  · rw [show i = j by omega]; exact Int.le_refl _
theorem srt_at {z : Int32} {f g : Nat → Int64} {m k : Nat} (hs : SO z g m) (hc : ∀ p, cc p g m = cc p f m) (hk : k < m) : g (rkS z f k m) = f k := by
  have e := rk_is z f k m
  rw [Nat.min_eq_right (by omega)] at e
  have h1 := cc_lep z (f k) f m
  have h3 : cc (eqp (f k)) f (k + 1) = cc (eqp (f k)) f k + 1 := by
    rw [cc, if_pos (show eqp (f k) (f k) = true from decide_eq_true rfl)]
  have h4 := cc_mono (p := eqp (f k)) (f := f) (a := k + 1) m (by omega)
  have hr := rk_lt z f hk
  have c1 := hc (ltp z (f k))
  have c2 := hc (lep z (f k))
  generalize rkS z f k m = r at *
  have a1 : ¬ kk z (g r) < kk z (f k) := fun h => by
    have h5 := cc_all (p := ltp z (f k)) (f := g) (r + 1) (fun j hj => decide_eq_true (by have := SO_le hs (show j ≤ r by omega) hr; omega))
    have h6 := cc_mono (p := ltp z (f k)) (f := g) (a := r + 1) m (by omega)
    omega
  have a2 : ¬ kk z (f k) < kk z (g r) := fun h => by
    have h5 := cc_none (p := lep z (f k)) (f := g) (a := r) m (by omega) (fun j h7 h8 => decide_eq_false (by have := SO_le hs h7 h8; omega))
    have h6 := cc_le (lep z (f k)) g r
    omega
  exact kk_inj (z := z) (by omega)
theorem srt_hit {z : Int32} {f g : Nat → Int64} {m i : Nat} (hs : SO z g m) (hc : ∀ p, cc p g m = cc p f m) (hi : i < m) : ∃ k, k < m ∧ rkS z f k m = i := by
  have h1 := cc_none (p := ltp z (g i)) (f := g) (a := i) m (by omega) (fun j h7 h8 => decide_eq_false (by have := SO_le hs h7 h8; omega))
  have h2 := cc_le (ltp z (g i)) g i
  have h3 := cc_all (p := lep z (g i)) (f := g) (i + 1) (fun j hj => decide_eq_true (SO_le hs (by omega) hi))
  have h4 := cc_mono (p := lep z (g i)) (f := g) (a := i + 1) m (by omega)
  have h5 := cc_lep z (g i) f m
  have c1 := hc (ltp z (g i))
  have c2 := hc (lep z (g i))
  obtain ⟨k, h6, h7, h8⟩ := cc_occ (p := eqp (g i)) (f := f) m (i - cc (ltp z (g i)) f m) (by omega)
  have h7 : f k = g i := of_decide_eq_true h7
  refine ⟨k, h6, ?_⟩
  rw [rk_is z f k m, Nat.min_eq_right (by omega), h7, h8]
  omega
noncomputable def mdA (z : Int32) (f : Nat → Int64) (m : Nat) : Nat → (Nat → Int64)
  | 0 => fun _ => 0
  | k + 1 => vp_updL (mdA z f m k) (rkS z f k m) (f k)
theorem md_in {z : Int32} {f g : Nat → Int64} {m : Nat} (hs : SO z g m) (hc : ∀ p, cc p g m = cc p f m) : ∀ K, K ≤ m → ∀ i, (∃ k, k < K ∧ rkS z f k m = i) → mdA z f m K i = g i := by
  intro K
  induction K with
  | zero => intro _ i h; obtain ⟨k, h, _⟩ := h; omega
  | succ K ih =>
    intro hK i h
    rw [mdA]
    by_cases hi : i = rkS z f K m
    · rw [hi, uu_a, srt_at hs hc (by omega)]
    · rw [uu_n hi]
      obtain ⟨k, h1, h2⟩ := h
      refine ih (by omega) i ⟨k, ?_, h2⟩
      rcases Nat.lt_or_ge k K with h3 | h3
      · exact h3
      · rw [show k = K by omega] at h2; exact absurd h2.symm hi
noncomputable def SRT (z : Int32) (f : Nat → Int64) (m : Nat) : Nat → Int64 := fun i => if i < m then mdA z f m m i else f i
theorem srt_eq {z : Int32} {f g : Nat → Int64} {m : Nat} (hs : SO z g m) (hc : ∀ p, cc p g m = cc p f m) (hg : ∀ i, m ≤ i → g i = f i) : g = SRT z f m := funext fun i => by
  show g i = if i < m then mdA z f m m i else f i
  by_cases h : i < m
  · rw [if_pos h, md_in hs hc m (Nat.le_refl _) i (srt_hit hs hc h)]
  · rw [if_neg h, hg i (by omega)]
theorem mdA_FA {z : Int32} {f : Nat → Int64} {m : Nat} (hf : FA f) : ∀ k, FA (mdA z f m k) := by
  intro k
  induction k with
  | zero => exact FA_0
  | succ k ih => exact FA_upd ih _ (hf k)
theorem SRT_FA {z : Int32} {f : Nat → Int64} {m : Nat} (hf : FA f) : FA (SRT z f m) := fun i => by
  show DG (if i < m then mdA z f m m i else f i) ≤ 39
  split
  · exact mdA_FA hf m i
  · exact hf i
/-! the reference -/
theorem rk_loop {Q : Int32 × Int32 × Int32 × (Nat → Int64) → Prop} (K : Int32 → Option (Int32 × Int32 × Int32 × (Nat → Int64))) (z : Int32) (M k : Nat) (f : Nat → Int64) (hM : M ≤ 12) (hk : k < M) (hK : ok (K (nI (rkS z f k M))) Q) : ok (LQ2 (S_X9_sort_28 z (nI k) (nI M) f K) 20000 (0 : Int32) (0 : Int32)) Q := by
  refine ok_L2 (fun c y => ∃ j, j ≤ M ∧ y = nI j ∧ c = nI (rkS z f k j)) (fun _ y => (20 - y.toInt).toNat) (fun ih c y hI hih => ?_) 20000 _ _ ⟨0, by omega, rfl, rfl⟩ (by decide)
  obtain ⟨j, hj, rfl, rfl⟩ := hI
  unfold S_X9_sort_28
  by_cases h : M ≤ j
  · rw [if_pos (nI_le h (by omega))]
    have : j = M := by omega
    subst this
    exact hK
  · rw [if_neg (nI_ge (by omega) (by omega))]
    have go : ∀ b, b = (if kk z (f j) < kk z (f k) ∨ (f j = f k ∧ j < k) then 1 else 0) → ok (J_X9_sort_108 ih (nI j) (nI (rkS z f k j)) (nI b)) Q := by
      intro b hb
      unfold J_X9_sort_108
      refine ok_bx (fun c2 ec => ok_bx (fun y2 ey => ?_))
      have ey : y2 = nI (j + 1) := by first | exact ey | rw [ey, nI_p1']
      subst ey
      refine hih _ _ ⟨j + 1, by omega, rfl, ?_⟩ (by rw [nI_toInt (by omega), nI_toInt (by omega)]; omega)
      rw [ec, nI_add, hb, rkS]
    have g1 : (kk z (f j) < kk z (f k) ∨ (f j = f k ∧ j < k)) → ok (J_X9_sort_103 ih (nI j) (nI (rkS z f k j))) Q := fun h9 => go 1 (if_pos h9).symm
    have g0 : ¬ (kk z (f j) < kk z (f k) ∨ (f j = f k ∧ j < k)) → ok (J_X9_sort_107 ih (nI j) (nI (rkS z f k j))) Q := fun h9 => go 0 (if_neg h9).symm
    have h80 : ¬ kk z (f j) < kk z (f k) → ok (J_X9_sort_80 (nI k) f ih (nI j) (nI (rkS z f k j))) Q := by
      intro h1
      unfold J_X9_sort_80
      refine ok_c (by first | exact ix_12 (by omega) | exact ix_12b (by omega)) (ok_c (by first | exact ix_12 (by omega) | exact ix_12b (by omega)) ?_)
      rw [cl_i (by omega), cl_i (by omega)]
      by_cases h2 : f j = f k
      · rw [if_pos h2]
        by_cases h3 : k ≤ j
        · rw [if_pos (nI_le h3 (by omega))]
          exact g0 (fun h9 => h9.elim h1 (fun h9 => by omega))
        · rw [if_neg (nI_ge (by omega) (by omega))]
          exact g1 (Or.inr ⟨h2, by omega⟩)
      · rw [if_neg h2]
        exact g0 (fun h9 => h9.elim h1 (fun h9 => h2 h9.1))
    by_cases hz : z = 0
    · rw [if_pos hz]
      refine ok_c (by first | exact ix_12 (by omega) | exact ix_12b (by omega)) (ok_c (by first | exact ix_12 (by omega) | exact ix_12b (by omega)) ?_)
      rw [cl_i (by omega), cl_i (by omega)]
      have hkk : f j < f k ↔ kk z (f j) < kk z (f k) := by
        unfold kk
        rw [if_pos hz, if_pos hz, Int64.lt_iff_toInt_lt]
      by_cases h1 : f j < f k
      · rw [if_pos h1]; exact g1 (Or.inl (hkk.mp h1))
      · rw [if_neg h1]; exact h80 (fun h9 => h1 (hkk.mpr h9))
    · rw [if_neg hz]
      refine ok_c (by first | exact ix_12 (by omega) | exact ix_12b (by omega)) (ok_c (by first | exact ix_12 (by omega) | exact ix_12b (by omega)) ?_)
      rw [cl_i (by omega), cl_i (by omega)]
      have hkk : f j ≤ f k ↔ ¬ kk z (f j) < kk z (f k) := by
        unfold kk
        rw [if_neg hz, if_neg hz, Int64.le_iff_toInt_le]
        omega
      by_cases h1 : f j ≤ f k
      · rw [if_pos h1]; exact h80 (hkk.mp h1)
      · rw [if_neg h1]
        refine g1 (Or.inl ?_)
        rw [hkk] at h1
        omega
noncomputable def sdA (z : Int32) (f : Nat → Int64) (m j : Nat) : Nat → Int64 := fun i => if i < j then mdA z f m m i else f i
theorem fx_X9_sort (s a : Int32) (f : Nat → Int64) (z : Int32) (hf : FA f) (h0 : 0 ≤ s.toInt) (h2 : s.toInt ≤ 12) : ok (F_X9_sort s a f z) (fun q => q.1 = nI (oc (SRT z f s.toInt.toNat) f s.toInt.toNat) ∧ q.2.1 = a + (1 : Int32) ∧ q.2.2.1 = (0 : Int32) ∧ q.2.2.2 = SRT z f s.toInt.toNat) := by
  obtain ⟨M, hM, rfl⟩ := i_of (n := 12) h0 h2
  have e : (nI M).toInt.toNat = M := by rw [nI_toInt (by omega)]; rfl
  have en : (nI M).toNatClampNeg = M := cl_i (by omega)
  rw [e]
  unfold F_X9_sort
  rw [en]
  refine ok_c ⟨nI_pos (by omega), hM⟩ ?_
  refine ok_L2 (fun y g => ∃ k, k ≤ M ∧ y = nI k ∧ g = mdA z f M k) (fun y _ => (20 - y.toInt).toNat) (fun ih y g hI hih => ?_) 20000 _ _ ⟨0, by omega, rfl, rfl⟩ (by decide)
  obtain ⟨k, hk, rfl, rfl⟩ := hI
  unfold S_X9_sort_14
  by_cases h : M ≤ k
  · rw [if_pos (nI_le h (by omega))]
    have : k = M := by omega
    subst this
    refine ok_L3 (fun c y g => ∃ j, j ≤ k ∧ y = nI j ∧ g = sdA z f k j ∧ c = nI (oc (SRT z f k) f j)) (fun _ y _ => (20 - y.toInt).toNat) (fun ih2 c y g hI2 hih2 => ?_) 20000 _ _ _ ⟨0, by omega, rfl, funext fun i => (if_neg (by omega)).symm, rfl⟩ (by decide)
    obtain ⟨j, hj, rfl, rfl, rfl⟩ := hI2
    unfold S_X9_sort_138
    by_cases h3 : k ≤ j
    · rw [if_pos (nI_le h3 (by omega))]
      have : j = k := by omega
      subst this
      exact ok_s ⟨rfl, rfl, rfl, rfl⟩
    · rw [if_neg (nI_ge (by omega) (by omega))]
      have ixk : ¬ (nI j < 0 ∨ k ≤ (nI j).toNatClampNeg) := ixo (by rw [nI_toInt (by omega)]; omega) (by rw [nI_toInt (by omega)]; omega)
      refine ok_c ixk (ok_c (by first | exact ix_12 (by omega) | exact ix_12b (by omega)) ?_)
      rw [cl_i (by omega)]
      have e1 : sdA z f k j j = f j := if_neg (by omega)
      have e2 : SRT z f k j = mdA z f k k j := if_pos (by omega)
      have go : ∀ b, b = (if SRT z f k j = f j then 0 else 1) → ok (J_X9_sort_168 k (mdA z f k k) ih2 (nI j) (nI (oc (SRT z f k) f j)) (nI b) (sdA z f k j)) (fun q => q.1 = nI (oc (SRT z f k) f k) ∧ q.2.1 = a + (1 : Int32) ∧ q.2.2.1 = (0 : Int32) ∧ q.2.2.2 = SRT z f k) := by
        intro b hb
        unfold J_X9_sort_168
        refine ok_bx (fun c2 ec => ok_c ixk (ok_c (by first | exact ix_12 (by omega) | exact ix_12b (by omega)) (ok_bx (fun g2 eg => ok_bx (fun y2 ey => ?_)))))
        have ey : y2 = nI (j + 1) := by first | exact ey | rw [ey, nI_p1']
        subst ey
        refine hih2 _ _ _ ⟨j + 1, by omega, rfl, ?_, ?_⟩ (by rw [nI_toInt (by omega), nI_toInt (by omega)]; omega)
        · rw [eg, cl_i (by omega)]
          funext i
          show (if i = j then mdA z f k k j else if i < j then mdA z f k k i else f i) = if i < j + 1 then mdA z f k k i else f i
          by_cases hi : i = j
          · subst hi; rw [if_pos rfl, if_pos (by omega)]
          · rw [if_neg hi]
            by_cases h9 : i < j
            · rw [if_pos h9, if_pos (by omega)]
            · rw [if_neg h9, if_neg (by omega)]
        · rw [ec, nI_add, oc, hb]
      rw [e1]
      by_cases he : mdA z f k k j = f j
      · rw [if_pos he]
        exact go 0 (if_pos (e2.trans he)).symm
      · rw [if_neg he]
        exact go 1 (if_neg (fun h9 => he (e2.symm.trans h9))).symm
  · rw [if_neg (nI_ge (by omega) (by omega))]
    have hr := rk_lt z f (k := k) (m := M) (by omega)
    refine rk_loop _ z M k f hM (by omega) ?_
    refine ok_c (by first | exact ix_12 (by omega) | exact ix_12b (by omega)) (ok_c (ixo (by rw [nI_toInt (by omega)]; omega) (by rw [nI_toInt (by omega)]; omega)) (ok_bx (fun g2 eg => ok_bx (fun y2 ey => ?_))))
    have ey : y2 = nI (k + 1) := by first | exact ey | rw [ey, nI_p1']
    subst ey
    refine hih _ _ ⟨k + 1, by omega, rfl, ?_⟩ (by rw [nI_toInt (by omega), nI_toInt (by omega)]; omega)
    rw [eg, cl_i (by omega), cl_i (by omega), mdA]
/-! the class -/
theorem kk_le0 {z : Int32} (hz : z = 0) (x y : Int64) : x ≤ y ↔ kk z x ≤ kk z y := by
  unfold kk
  rw [if_pos hz, if_pos hz, Int64.le_iff_toInt_le]
theorem kk_le1 {z : Int32} (hz : ¬ z = 0) (x y : Int64) : y ≤ x ↔ kk z x ≤ kk z y := by
  unfold kk
  rw [if_neg hz, if_neg hz, Int64.le_iff_toInt_le]
  omega
theorem ar_in {Q : Int32 × (Nat → Int64) × (Nat → Int64) → Prop} (K : Int32 → (Nat → Int64) → Option (Int32 × (Nat → Int64) × (Nat → Int64))) (z : Int32) (x : Int64) (m k : Nat) (hkm : k < m) (hm : m ≤ 12) (h : Nat → Int64) (hx : x = h k) (hs : SO z h k) (hK : ∀ t g, t ≤ k → SO z (vp_updL g t x) (k + 1) → (∀ p, cc p (vp_updL g t x) m = cc p h m) → (∀ i, m ≤ i → g i = h i) → ok (K (nI t) g) Q) : ok (LQ2 (S_X3_arrange_35 z x K) 20000 (nI k) h) Q := by
  refine ok_L2 (fun y g => ∃ t, t ≤ k ∧ y = nI t ∧ (∀ p, cc p (vp_updL g t x) m = cc p h m) ∧ (∀ i, m ≤ i → g i = h i) ∧ (∀ i j, i < j → j ≤ k → i ≠ t → j ≠ t → kk z (g i) ≤ kk z (g j)) ∧ (∀ j, t < j → j ≤ k → kk z x ≤ kk z (g j))) (fun y _ => (y.toInt + 1).toNat) (fun ih y g hI hih => ?_) 20000 _ _ ⟨k, Nat.le_refl _, rfl, fun p => by rw [uu_i hx], fun _ _ => rfl, fun i j h1 h2 h3 h4 => hs i j h1 (by omega), fun j h1 h2 => by omega⟩ (by rw [nI_toInt (by omega)]; omega)
  obtain ⟨t, ht, rfl, c1, c2, c3, c4⟩ := hI
  have fin : (t = 0 ∨ kk z (g (t - 1)) ≤ kk z x) → ok (K (nI t) g) Q := by
    intro h9
    refine hK t g ht (fun i j hij hj => ?_) c1 c2
    show kk z (if i = t then x else g i) ≤ kk z (if j = t then x else g j)
    by_cases hi : i = t
    · rw [if_pos hi, if_neg (by omega)]
      exact c4 j (by omega) (by omega)
    · rw [if_neg hi]
      by_cases hjt : j = t
      · rw [if_pos hjt]
        rcases h9 with h9 | h9
        · omega
        · by_cases hi2 : i = t - 1
          · rw [hi2]; exact h9
          · exact Int.le_trans (c3 i (t - 1) (by omega) (by omega) hi (by omega)) h9
      · rw [if_neg hjt]
        exact c3 i j hij (by omega) hi hjt
  unfold S_X3_arrange_35
  by_cases h0 : t = 0
  · subst h0
    rw [if_pos (show nI 0 ≤ 0 by decide)]
    exact fin (Or.inl rfl)
  · obtain ⟨a, rfl⟩ : ∃ a, t = a + 1 := ⟨t - 1, by omega⟩
    rw [if_neg (show ¬ nI (a + 1) ≤ 0 from nI_ge (b := a + 1) (a := 0) (by omega) (by omega)), nI_s1]
    have mv : ¬ kk z (g a) ≤ kk z x → ok (J_X3_arrange_75 ih (nI (a + 1)) g) Q := by
      intro h9
      unfold J_X3_arrange_75
      rw [nI_s1]
      refine ok_c (by first | exact ix_12 (by omega) | exact ix_12b (by omega)) (ok_c (by first | exact ix_12 (by omega) | exact ix_12b (by omega)) (ok_bx (fun g2 eg => ok_bx (fun y2 ey => ?_))))
      have ey : y2 = nI a := by rw [ey, nI_m1, nI_s1]
      subst ey
      rw [cl_i (by omega), cl_i (by omega)] at eg
      subst eg
      refine hih _ _ ⟨a, by omega, rfl, fun p => ?_, fun i hi => ?_, fun i j h1 h2 h3 h4 => ?_, fun j h1 h2 => ?_⟩ (by rw [nI_toInt (by omega), nI_toInt (by omega)]; omega)
      · have e : vp_updL (vp_updL g (a + 1) (g a)) a x = sw (vp_updL g (a + 1) x) a := by
          unfold sw
          rw [uu_a, uu_s, uu_n (show a ≠ a + 1 by omega)]
        rw [e, cc_swap p _ a m (by omega)]
        exact c1 p
      · rw [uu_n (by omega)]; exact c2 i hi
      · show kk z (if i = a + 1 then g a else g i) ≤ kk z (if j = a + 1 then g a else g j)
        by_cases hi : i = a + 1
        · rw [if_pos hi, if_neg (by omega)]
          exact c3 a j (by omega) h2 (by omega) (by omega)
        · rw [if_neg hi]
          by_cases hj : j = a + 1
          · rw [if_pos hj]
            exact c3 i a (by omega) (by omega) hi (by omega)
          · rw [if_neg hj]
            exact c3 i j h1 h2 hi hj
      · show kk z x ≤ kk z (if j = a + 1 then g a else g j)
        by_cases hj : j = a + 1
        · rw [if_pos hj]; omega
        · rw [if_neg hj]; exact c4 j (by omega) h2
    by_cases hz : z = 0
    · rw [if_pos hz]
      refine ok_c (by first | exact ix_12 (by omega) | exact ix_12b (by omega)) ?_
      rw [cl_i (by omega)]
      by_cases h1 : g a ≤ x
      · rw [if_pos h1]
        exact fin (Or.inr ((kk_le0 hz _ _).mp h1))
      · rw [if_neg h1]
        exact mv (fun h9 => h1 ((kk_le0 hz _ _).mpr h9))
    · rw [if_neg hz]
      refine ok_c (by first | exact ix_12 (by omega) | exact ix_12b (by omega)) ?_
      rw [cl_i (by omega)]
      by_cases h1 : x ≤ g a
      · rw [if_pos h1]
        exact fin (Or.inr ((kk_le1 hz _ _).mp h1))
      · rw [if_neg h1]
        exact mv (fun h9 => h1 ((kk_le1 hz _ _).mpr h9))
theorem fx_X3_arrange (s : Int32) (f b : Nat → Int64) (z : Int32) (h0 : 0 ≤ s.toInt) (h2 : s.toInt ≤ 12) : ok (F_X3_arrange s f b z) (fun r => r.1 = nI (oc (SRT z f s.toInt.toNat) f s.toInt.toNat) ∧ r.2.1 = SRT z f s.toInt.toNat) := by
  obtain ⟨m, hm, rfl⟩ := i_of (n := 12) h0 h2
  have e : (nI m).toInt.toNat = m := by rw [nI_toInt (by omega)]; rfl
  rw [e]
  unfold F_X3_arrange
  refine ok_bx (fun b2 eb => ?_)
  refine ok_L2 (fun y g => ∃ k, 1 ≤ k ∧ (k ≤ m ∨ k = 1) ∧ y = nI k ∧ SO z g k ∧ (∀ p, cc p g m = cc p f m) ∧ (∀ i, m ≤ i → g i = f i)) (fun y _ => (20 - y.toInt).toNat) (fun ih y g hI hih => ?_) 20000 _ _ ⟨1, Nat.le_refl _, Or.inr rfl, rfl, fun i j h1 h3 => by omega, fun _ => rfl, fun _ _ => rfl⟩ (by decide)
  obtain ⟨k, hk1, hk, rfl, hs, hc, hg⟩ := hI
  unfold S_X3_arrange_17
  by_cases h : m ≤ k
  · rw [if_pos (nI_le h (by omega))]
    have es := srt_eq (fun i j h1 h3 => hs i j h1 (by omega)) hc hg
    refine ok_o (fx_X3_howManyOthers (nI m) g b2 h0 h2) (fun r hr => ok_s ⟨?_, es⟩)
    show r = _
    rw [hr, e, es]
    exact congrArg nI (oc_congr m (fun _ _ => rfl) (fun i hi => by rw [eb]; exact cpy_at f b i (by omega)))
  · rw [if_neg (nI_ge (by omega) (by omega))]
    refine ok_c (by first | exact ix_12 (by omega) | exact ix_12b (by omega)) (ok_bx (fun x ex => ?_))
    rw [cl_i (by omega)] at ex
    refine ar_in _ z x m k (by omega) hm g ex hs (fun t g2 ht s2 c2 d2 => ?_)
    unfold J_X3_arrange_97
    refine ok_c (by first | exact ix_12 (by omega) | exact ix_12b (by omega)) (ok_bx (fun g3 eg => ok_bx (fun y2 ey => ?_)))
    have ey : y2 = nI (k + 1) := by first | exact ey | rw [ey, nI_p1']
    subst ey
    rw [cl_i (by omega)] at eg
    subst eg
    refine hih _ _ ⟨k + 1, by omega, Or.inl (by omega), rfl, s2, fun p => (c2 p).trans (hc p), fun i hi => ?_⟩ (by rw [nI_toInt (by omega), nI_toInt (by omega)]; omega)
    rw [uu_n (by omega), d2 i hi, hg i hi]
