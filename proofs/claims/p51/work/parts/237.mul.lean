/-! the multipliers' rows, in both -/
noncomputable def mz : Nat → (Nat → Int64) → (Nat → Int64) → (Nat → Int64)
  | 0, f, _ => f
  | n + 1, f, g => if g 0 = 0 then f else mz n g (fun i => f i ^^^ cL (qL (f 0) (g 0)) (g i))
theorem mz_congr : ∀ n (f g f' g' : Nat → Int64), (∀ i, i < 3 → f i = f' i) → (∀ i, i < 3 → g i = g' i) → ∀ i, i < 3 → mz n f g i = mz n f' g' i := by
  intro n
  induction n with
  | zero => intro f g f' g' hf _ i hi; exact hf i hi
  | succ n ih =>
    intro f g f' g' hf hg i hi
    rw [mz, mz, ← hg 0 (by decide)]
    by_cases h : g 0 = 0
    · rw [if_pos h, if_pos h]; exact hf i hi
    · rw [if_neg h, if_neg h]
      exact ih _ _ _ _ hg (fun j hj => by rw [hf j hj, hf 0 (by decide), hg 0 (by decide), hg j hj]) i hi
theorem mi_step2 {f g : Nat → Int64} (h : MI f g) (hg : 0 ≤ DG (g 0)) : F_X9_quotientOf (f 0) (g 0) = some (qL (f 0) (g 0)) ∧ (∀ i, i < 3 → F_X9_productOf (qL (f 0) (g 0)) (g i) = some (cL (qL (f 0) (g 0)) (g i))) ∧ DG (f 0 ^^^ cL (qL (f 0) (g 0)) (g 0)) < DG (g 0) ∧ ∀ f' g' : Nat → Int64, (∀ i, i < 3 → f' i = g i) → (∀ i, i < 3 → g' i = f i ^^^ cL (qL (f 0) (g 0)) (g i)) → MI f' g' := by
  obtain ⟨q, r0, r1, r2, e1, e2, e3, e4, e5, e6⟩ := mi_step h hg
  obtain ⟨h1, h2, h3⟩ := h
  obtain ⟨q', a1, a2, a3⟩ := fx_X9_quotientOf (f 0) (g 0) hg (by omega) (by omega)
  have hq : q = qL (f 0) (g 0) := by rw [e1] at a1; rw [Option.some.inj a1, a3]
  have g1 := h3 1 (Or.inl rfl)
  have g2 := h3 2 (Or.inr rfl)
  have n0 := DG_ge (f 0)
  have prod : ∀ y r, DG y ≤ 39 → F_X9_productOf q y = some r → r = cL q y := by
    intro y r hy e
    obtain ⟨b, hb, hb2, rfl, _⟩ := DG_fo (x := y) (k := 40) (by omega)
    obtain ⟨a, ha, rfl, _⟩ := DG_of q
    rw [x9_prodc hb] at e
    rw [cL, tn_lN ha, tn_lN hb2]
    exact (Option.some.inj e).symm
  have p0 := prod _ _ h2 e2
  have p1 := prod _ _ g1.2.1 e3
  have p2 := prod _ _ g2.2.1 e4
  subst hq
  subst p0 p1 p2
  refine ⟨e1, fun i hi => ?_, e5, fun f' g' hf hg => e6 f' g' (hf 0 (by decide)) (hf 1 (by decide)) (hf 2 (by decide)) (hg 0 (by decide)) (hg 1 (by decide)) (hg 2 (by decide))⟩
  match i, hi with
  | 0, _ => exact e2
  | 1, _ => exact e3
  | 2, _ => exact e4
theorem x9_mz {Q : Int32 × Int32 × Int32 × (Nat → Int64) → Prop} (K : (Nat → Int64) → (Nat → Int64) → Option (Int32 × Int32 × Int32 × (Nat → Int64))) : ∀ (N : Nat) (f g : Nat → Int64) (n : Nat), MI f g → DG (g 0) < (N : Int) → N < n → (∀ h g', MI h g' → (∀ i, i < 3 → h i = mz N f g i) → ok (K h g') Q) → ok (LQ2 (S_X9_multipliers_98 K) n f g) Q := by
  intro N
  induction N with
  | zero =>
    intro f g n hI hd hn hK
    obtain ⟨n, rfl⟩ : ∃ m, n = m + 1 := ⟨n - 1, by omega⟩
    show ok (S_X9_multipliers_98 K _ f g) Q
    unfold S_X9_multipliers_98
    have z0 : (0 : Int32).toNatClampNeg = 0 := rfl
    have hg : g 0 = 0 := tn_0 (by have := DG_ge (g 0); omega)
    rw [z0, if_pos hg]
    exact hK f g hI (fun i _ => rfl)
  | succ N ih =>
    intro f g n hI hd hn hK
    obtain ⟨n, rfl⟩ : ∃ m, n = m + 1 := ⟨n - 1, by omega⟩
    show ok (S_X9_multipliers_98 K (LQ2 (S_X9_multipliers_98 K) n) f g) Q
    unfold S_X9_multipliers_98
    have z0 : (0 : Int32).toNatClampNeg = 0 := rfl
    rw [z0]
    by_cases hz : g 0 = 0
    · rw [if_pos hz]
      refine hK f g hI (fun i _ => ?_)
      rw [mz, if_pos hz]
    · rw [if_neg hz]
      have hg : 0 ≤ DG (g 0) := by
        rcases DG_z (g 0) with ⟨a, _⟩ | ⟨_, b⟩
        · exact absurd (Int64.toInt_inj.mp a) hz
        · exact b
      obtain ⟨e1, e2, e3, e4⟩ := mi_step2 hI hg
      obtain ⟨f', g', i0, i1, i2, j0, j1, j2, e⟩ := mi_inner (q := qL (f 0) (g 0)) (fun a b => LQ2 (S_X9_multipliers_98 K) n a b) (e2 0 (by decide)) (e2 1 (by decide)) (e2 2 (by decide))
      have hf' : ∀ i, i < 3 → f' i = g i := fun i hi => by
        match i, hi with
        | 0, _ => exact i0
        | 1, _ => exact i1
        | 2, _ => exact i2
      have hg' : ∀ i, i < 3 → g' i = f i ^^^ cL (qL (f 0) (g 0)) (g i) := fun i hi => by
        match i, hi with
        | 0, _ => exact j0
        | 1, _ => exact j1
        | 2, _ => exact j2
      rw [e1, obn_s]
      refine Eq.mpr (congrArg (fun o => ok o Q) e) ?_
      refine ih f' g' n (e4 f' g' hf' hg') (by rw [j0]; omega) (by omega) (fun h g2 hM hh => hK h g2 hM (fun i hi => ?_))
      rw [hh i hi, mz, if_neg hz]
      exact mz_congr N f' g' g _ hf' hg' i hi
theorem x4_go {a b c d e f q : Int64} (h1 : DG d ≤ 60) (h2 : DG e ≤ 60) (h3 : DG f ≤ 60) : F_X4_goOn a b c d e f q = some (d, e, f, a ^^^ cL q d, b ^^^ cL q e, c ^^^ cL q f) := by
  unfold F_X4_goOn
  rw [ok_v (fx_X0_multiplied q d h1), obn_s]
  simp only [bnd]
  rw [ok_v (fx_X0_multiplied q e h2), obn_s, ok_v (fx_X0_multiplied q f h3), obn_s]
theorem x4_mz {Q : Int64 × Int64 × Int64 × Int64 × Int64 × Int64 → Prop} (K : Int64 → Int64 → Int64 → Int64 → Int64 → Int64 → Option (Int64 × Int64 × Int64 × Int64 × Int64 × Int64)) : ∀ (N : Nat) (f g : Nat → Int64) (k n : Nat), MI f g → DG (g 0) < (N : Int) → k + N ≤ 900 → N < n → (∀ s t u, ok (K (mz N f g 0) (mz N f g 1) (mz N f g 2) s t u) Q) → ok (LQ7 (S_X4_workOut_33 K) n (nI k) (f 0) (f 1) (f 2) (g 0) (g 1) (g 2)) Q := by
  intro N
  induction N with
  | zero =>
    intro f g k n hI hd hk hn hK
    obtain ⟨n, rfl⟩ : ∃ m, n = m + 1 := ⟨n - 1, by omega⟩
    show ok (S_X4_workOut_33 K _ _ _ _ _ _ _ _) Q
    unfold S_X4_workOut_33
    have hg : g 0 = 0 := tn_0 (by have := DG_ge (g 0); omega)
    rw [if_neg (show ¬ (1000 : Int32) ≤ nI k from nI_ge (b := 1000) (by omega) (by omega)), if_pos hg]
    exact hK _ _ _
  | succ N ih =>
    intro f g k n hI hd hk hn hK
    obtain ⟨n, rfl⟩ : ∃ m, n = m + 1 := ⟨n - 1, by omega⟩
    show ok (S_X4_workOut_33 K (LQ7 (S_X4_workOut_33 K) n) _ _ _ _ _ _ _) Q
    unfold S_X4_workOut_33
    rw [if_neg (show ¬ (1000 : Int32) ≤ nI k from nI_ge (b := 1000) (by omega) (by omega))]
    by_cases hz : g 0 = 0
    · rw [if_pos hz]
      rw [mz, if_pos hz] at hK
      exact hK _ _ _
    · rw [if_neg hz]
      have hg : 0 ≤ DG (g 0) := by
        rcases DG_z (g 0) with ⟨a, _⟩ | ⟨_, b⟩
        · exact absurd (Int64.toInt_inj.mp a) hz
        · exact b
      obtain ⟨e1, e2, e3, e4⟩ := mi_step2 hI hg
      obtain ⟨b1, b2, b3⟩ := hI
      have g1 := (b3 1 (Or.inl rfl)).2.1
      have g2 := (b3 2 (Or.inr rfl)).2.1
      rw [mz, if_neg hz] at hK
      rw [ok_v (fx_X0_quotient (f 0) (g 0) hg (by omega) (by omega)), obn_s, x4_go (by omega) (by omega) (by omega)]
      have i2 := ih g (fun i => f i ^^^ cL (qL (f 0) (g 0)) (g i)) (k + 1) n (e4 _ _ (fun _ _ => rfl) (fun _ _ => rfl)) (show DG (f 0 ^^^ cL (qL (f 0) (g 0)) (g 0)) < (N : Int) by omega) (by omega) (by omega) hK
      rw [nI_succ] at i2
      exact i2
/-- the first row at the end: the greatest of both and the multipliers -/
noncomputable def ma (a : Int64) (i : Nat) : Int64 := if i = 0 then a else if i = 1 then 1 else 0
noncomputable def mb (b : Int64) (i : Nat) : Int64 := if i = 0 then b else if i = 1 then 0 else 1
noncomputable def MZ (a b : Int64) (i : Nat) : Int64 := mz 64 (ma a) (mb b) i
theorem ma_mi {a b : Int64} (ha : DG a ≤ 39) (hb : DG b ≤ 39) : MI (ma a) (mb b) := by
  have g0 := DG_0
  have g1 := DG_1
  refine ⟨ha, hb, fun i hi => ?_⟩
  rcases hi with rfl | rfl
  · show DG (1 : Int64) ≤ 39 ∧ DG (0 : Int64) ≤ 39 ∧ DG (1 : Int64) + DG b ≤ 39 ∧ DG (0 : Int64) + DG a ≤ 39
    omega
  · show DG (0 : Int64) ≤ 39 ∧ DG (1 : Int64) ≤ 39 ∧ DG (0 : Int64) + DG b ≤ 39 ∧ DG (1 : Int64) + DG a ≤ 39
    omega
theorem fx_X4_workOut (p0 p1 : Int64) (h1 : DG p0 ≤ 39) (h2 : DG p1 ≤ 39) : ok (F_X4_workOut p0 p1) (fun r => r.1 = MZ p0 p1 0 ∧ r.2.1 = MZ p0 p1 1 ∧ r.2.2.1 = MZ p0 p1 2) := by
  unfold F_X4_workOut
  exact x4_mz _ 64 (ma p0) (mb p1) 0 20000 (ma_mi h1 h2) (show DG p1 < ((64 : Nat) : Int) by omega) (by decide) (by decide) (fun s t u => ok_s ⟨rfl, rfl, rfl⟩)
theorem mu_loop {Q : Int32 × Int32 × Int32 × (Nat → Int64) → Prop} (K : (Nat → Int64) → (Nat → Int64) → Option (Int32 × Int32 × Int32 × (Nat → Int64))) (a b : Int64) (f g : Nat → Int64) (hf : ∀ i, i < 3 → f i = ma a i) (hg : ∀ i, i < 3 → g i = mb b i) (h1 : DG a ≤ 39) (h2 : DG b ≤ 39) (hK : ∀ h g', MI h g' → h (0 : Int32).toNatClampNeg = MZ a b 0 ∧ h (1 : Int32).toNatClampNeg = MZ a b 1 ∧ h (2 : Int32).toNatClampNeg = MZ a b 2 → ok (K h g') Q) : ok (LQ2 (S_X9_multipliers_98 K) 20000 f g) Q := by
  have hM : MI f g := by
    obtain ⟨a1, a2, a3⟩ := ma_mi h1 h2
    refine ⟨by rw [hf 0 (by decide)]; exact a1, by rw [hg 0 (by decide)]; exact a2, fun i hi => ?_⟩
    rw [hf i (by omega), hg i (by omega), hf 0 (by decide), hg 0 (by decide)]
    exact a3 i hi
  have hd : DG (g 0) < ((64 : Nat) : Int) := by
    rw [hg 0 (by decide)]
    show DG b < ((64 : Nat) : Int)
    omega
  refine x9_mz K 64 f g 20000 hM hd (by decide) (fun h g' hI hh => hK h g' hI ?_)
  have e : ∀ i, i < 3 → h i = MZ a b i := fun i hi => by
    rw [hh i hi]
    exact mz_congr 64 f g (ma a) (mb b) hf hg i hi
  exact ⟨e 0 (by decide), e 1 (by decide), e 2 (by decide)⟩
theorem mu_init {z z' : Nat → Int64} {a b : Int64} : (∀ i, i < 3 → vp_updL (vp_updL (vp_updL z (0 : Int32).toNatClampNeg a) (1 : Int32).toNatClampNeg (1 : Int64)) (2 : Int32).toNatClampNeg (0 : Int64) i = ma a i) ∧ (∀ i, i < 3 → vp_updL (vp_updL (vp_updL z' (0 : Int32).toNatClampNeg b) (1 : Int32).toNatClampNeg (0 : Int64)) (2 : Int32).toNatClampNeg (1 : Int64) i = mb b i) := by
  refine ⟨fun i hi => ?_, fun i hi => ?_⟩
  · match i, hi with
    | 0, _ => rfl
    | 1, _ => rfl
    | 2, _ => rfl
  · match i, hi with
    | 0, _ => rfl
    | 1, _ => rfl
    | 2, _ => rfl
