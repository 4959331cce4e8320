/-! the digest -/
theorem ok_of {α : Type} {o p : Option α} {Q : α → Prop} (e : o = p) (h : ok p Q) : ok o Q := e ▸ h
theorem ix_12b' {k : Nat} (h : k < 12) : ¬ (nI k < 0 ∨ 12 ≤ k) := ix_12b h
noncomputable def mx (d v : Int64) : Int64 := d * (31 : Int64) + v
theorem mx_7 (d v : Int64) : F_X7_mixed d v = some (mx d v) := rfl
theorem mx_9 (d v : Int64) : F_X9_add_ d v = some (mx d v) := rfl
noncomputable def bf (n : Nat) : Nat → Int64 → Int64
  | 0, d => d
  | k + 1, d => bf n k (if n.testBit k = true then mx d (nI k).toInt64 else d)
theorem bf_up {n k : Nat} (hk : bl n ≤ k) : ∀ j d, bf n (k + j) d = bf n k d := by
  intro j
  induction j with
  | zero => intro d; rfl
  | succ j ih =>
    intro d
    have h : n.testBit (k + j) = false := Nat.testBit_lt_two_pow (Nat.lt_of_lt_of_le (lt_bl n) (Nat.pow_le_pow_right (by decide) (by omega)))
    show bf n (k + j) (if n.testBit (k + j) = true then mx d (nI (k + j)).toInt64 else d) = bf n k d
    rw [h, if_neg (by decide), ih]
theorem dg7_l {a : Nat} (hb : a < 2 ^ 62) (K : Int64 → Option Int64) : ∀ k d n, k ≤ 62 → k < n → LQ2 (S_X7_digestOfForm_25 (lN a) K) n d (nI k - 1) = K (bf a k d) := by
  intro k
  induction k with
  | zero =>
    intro d n hk hn
    obtain ⟨n, rfl⟩ : ∃ m, n = m + 1 := ⟨n - 1, by omega⟩
    show S_X7_digestOfForm_25 _ K _ _ _ = _
    unfold S_X7_digestOfForm_25
    rw [if_pos neg_m1, bf]
  | succ k ih =>
    intro d n hk hn
    obtain ⟨n, rfl⟩ : ∃ m, n = m + 1 := ⟨n - 1, by omega⟩
    show S_X7_digestOfForm_25 _ K (LQ2 (S_X7_digestOfForm_25 (lN a) K) n) _ _ = _
    unfold S_X7_digestOfForm_25
    rw [nI_pred, if_neg (nI_pos (by omega)), x0_one hb (by omega), obn_s, bf]
    by_cases h : a.testBit k = true
    · have i2 := ih (mx d (nI k).toInt64) n (by omega) (by omega)
      rw [if_pos h, if_pos h, if_neg one_1, mx_7, obn_s, bnd_s]
      rw [← nI_m1] at i2
      exact i2
    · have i2 := ih d n (by omega) (by omega)
      rw [if_neg h, if_neg h, if_pos one_0, bnd_s]
      rw [← nI_m1] at i2
      exact i2
theorem dg9_l {a : Nat} (hb : a < 2 ^ 62) (K : Int64 → Option (Int64 × Int32)) : ∀ k d n, k ≤ 62 → k < n → LQ2 (S_X9_digest_58 (lN a) K) n d (nI k - 1) = K (bf a k d) := by
  intro k
  induction k with
  | zero =>
    intro d n hk hn
    obtain ⟨n, rfl⟩ : ∃ m, n = m + 1 := ⟨n - 1, by omega⟩
    show S_X9_digest_58 _ K _ _ _ = _
    unfold S_X9_digest_58
    rw [if_pos neg_m1, bf]
  | succ k ih =>
    intro d n hk hn
    obtain ⟨n, rfl⟩ : ∃ m, n = m + 1 := ⟨n - 1, by omega⟩
    show S_X9_digest_58 _ K (LQ2 (S_X9_digest_58 (lN a) K) n) _ _ = _
    unfold S_X9_digest_58 J_X9_digest_86
    rw [nI_pred, if_neg (nI_pos (by omega)), bf]
    by_cases h : a.testBit k = true
    · have i2 := ih (mx d (nI k).toInt64) n (by omega) (by omega)
      rw [if_pos ((tb_1 hb (by omega)).mpr h), if_pos h, mx_9, obn_s, bnd_s]
      rw [← nI_m1] at i2
      exact i2
    · have i2 := ih d n (by omega) (by omega)
      rw [if_neg (fun h9 => h ((tb_1 hb (by omega)).mp h9)), if_neg h, bnd_s]
      rw [← nI_m1] at i2
      exact i2
noncomputable def dgF (d x : Int64) : Int64 := bf (tn x) (bl (tn x)) (mx (mx d (DI x).toInt64) (LW x).toInt64)
theorem dg7 (d : Int64) {x : Int64} (h : DG x ≤ 39) : F_X7_digestOfForm d x = some (dgF d x) := by
  obtain ⟨a, ha, ha2, rfl, _⟩ := DG_fo (x := x) (k := 40) (by omega)
  have e := x0_deg (n := a) ha2
  have e2 := (DI_is (lN a)).2
  have ed : DI (lN a) = dgI a := Option.some.inj (by rw [← e2, e])
  have el := ok_v (fx_X0_lowestOf (lN a) h)
  unfold F_X7_digestOfForm
  rw [e2, obn_s, mx_7, obn_s, el, obn_s, mx_7, obn_s, obn_s]
  have hb40 : bl a ≤ 40 := bl_le.mpr ha
  have l := dg7_l (a := a) (by omega) (fun y => some y) (bl a) (mx (mx d (DI (lN a)).toInt64) (LW (lN a)).toInt64) 20000 (by omega) (by omega)
  rw [dgF, tn_lN ha2]
  rw [show nI (bl a) - 1 = DI (lN a) from ed.symm] at l
  exact l
noncomputable def D6 (f : Nat → Int64) : Nat → Int64
  | 0 => 8029
  | j + 1 => dgF (D6 f j) (f j)
noncomputable def R6 (f : Nat → Int64) (d : Int64) : Nat → Int64
  | 0 => d
  | j + 1 => mx (mx (R6 f d j) (DI (f j)).toInt64) (BC (f j)).toInt64
noncomputable def C6 (x : Nat) (d : Int64) : Nat → Int64
  | 0 => d
  | j + 1 => mx (C6 x d j) (if x.testBit j = true then 1 else 0)
noncomputable def H6 (t : Nat → Int32) (d : Int64) : Nat → Int64
  | 0 => d
  | j + 1 => mx (H6 t d j) (t j).toInt64
theorem ce_b : ∀ x, x < 256 → ∀ j, j < 8 → ((nI x >>> (nI j &&& 31)) &&& (1 : Int32)).toInt64 = (if x.testBit j = true then (1 : Int64) else 0) := by decide +kernel
theorem dg9 {Q : Int64 × Int32 → Prop} (K : Int64 → Option (Int64 × Int32)) (fo : Nat → Int64) (hf : FA fo) (hK : ok (K (D6 fo 6)) Q) : ∀ u j n, j + u = 6 → u < n → ok (LQ2 (S_X9_digest_21 (6 : Int32) fo K) n (D6 fo j) (nI j)) Q := by
  intro u
  induction u with
  | zero =>
    intro j n hj hn
    obtain ⟨n, rfl⟩ : ∃ m, n = m + 1 := ⟨n - 1, by omega⟩
    have : j = 6 := by omega
    subst this
    show ok (S_X9_digest_21 _ _ K _ _ _) Q
    unfold S_X9_digest_21
    rw [if_pos (by decide)]
    exact hK
  | succ u ih =>
    intro j n hj hn
    obtain ⟨n, rfl⟩ : ∃ m, n = m + 1 := ⟨n - 1, by omega⟩
    have i2 := ih (j + 1) n (by omega) (by omega)
    show ok (S_X9_digest_21 _ _ K (LQ2 (S_X9_digest_21 (6 : Int32) fo K) n) _ _) Q
    generalize LQ2 (S_X9_digest_21 (6 : Int32) fo K) n = F at i2 ⊢
    unfold S_X9_digest_21
    have hfj := hf j
    obtain ⟨a, ha, ha2, ea, _⟩ := DG_fo (x := fo j) (k := 40) (by omega)
    rw [if_neg (show ¬ (6 : Int32) ≤ nI j from nI_ge (b := 6) (by omega) (by omega))]
    refine ok_c (ix_6 (by omega)) ?_
    rw [bnd_s, cl_i (by omega), (DI_is _).1, obn_s, mx_9, obn_s, ok_v (fx_X9_lowestOf (fo j) hfj), obn_s, mx_9, obn_s]
    have l := dg9_l (a := a) (by omega) (fun y1 => bnd (nI j + 1) (fun x5 => F y1 x5)) 40 (mx (mx (D6 fo j) (DI (fo j)).toInt64) (LW (fo j)).toInt64) 20000 (by omega) (by omega)
    have e40 : nI 40 - 1 = (39 : Int32) := by decide
    have hl : bl a ≤ 40 := bl_le.mpr ha
    rw [show (40 : Nat) = bl a + (40 - bl a) by omega, bf_up (Nat.le_refl _), ← show (40 : Nat) = bl a + (40 - bl a) by omega, e40, ← ea] at l
    rw [l, bnd_s, nI_p1']
    have ed : dgF (D6 fo j) (fo j) = bf a (bl a) (mx (mx (D6 fo j) (DI (fo j)).toInt64) (LW (fo j)).toInt64) := by rw [dgF, ea, tn_lN ha2]
    rw [← ed]
    exact i2
noncomputable abbrev T15 : Type := Nat × Int64 × Int64 × Int64 × Int64 × Int64 × Int64 × Int64 × Int32 × (Nat → Int64) × Int32 × (Nat → Int64) × Int32 × (Nat → Int64) × (Nat → Int64)
theorem df7 (K : Int64 → Option T15) (fo : Nat → Int64) (hf : FA fo) : ∀ u j n, j + u = 6 → u < n → LQ2 (S_X7_digest_6 fo K) n (D6 fo j) (nI j) = K (D6 fo 6) := by
  intro u
  induction u with
  | zero =>
    intro j n hj hn
    obtain ⟨n, rfl⟩ : ∃ m, n = m + 1 := ⟨n - 1, by omega⟩
    have : j = 6 := by omega
    subst this
    show S_X7_digest_6 _ K _ _ _ = _
    unfold S_X7_digest_6
    rw [if_pos (by decide)]
  | succ u ih =>
    intro j n hj hn
    obtain ⟨n, rfl⟩ : ∃ m, n = m + 1 := ⟨n - 1, by omega⟩
    have i2 := ih (j + 1) n (by omega) (by omega)
    show S_X7_digest_6 _ K (LQ2 (S_X7_digest_6 fo K) n) _ _ = _
    generalize LQ2 (S_X7_digest_6 fo K) n = F at i2 ⊢
    unfold S_X7_digest_6 chk
    have hfj := hf j
    rw [if_neg (show ¬ (6 : Int32) ≤ nI j from nI_ge (b := 6) (by omega) (by omega)), if_pos (ix_6 (by omega)), cl_i (by omega), dg7 (D6 fo j) hfj, obn_s, bnd_s, nI_p1']
    exact i2
theorem at_s {s j : Nat} (f : Nat → Int64) (hs : s ≤ 12) (hj : j < s) : F_X3_at (nI s) f (nI j) = some (f j) := by
  have h := ok_v (fx_X3_at (nI s) f (nI j) (by rw [nI_toInt (by omega)]; omega) (by rw [nI_toInt (by omega), nI_toInt (by omega)]; omega) (by rw [nI_toInt (by omega)]; omega))
  rw [cl_i (by omega)] at h
  exact h
theorem dr7 (K : Int64 → Option T15) (f : Nat → Int64) (d : Int64) {s : Nat} (hs : s ≤ 12) : ∀ u j n, j + u = s → u < n → LQ2 (S_X7_digest_44 (nI s) f K) n (R6 f d j) (nI j) = K (R6 f d s) := by
  intro u
  induction u with
  | zero =>
    intro j n hj hn
    obtain ⟨n, rfl⟩ : ∃ m, n = m + 1 := ⟨n - 1, by omega⟩
    have : j = s := by omega
    subst this
    show S_X7_digest_44 _ _ K _ _ _ = _
    unfold S_X7_digest_44
    rw [if_pos (nI_le (Nat.le_refl _) (by omega))]
  | succ u ih =>
    intro j n hj hn
    obtain ⟨n, rfl⟩ : ∃ m, n = m + 1 := ⟨n - 1, by omega⟩
    have i2 := ih (j + 1) n (by omega) (by omega)
    show S_X7_digest_44 _ _ K (LQ2 (S_X7_digest_44 (nI s) f K) n) _ _ = _
    generalize LQ2 (S_X7_digest_44 (nI s) f K) n = F at i2 ⊢
    unfold S_X7_digest_44
    rw [if_neg (nI_ge (by omega) (by omega)), at_s f hs (by omega), obn_s, (DI_is (f j)).2, obn_s, mx_7, obn_s, obn_s, x0_ones, obn_s, mx_7, obn_s, bnd_s, nI_p1']
    exact i2
theorem dr9 (K : Int64 → Option (Int64 × Int32)) (f : Nat → Int64) (d : Int64) {s : Nat} (hs : s ≤ 12) : ∀ u j n, j + u = s → u < n → LQ2 (S_X9_digest_111 (nI s) f K) n (R6 f d j) (nI j) = K (R6 f d s) := by
  intro u
  induction u with
  | zero =>
    intro j n hj hn
    obtain ⟨n, rfl⟩ : ∃ m, n = m + 1 := ⟨n - 1, by omega⟩
    have : j = s := by omega
    subst this
    show S_X9_digest_111 _ _ K _ _ _ = _
    unfold S_X9_digest_111
    rw [if_pos (nI_le (Nat.le_refl _) (by omega))]
  | succ u ih =>
    intro j n hj hn
    obtain ⟨n, rfl⟩ : ∃ m, n = m + 1 := ⟨n - 1, by omega⟩
    have i2 := ih (j + 1) n (by omega) (by omega)
    show S_X9_digest_111 _ _ K (LQ2 (S_X9_digest_111 (nI s) f K) n) _ _ = _
    generalize LQ2 (S_X9_digest_111 (nI s) f K) n = F at i2 ⊢
    unfold S_X9_digest_111 chk
    rw [if_neg (nI_ge (by omega) (by omega)), if_pos (ix_12 (by omega)), cl_i (by omega), (DI_is (f j)).1, obn_s, mx_9, obn_s, if_pos (ix_12b' (by omega)), x9_ones, obn_s, mx_9, obn_s, bnd_s, nI_p1']
    exact i2
theorem dc7 (K : Int64 → Option T15) (d : Int64) {x m : Nat} (hx : x < 256) (hm : m ≤ 8) : ∀ u j n, j + u = m → u < n → LQ2 (S_X7_digest_121 (nI m) (lN x) K) n (C6 x d j) (nI j) = K (C6 x d m) := by
  intro u
  induction u with
  | zero =>
    intro j n hj hn
    obtain ⟨n, rfl⟩ : ∃ m, n = m + 1 := ⟨n - 1, by omega⟩
    have : j = m := by omega
    subst this
    show S_X7_digest_121 _ _ K _ _ _ = _
    unfold S_X7_digest_121
    rw [if_pos (nI_le (Nat.le_refl _) (by omega))]
  | succ u ih =>
    intro j n hj hn
    obtain ⟨n, rfl⟩ : ∃ m, n = m + 1 := ⟨n - 1, by omega⟩
    have i2 := ih (j + 1) n (by omega) (by omega)
    show S_X7_digest_121 _ _ K (LQ2 (S_X7_digest_121 (nI m) (lN x) K) n) _ _ = _
    generalize LQ2 (S_X7_digest_121 (nI m) (lN x) K) n = F at i2 ⊢
    unfold S_X7_digest_121 J_X7_digest_148
    rw [if_neg (nI_ge (by omega) (by omega)), x0_one (by omega) (by omega), obn_s]
    rw [C6] at i2
    by_cases h : x.testBit j = true
    · rw [if_pos h] at i2
      rw [if_pos h, if_neg one_1, mx_7, obn_s, bnd_s, nI_p1']
      exact i2
    · rw [if_neg h] at i2
      rw [if_neg h, if_pos one_0, mx_7, obn_s, bnd_s, nI_p1']
      exact i2
theorem dc9 (K : Int64 → Option (Int64 × Int32)) (d ta : Int64) {x m : Nat} (hx : x < 256) (hm : m ≤ 8) (ht : DI ta = nI m) : ∀ u j n, j + u = m → u < n → LQ2 (S_X9_digest_164 ta (nI x) K) n (C6 x d j) (nI j) = K (C6 x d m) := by
  intro u
  induction u with
  | zero =>
    intro j n hj hn
    obtain ⟨n, rfl⟩ : ∃ m, n = m + 1 := ⟨n - 1, by omega⟩
    have : j = m := by omega
    subst this
    show S_X9_digest_164 _ _ K _ _ _ = _
    unfold S_X9_digest_164
    rw [(DI_is ta).1, obn_s, ht, if_pos (nI_le (Nat.le_refl _) (by omega))]
  | succ u ih =>
    intro j n hj hn
    obtain ⟨n, rfl⟩ : ∃ m, n = m + 1 := ⟨n - 1, by omega⟩
    have i2 := ih (j + 1) n (by omega) (by omega)
    show S_X9_digest_164 _ _ K (LQ2 (S_X9_digest_164 ta (nI x) K) n) _ _ = _
    generalize LQ2 (S_X9_digest_164 ta (nI x) K) n = F at i2 ⊢
    unfold S_X9_digest_164
    rw [(DI_is ta).1, obn_s, ht, if_neg (nI_ge (by omega) (by omega)), ce_b x hx j (by omega), mx_9, obn_s, bnd_s, nI_p1']
    rw [C6] at i2
    exact i2
theorem lt_5 : ∀ j, j < 7 → ((5 : Int32) < nI j ↔ 5 < j) := by decide +kernel
theorem dh7 (ac rf kn : Int32) (fo : Nat → Int64) (sz : Int32) (ta a1 a2 a3 a4 a5 a6 : Int64) (ps : Int32) (ph : Nat → Int64) (fs : Int32) (fh : Nat → Int64) (os : Int32) (oh ob : Nat → Int64) (K : Int64 → Option T15) (d : Int64) : ∀ u j n, j + u = 6 → u < n → LQ2 (S_X7_digest_161 ac rf kn fo sz ta a1 a2 a3 a4 a5 a6 ps ph fs fh os oh ob K) n (H6 (fun j => TOL sz ta ac rf kn fo (nI j)) d j) (nI j) = K (H6 (fun j => TOL sz ta ac rf kn fo (nI j)) d 6) := by
  intro u
  induction u with
  | zero =>
    intro j n hj hn
    obtain ⟨n, rfl⟩ : ∃ m, n = m + 1 := ⟨n - 1, by omega⟩
    have : j = 6 := by omega
    subst this
    show S_X7_digest_161 _ _ _ _ _ _ _ _ _ _ _ _ _ _ _ _ _ _ _ K _ _ _ = _
    unfold S_X7_digest_161
    rw [if_pos ((lt_5 6 (by omega)).mpr (by omega))]
  | succ u ih =>
    intro j n hj hn
    obtain ⟨n, rfl⟩ : ∃ m, n = m + 1 := ⟨n - 1, by omega⟩
    have i2 := ih (j + 1) n (by omega) (by omega)
    show S_X7_digest_161 _ _ _ _ _ _ _ _ _ _ _ _ _ _ _ _ _ _ _ K (LQ2 (S_X7_digest_161 ac rf kn fo sz ta a1 a2 a3 a4 a5 a6 ps ph fs fh os oh ob K) n) _ _ = _
    generalize LQ2 (S_X7_digest_161 ac rf kn fo sz ta a1 a2 a3 a4 a5 a6 ps ph fs fh os oh ob K) n = F at i2 ⊢
    unfold S_X7_digest_161
    have t := nI_toInt (n := j) (by omega)
    obtain ⟨⟨a, b⟩, hr, h⟩ := ho_7 sz ta ac rf kn fo (nI j)
    have h : (a = 0 ∧ 0 ≤ (nI j).toInt ∧ (nI j).toInt ≤ 5 ∧ b = TOL sz ta ac rf kn fo (nI j)) ∨ (a = 2 ∧ ((nI j).toInt < 0 ∨ 5 < (nI j).toInt)) := h
    rcases h with ⟨rfl, _, _, rfl⟩ | ⟨_, h⟩
    · rw [if_neg (fun h9 => by have := (lt_5 j (by omega)).mp h9; omega), hr, obn2_s, if_pos rfl, mx_7, obn_s, bnd_s, nI_p1']
      exact i2
    · omega
theorem dh9 (ac rf kn : Int32) (fo : Nat → Int64) (sz : Int32) (ta : Int64) (K : Int64 → Option (Int64 × Int32)) (d : Int64) : ∀ u j n, j + u = 6 → u < n → LQ2 (S_X9_digest_197 sz ta ac rf kn fo K) n (H6 (fun j => TOL sz ta ac rf kn fo (nI j)) d j) (nI j) = K (H6 (fun j => TOL sz ta ac rf kn fo (nI j)) d 6) := by
  intro u
  induction u with
  | zero =>
    intro j n hj hn
    obtain ⟨n, rfl⟩ : ∃ m, n = m + 1 := ⟨n - 1, by omega⟩
    have : j = 6 := by omega
    subst this
    show S_X9_digest_197 _ _ _ _ _ _ K _ _ _ = _
    unfold S_X9_digest_197
    rw [if_pos ((lt_5 6 (by omega)).mpr (by omega))]
  | succ u ih =>
    intro j n hj hn
    obtain ⟨n, rfl⟩ : ∃ m, n = m + 1 := ⟨n - 1, by omega⟩
    have i2 := ih (j + 1) n (by omega) (by omega)
    show S_X9_digest_197 _ _ _ _ _ _ K (LQ2 (S_X9_digest_197 sz ta ac rf kn fo K) n) _ _ = _
    generalize LQ2 (S_X9_digest_197 sz ta ac rf kn fo K) n = F at i2 ⊢
    unfold S_X9_digest_197
    rw [if_neg (fun h9 => by have := (lt_5 j (by omega)).mp h9; omega), to_9, obn_s, mx_9, obn_s, bnd_s, nI_p1']
    exact i2
noncomputable def DGV (ac rf kn : Int32) (fo : Nat → Int64) (sz : Int32) (ro : Nat → Int64) (ta : Int64) (x m : Nat) : Int64 := mx (H6 (fun j => TOL sz ta ac rf kn fo (nI j)) (C6 x (mx (R6 ro (mx (D6 fo 6) sz.toInt64) sz.toInt.toNat) ta) m) 6) (1 : Int64)
theorem s7_digest (ac rf kn : Int32) (fo : Nat → Int64) (sz : Int32) (ro : Nat → Int64) (ta : Int64) (ce : Int32) (a1 a2 a3 a4 a5 a6 : Int64) (ps : Int32) (ph : Nat → Int64) (fs : Int32) (fh : Nat → Int64) (os : Int32) (oh ob : Nat → Int64) (hp0 : FA fo) (hp1 : 0 ≤ sz.toInt) (hp2 : sz.toInt ≤ 12) (hp3 : CT ta ce) (h1 : 0 ≤ ps.toInt) (h2 : ps.toInt ≤ 12) (h3 : 0 ≤ fs.toInt) (h4 : fs.toInt ≤ 12) (h5 : 0 ≤ os.toInt) (h6 : os.toInt ≤ 12) : ok (F_X7_digest ac rf kn fo sz ro ta (ce.toInt64) a1 a2 a3 a4 a5 a6 ps ph fs fh os oh ob) (fun r => (r.1 = 0 ∧ 0 ≤ r.2.2.2.2.2.2.2.2.1.toInt ∧ r.2.2.2.2.2.2.2.2.1.toInt ≤ 12 ∧ 0 ≤ r.2.2.2.2.2.2.2.2.2.2.1.toInt ∧ r.2.2.2.2.2.2.2.2.2.2.1.toInt ≤ 12 ∧ 0 ≤ r.2.2.2.2.2.2.2.2.2.2.2.2.1.toInt ∧ r.2.2.2.2.2.2.2.2.2.2.2.2.1.toInt ≤ 12) ∧ ok (F_X9_digest sz ta ce ac rf kn fo ro) (fun q => r.2.1 = q.1)) := by
  obtain ⟨r, hr, hz⟩ := sp_X7_digest ac rf kn fo sz ro ta (ce.toInt64) a1 a2 a3 a4 a5 a6 ps ph fs fh os oh ob hp1 hp2 h1 h2 h3 h4 h5 h6
  refine ⟨r, hr, hz, ?_⟩
  obtain ⟨w, x, w9, w2, w1, rfl, hx, rfl⟩ := hp3
  obtain ⟨s, hs, rfl⟩ := i_of (n := 12) hp1 hp2
  have es : (nI s).toInt.toNat = s := by rw [nI_toInt (by omega)]; rfl
  have bw : bl w ≤ 9 := bl_le.mpr w9
  have hx2 : x < 256 := Nat.lt_of_lt_of_le hx (Nat.pow_le_pow_right (by decide) (show bl w - 1 ≤ 8 by omega))
  have ed : DI (lN w) = nI (bl w - 1) := by
    have e := (DI_is (lN w)).2
    rw [x0_deg (by omega)] at e
    rw [← Option.some.inj e, dgI, nI_s1' (by omega)]
  have e7 : ∃ v2 v3 v4 v5 v6 v7 v8 v9 v10 v11 v12 v13 v14, F_X7_digest ac rf kn fo (nI s) ro (lN w) ((nI x).toInt64) a1 a2 a3 a4 a5 a6 ps ph fs fh os oh ob = some (0, DGV ac rf kn fo (nI s) ro (lN w) x (bl w - 1), v2, v3, v4, v5, v6, v7, v8, v9, v10, v11, v12, v13, v14) := by
    obtain ⟨⟨r0, v2, v3, v4, v5, v6, v7, v8, v9, v10, v11, v12, v13, v14⟩, hq, e0⟩ := so_1 fo (lN w) a1 a2 a3 a4 a5 a6 ps ph fs fh os oh ob ⟨w, w9, w2, w1, rfl⟩ h1 h2
    have e0 : r0 = 1 := e0
    subst e0
    refine ⟨v2, v3, v4, v5, v6, v7, v8, v9, v10, v11, v12, v13, v14, ?_⟩
    unfold F_X7_digest
    rw [nI_l (n := x) (by omega)]
    refine (df7 _ fo hp0 6 0 20000 (by omega) (by omega)).trans ?_
    rw [mx_7, obn_s]
    refine (dr7 _ ro _ (s := s) (by omega) s 0 20000 (by omega) (by omega)).trans ?_
    rw [mx_7, obn_s, (DI_is (lN w)).2, obn_s, ed]
    refine (dc7 _ _ (x := x) (m := bl w - 1) hx2 (by omega) (bl w - 1) 0 20000 (by omega) (by omega)).trans ?_
    refine (dh7 ac rf kn fo (nI s) (lN w) a1 a2 a3 a4 a5 a6 ps ph fs fh os oh ob _ _ 6 0 66 (by omega) (by omega)).trans ?_
    rw [hq, obn14_some, if_neg (by decide), mx_7, obn_s, DGV, es]
    rfl
  obtain ⟨v2, v3, v4, v5, v6, v7, v8, v9, v10, v11, v12, v13, v14, e7⟩ := e7
  have er := Option.some.inj (hr.symm.trans e7)
  have ev : r.2.1 = DGV ac rf kn fo (nI s) ro (lN w) x (bl w - 1) := by rw [er]
  rw [ev]
  unfold F_X9_digest
  refine dg9 _ fo hp0 ?_ 6 0 20000 (by omega) (by omega)
  rw [mx_9, obn_s]
  refine ok_of (dr9 _ ro _ (s := s) (by omega) s 0 20000 (by omega) (by omega)) ?_
  rw [mx_9, obn_s]
  refine ok_of (dc9 _ _ (lN w) (x := x) (m := bl w - 1) hx2 (by omega) ed (bl w - 1) 0 20000 (by omega) (by omega)) ?_
  refine ok_of (dh9 ac rf kn fo (nI s) (lN w) _ _ 6 0 20000 (by omega) (by omega)) ?_
  rw [mx_9, obn_s]
  exact ok_s (by rw [DGV, es]; rfl)
