/-! S6. what both answer: factors, primes by rising, wheels, the house -/
theorem cc_shift (p : Int64 → Bool) (g : Nat → Int64) : ∀ m, cc p g (m + 1) = (if p (g 0) = true then 1 else 0) + cc p (fun i => g (i + 1)) m := by
  intro m
  induction m with
  | zero => rw [cc, cc, cc]; omega
  | succ m ih => rw [cc, ih, cc]; omega
theorem cc_list (p : Int64 → Bool) : ∀ L : List Nat, cc p (fun k => lN (L.getD k 0)) L.length = L.countP (fun x => p (lN x)) := by
  intro L
  induction L with
  | nil => rfl
  | cons a L ih =>
    rw [List.length_cons, cc_shift, List.countP_cons]
    have e : cc p (fun i => lN ((a :: L).getD (i + 1) 0)) L.length = L.countP (fun x => p (lN x)) := ih
    rw [e]
    show (if p (lN a) = true then 1 else 0) + _ = _
    omega
theorem cc_upl (p : Int64 → Bool) (f : Nat → Int64) (L : List Nat) : cc p (upl f L) L.length = L.countP (fun x => p (lN x)) := by
  rw [← cc_list]
  exact cc_congr L.length (fun i hi => upl_at hi)
theorem asc_le {C : List Nat} (h : ∀ i, i < C.length → 0 < i → C.getD (i - 1) 0 ≤ C.getD i 0) : ∀ j i, i ≤ j → j < C.length → C.getD i 0 ≤ C.getD j 0 := by
  intro j
  induction j with
  | zero => intro i hi _; rw [show i = 0 by omega]; exact Nat.le_refl _
  | succ j ih =>
    intro i hi hj
    rcases Nat.lt_or_ge i (j + 1) with h1 | h1
    · have h2 := ih i (by omega) (by omega)
      have h3 := h (j + 1) hj (by omega)
      rw [show j + 1 - 1 = j by omega] at h3
      omega
    · rw [show i = j + 1 by omega]; exact Nat.le_refl _
theorem rev_gd {L : List Nat} {i : Nat} (h : i < L.length) : L.reverse.getD i 0 = L.getD (L.length - 1 - i) 0 := by
  rw [List.getD_eq_getElem?_getD, List.getD_eq_getElem?_getD, List.getElem?_reverse h]
theorem kk_0 (a : Nat) (h : a < 2048) : kk 0 (lN a) = (a : Int) := by
  unfold kk
  rw [if_pos rfl, pf_lI (by omega)]
theorem kk_1 (a : Nat) (h : a < 2048) : kk 1 (lN a) = -(a : Int) := by
  unfold kk
  rw [if_neg (by decide), pf_lI (by omega)]
noncomputable def fC (x : Int64) : List Nat := (trM 120 (tn x) 2 []).getD []
noncomputable def fB (x : Int64) : List Nat := (dgM 10 1 (tn x) []).getD []
noncomputable def fN (x : Int64) : Int32 := nI (fC x).length
noncomputable def fA (f : Nat → Int64) (x : Int64) : Nat → Int64 := upl f (fC x)
noncomputable def fR (f : Nat → Int64) (x : Int64) : Nat → Int64 := upl f (fC x).reverse
theorem fac_x {x : Int64} (h1 : 1 ≤ DG x) (h2 : DG x ≤ 10) : ∃ n, x = lN n ∧ tn x = n ∧ 2 ≤ n ∧ n < 2048 ∧ trM 120 n 2 [] = some (fC x) ∧ dgM 10 1 n [] = some (fB x) ∧ l9M 13 n [] = some (fC x) ∧ (fB x).Perm (fC x) ∧ (fC x).length ≤ 11 ∧ 1 ≤ (fC x).length ∧ fC x = fct n ∧ ∀ i, i < (fC x).length → 2 ≤ (fC x).getD i 0 ∧ (fC x).getD i 0 < 2048 ∧ (0 < i → (fC x).getD (i - 1) 0 ≤ (fC x).getD i 0) := by
  obtain ⟨n, hn, hn2, rfl, e⟩ := DG_fo (x := x) (k := 11) (by omega)
  have h3 : 2 ^ 1 ≤ n := bl_gt.mp (by omega)
  obtain ⟨B, C, a1, a2, a3, a4, a5, a6, a7, a8⟩ := fac_is (n := n) (by omega) (by omega)
  have eC : fC (lN n) = C := by rw [fC, tn_lN hn2, a1]; rfl
  have eB : fB (lN n) = B := by rw [fB, tn_lN hn2, a2]; rfl
  rw [eC, eB]
  exact ⟨n, rfl, tn_lN hn2, by omega, by omega, a1, a2, a3, a4, a5, a6, a7, a8⟩
theorem fN_b {x : Int64} (h1 : 1 ≤ DG x) (h2 : DG x ≤ 10) : 1 ≤ (fN x).toInt ∧ (fN x).toInt ≤ 11 ∧ (fN x).toInt.toNat = (fC x).length := by
  obtain ⟨n, _, _, _, _, _, _, _, _, a5, a6, _⟩ := fac_x h1 h2
  rw [fN, nI_toInt (by omega)]
  omega
theorem upl_FA {f : Nat → Int64} {L : List Nat} (hf : FA f) (h : ∀ i, i < L.length → L.getD i 0 < 2048) : FA (upl f L) := fun k => by
  show DG (if k < L.length then lN (L.getD k 0) else f k) ≤ 39
  by_cases hk : k < L.length
  · rw [if_pos hk]
    exact DG_lNle (k := 40) (Nat.lt_trans (h k hk) (by decide)) (by decide)
  · rw [if_neg hk]; exact hf k
theorem fA_FA {f : Nat → Int64} {x : Int64} (hf : FA f) (h1 : 1 ≤ DG x) (h2 : DG x ≤ 10) : FA (fA f x) ∧ FA (fR f x) := by
  obtain ⟨n, _, _, _, _, _, _, _, _, _, _, _, a8⟩ := fac_x h1 h2
  refine ⟨upl_FA hf (fun i hi => (a8 i hi).2.1), upl_FA hf (fun i hi => ?_)⟩
  rw [List.length_reverse] at hi
  rw [rev_gd hi]
  exact (a8 _ (by omega)).2.1
theorem fx_X1_findByTrying (f : Nat → Int64) (p0 : Int64) (h1 : 1 ≤ DG p0) (h2 : DG p0 ≤ 10) : ok (F_X1_findByTrying f p0) (fun r => r.1 = fN p0 ∧ r.2 = fA f p0) := by
  obtain ⟨n, e, _, _, _, a1, _⟩ := fac_x h1 h2
  have t := tr_is f a1
  rw [← e] at t
  rw [t]
  exact ok_s ⟨rfl, rfl⟩
theorem fx_X1_findByDegrees (c : Int32) (h f : Nat → Int64) (p0 : Int64) (h1 : 1 ≤ DG p0) (h2 : DG p0 ≤ 10) (h3 : 0 ≤ c.toInt) (h4 : c.toInt ≤ 12) : ok (F_X1_findByDegrees c h f p0) (fun r => r.2.2.1 = fN p0 ∧ r.2.2.2 = upl f (fB p0) ∧ 0 ≤ r.1.toInt ∧ r.1.toInt ≤ 12) := by
  obtain ⟨n, e, _, _, _, _, a2, _, a4, _⟩ := fac_x h1 h2
  have t := dg_is c h f ⟨h3, h4⟩ a2
  rw [← e, a4.length_eq] at t
  exact t
/-- put in a row, those found by degrees are those found by trying -/
theorem fac_row (z : Int32) (f : Nat → Int64) {x : Int64} (h1 : 1 ≤ DG x) (h2 : DG x ≤ 10) : SRT 1 (upl f (fB x)) (fC x).length = fR f x ∧ SRT 0 (upl f (fB x)) (fC x).length = fA f x := by
  obtain ⟨n, _, _, _, _, _, _, _, a4, _, _, _, a8⟩ := fac_x h1 h2
  have hl := a4.length_eq
  have asc := asc_le (C := fC x) (fun i hi h0 => (a8 i hi).2.2 h0)
  refine ⟨(srt_eq (fun i j hij hj => ?_) (fun p => ?_) (fun i hi => ?_)).symm, (srt_eq (fun i j hij hj => ?_) (fun p => ?_) (fun i hi => ?_)).symm⟩
  · have e1 : fR f x i = lN ((fC x).getD ((fC x).length - 1 - i) 0) := by
      rw [← rev_gd (by omega)]
      exact upl_at (by rw [List.length_reverse]; omega)
    have e2 : fR f x j = lN ((fC x).getD ((fC x).length - 1 - j) 0) := by
      rw [← rev_gd (by omega)]
      exact upl_at (by rw [List.length_reverse]; omega)
    rw [e1, e2, kk_1 _ (a8 _ (by omega)).2.1, kk_1 _ (a8 _ (by omega)).2.1]
    have := asc ((fC x).length - 1 - i) ((fC x).length - 1 - j) (by omega) (by omega)
    omega
  · have e1 := cc_upl p f (fC x).reverse
    have e2 := cc_upl p f (fB x)
    rw [List.length_reverse, List.countP_reverse] at e1
    rw [hl, a4.countP_eq] at e2
    exact e1.trans e2.symm
  · show (if i < (fC x).reverse.length then _ else f i) = (if i < (fB x).length then _ else f i)
    rw [if_neg (by rw [List.length_reverse]; omega), if_neg (by omega)]
  · have e1 : fA f x i = lN ((fC x).getD i 0) := upl_at (by omega)
    have e2 : fA f x j = lN ((fC x).getD j 0) := upl_at hj
    rw [e1, e2, kk_0 _ (a8 _ (by omega)).2.1, kk_0 _ (a8 _ hj).2.1]
    have := asc j i (by omega) hj
    omega
  · have e1 := cc_upl p f (fC x)
    have e2 := cc_upl p f (fB x)
    rw [hl, a4.countP_eq] at e2
    exact e1.trans e2.symm
  · show (if i < (fC x).length then _ else f i) = (if i < (fB x).length then _ else f i)
    rw [if_neg (by omega), if_neg (by omega)]
theorem l9_loop {Q : Int32 × Int32 × Int32 × Int32 × Int32 × (Nat → Int64) → Prop} (K : Int32 → (Nat → Int64) → Option (Int32 × Int32 × Int32 × Int32 × Int32 × (Nat → Int64))) (f : Nat → Int64) (x : Int64) (hf : FA f) (h1 : 1 ≤ DG x) (h2 : DG x ≤ 10) (hK : ∀ c g, c = fN x ∧ g = fA f x ∧ FA g ∧ 1 ≤ c.toInt ∧ c.toInt ≤ 11 → ok (K c g) Q) : ok (LQ3 (S_X9_factor_79 K) 20000 x (0 : Int32) f) Q := by
  obtain ⟨n, e, _, _, _, _, _, a3, _⟩ := fac_x h1 h2
  have t := l9_l K f 13 n [] 20000 _ a3 (by decide)
  rw [upl_nil, ← e] at t
  have t : LQ3 (S_X9_factor_79 K) 20000 x (0 : Int32) f = K (fN x) (fA f x) := t
  rw [t]
  have b := fN_b h1 h2
  exact hK _ _ ⟨rfl, rfl, (fA_FA hf h1 h2).1, b.1, b.2.1⟩
theorem l9_rev {Q : Int32 × Int32 × Int32 × Int32 × Int32 × (Nat → Int64) → Prop} (K : (Nat → Int64) → Option (Int32 × Int32 × Int32 × Int32 × Int32 × (Nat → Int64))) (f g : Nat → Int64) (c : Int32) (x : Int64) (hf : FA f) (h1 : 1 ≤ DG x) (h2 : DG x ≤ 10) (hc : c = fN x) (hg : g = fA f x) (hK : ∀ g2, g2 = fR f x ∧ FA g2 → ok (K g2) Q) : ok (LQ2 (S_X9_factor_132 c K) 20000 (0 : Int32) g) Q := by
  obtain ⟨n, _, _, _, _, _, _, _, _, a5, a6, _, a8⟩ := fac_x h1 h2
  subst hc hg
  have e : (fun i => if i < (fC x).length then fA f x ((fC x).length - 1 - i) else fA f x i) = fR f x := funext fun i => by
    show _ = if i < (fC x).reverse.length then lN ((fC x).reverse.getD i 0) else f i
    rw [List.length_reverse]
    by_cases hi : i < (fC x).length
    · have e1 : fA f x ((fC x).length - 1 - i) = lN ((fC x).getD ((fC x).length - 1 - i) 0) := upl_at (by omega)
      rw [if_pos hi, if_pos hi, e1, rev_gd hi]
    · have e1 : fA f x i = f i := if_neg hi
      rw [if_neg hi, if_neg hi, e1]
  refine rv_loop K (fC x).length (fA f x) (by omega) a6 ?_
  rw [e]
  exact hK _ ⟨rfl, (fA_FA hf h1 h2).2⟩
/-! primes by rising -/
theorem pn_c : ∀ q, q < 11 → 2 ≤ q → F_X2_isPrimeNumber (nI q) = some (nI (if pnM q then 1 else 0)) := by decide +kernel
theorem ri_l {l : Nat} (hl : l < 2048) (h2 : 2 ≤ bl l) (K0 K1 : Unit → Option Int32) : ∀ u q n, q + u = bl l → 2 ≤ q → u < n → LQ1 (S_X2_isByRising_30 (lN l) (dgI l) K0 K1) n (nI q) = if riM l u q then K1 () else K0 () := by
  have hb : bl l ≤ 11 := bl_le.mpr (by omega)
  have l0 : l ≠ 0 := fun e => by subst e; rw [bl_0] at h2; omega
  intro u
  induction u with
  | zero =>
    intro q n hq hq2 hn
    obtain ⟨n, rfl⟩ : ∃ m, n = m + 1 := ⟨n - 1, by omega⟩
    show S_X2_isByRising_30 _ _ K0 K1 _ _ = _
    unfold S_X2_isByRising_30
    rw [dgI_p l0, if_pos ((nI_ltI (by omega) (by omega)).mpr (by omega)), riM]
    rfl
  | succ u ih =>
    intro q n hq hq2 hn
    obtain ⟨n, rfl⟩ : ∃ m, n = m + 1 := ⟨n - 1, by omega⟩
    show S_X2_isByRising_30 _ _ K0 K1 (LQ1 (S_X2_isByRising_30 (lN l) (dgI l) K0 K1) n) _ = _
    unfold S_X2_isByRising_30
    have q0 : ¬ nI q = 0 := fun h => by have := (nI_eq (a := q) (b := 0) (by omega) (by omega)).mp h; omega
    have hm : (bl l - 1) % q < q := Nat.mod_lt _ (by omega)
    have hd : (bl l - 1) / q ≤ bl l - 1 := Nat.div_le_self _ _
    have i2 := ih (q + 1) n (by omega) (by omega) (by omega)
    rw [nI_succ] at i2
    rw [dgI_p l0] at i2 ⊢
    rw [if_neg (fun h => by have := (nI_ltI (by omega) (by omega)).mp h; omega)]
    unfold chk
    rw [if_pos q0, if_pos q0, pk_rem (by omega) (by omega) (by omega), pk_div (by omega) (by omega) (by omega), riM]
    by_cases hz : (bl l - 1) % q = 0
    · rw [if_pos (show nI ((bl l - 1) % q) = 0 by rw [hz]; rfl), if_pos hz, pn_c q (by omega) hq2, obn_s]
      cases hp : pnM q with
      | true =>
        simp only [if_true]
        rw [if_neg one_1, rs_is l0 hl (by omega), obn_s]
        have hr := rs_lt l0 hl ((bl l - 1) / q)
        have hx : rsM l ((bl l - 1) / q) ^^^ 2 < 2048 := Nat.xor_lt_two_pow (n := 11) (by omega) (by decide)
        rw [show (2 : Int64) = lN 2 from rfl, lN_xor, x0_gcd (by omega) (by omega), obn_s]
        have hg : co l (rsM l ((bl l - 1) / q) ^^^ 2) < 2 ^ 40 := eu_lt 64 _ _ (by omega) (by omega)
        generalize co l (rsM l ((bl l - 1) / q) ^^^ 2) = c at *
        by_cases hc : c = 1
        · rw [if_pos (show lN c = (1 : Int64) by rw [hc]; rfl), if_pos hc]
          exact i2
        · rw [if_neg (fun h9 => hc (by
            have e := congrArg (fun q : Int64 => q.toBitVec.toNat) h9
            simp only [wb_tn (show c < 2 ^ 64 by omega)] at e
            exact e)), if_neg hc]
          rfl
      | false =>
        simp only [Bool.false_eq_true, if_false]
        rw [if_pos one_0]
        exact i2
    · rw [if_neg (show ¬ nI ((bl l - 1) % q) = 0 from fun h => hz ((nI_eq (b := 0) (by omega) (by omega)).mp h)), if_neg hz]
      exact i2
theorem x2_ris {l : Nat} (hl : l < 2048) : F_X2_isByRising (lN l) = some (nI (if rzM l then 1 else 0)) := by
  have hb : bl l ≤ 11 := bl_le.mpr (by omega)
  unfold F_X2_isByRising rzM
  rw [x0_deg (by omega), obn_s]
  by_cases h2 : bl l < 2
  · rw [if_pos h2, if_pos (by rw [Int32.lt_iff_toInt_lt, dgI_T (by omega), show (1 : Int32).toInt = 1 from by decide]; omega)]
    rfl
  · have l0 : l ≠ 0 := fun e => by subst e; rw [bl_0] at h2; omega
    have hr := rs_lt l0 hl (bl l - 1)
    have hx : rsM l (bl l - 1) ^^^ 2 < 2048 := Nat.xor_lt_two_pow (n := 11) (by omega) (by decide)
    rw [if_neg h2, if_neg (fun h => by rw [Int32.lt_iff_toInt_lt, dgI_T (by omega), show (1 : Int32).toInt = 1 from by decide] at h; omega)]
    have e1 : F_X0_risenRest (dgI l) (lN l) = some (lN (rsM l (bl l - 1))) := by rw [dgI_p l0]; exact rs_is l0 hl (by omega)
    rw [e1, obn_s, show (2 : Int64) = lN 2 from rfl, lN_xor, x0_into l0 (by omega) (by omega), obn_s]
    by_cases h3 : rst (rsM l (bl l - 1) ^^^ 2) l = 0
    · rw [if_pos h3, if_pos h3, if_neg one_1]
      have e := ri_l hl (by omega) (fun _ => some (0 : Int32)) (fun _ => some (1 : Int32)) (bl l - 2) 2 20000 (by omega) (by omega) (by omega)
      refine Eq.trans e ?_
      cases riM l (bl l - 2) 2 <;> rfl
    · rw [if_neg h3, if_neg h3, if_pos one_0]
      rfl
theorem fx_X2_isByRising (p0 : Int64) (h : DG p0 ≤ 10) : ok (F_X2_isByRising p0) (fun r => (r.toInt = 0 ∨ r.toInt = 1) ∧ r = P9 p0) := by
  obtain ⟨a, ha, ha2, rfl, e1⟩ := DG_fo (x := p0) (k := 11) (by omega)
  rw [P9, x9_pr (n := a) (by omega), x2_ris (l := a) ha, ris_all ha]
  refine ok_s ⟨?_, rfl⟩
  cases prm a
  · exact Or.inl rfl
  · exact Or.inr rfl
/-! the product of all primes -/
set_option maxRecDepth 100000 in
theorem ap_F : ∀ n, n < 6 → 1 ≤ n → F_X2_productOfAll (nI n) = some (lN (apO n n 1 1)) := by decide +kernel
noncomputable def APV (p : Int32) : Int64 := (F_X2_productOfAll p).getD 0
theorem fx_X2_productOfAll (p0 : Int32) (h0 : 1 ≤ p0.toInt) (h1 : p0.toInt ≤ 5) : ok (F_X2_productOfAll p0) (fun r => r = APV p0) := by
  obtain ⟨n, hn, rfl⟩ := i_of (n := 5) (by omega) h1
  rw [nI_toInt (by omega)] at h0
  rw [APV, ap_F n (by omega) (by omega)]
  exact ok_s rfl
theorem ap_loop2 {Q : Int32 × Int32 × Int32 × (Nat → Int64) → Prop} (K : Int64 → Option (Int32 × Int32 × Int32 × (Nat → Int64))) (p : Int32) (hK : ∀ v, DG v ≤ 39 ∧ v = APV p → ok (K v) Q) (h1 : 1 ≤ p.toInt) (h5 : p.toInt ≤ 5) : ok (LQ2 (S_X9_allPrimes_41 p K) 20000 (1 : Int64) (1 : Int32)) Q := by
  obtain ⟨n, hn, rfl⟩ := i_of (n := 5) (by omega) h5
  rw [nI_toInt (by omega)] at h1
  have e := ap_out (n := n) (by omega) hn K n 1 1 20000 (by omega) (by omega) (by omega)
  have e : LQ2 (S_X9_allPrimes_41 (nI n) K) 20000 (1 : Int64) (1 : Int32) = K (lN (apO n n 1 1)) := e
  rw [e]
  have hc := ap_c n (by omega) (by omega)
  have := bl_le.mpr hc
  exact hK _ ⟨by rw [DG_lN (by omega)]; omega, by rw [APV, ap_F n (by omega) (by omega)]; rfl⟩
/-! wheels and the row -/
noncomputable def CBL (t : Int64) : Int64 := (1 : Int64) <<< ((DI t - (1 : Int32)).toInt64 &&& 63)
theorem fx_X5_beginAnew (p0 : Int64) : ok (F_X5_beginAnew p0) (fun r => r.1 = p0 ∧ r.2 = CBL p0) := by
  unfold F_X5_beginAnew F_X5_cellsBegun
  rw [(DI_is p0).2, obn_s, obn_s]
  exact ok_s ⟨rfl, rfl⟩
theorem cb_c : ∀ d, d < 9 → 1 ≤ d → (1 : Int64) <<< ((nI d - (1 : Int32)).toInt64 &&& 63) = ((1 : Int32) <<< ((nI d - (1 : Int32)) &&& 31)).toInt64 := by decide +kernel
theorem cb_eq {t : Int64} {d : Int32} (h : WT t) (hd : d.toInt = DG t) : CBL t = ((1 : Int32) <<< ((d - (1 : Int32)) &&& 31)).toInt64 := by
  obtain ⟨w, h9, hw, ho, rfl⟩ := h
  have hb9 : bl w ≤ 9 := bl_le.mpr (by omega)
  rw [DG_lN (by omega)] at hd
  have e1 : DI (lN w) = nI (bl w - 1) := Int32.toInt_inj.mp (by rw [DI_T, DG_lN (by omega), nI_toInt (by omega)]; omega)
  have e2 : d = nI (bl w - 1) := Int32.toInt_inj.mp (by rw [hd, nI_toInt (by omega)]; omega)
  rw [CBL, e1, e2]
  exact cb_c _ (by omega) (by omega)
noncomputable def GS (t c : Int64) (p : Int32) : Int32 := nI (gs (tn t) p.toInt.toNat (tn c))
noncomputable def ITL (t c : Int64) (p : Int32) : Int64 := lN (it (tn t) p.toInt.toNat (tn c))
theorem fx_X5_goOn (t c : Int64) (p0 : Int32) (h : CT t c.toInt32) (hc : c = c.toInt32.toInt64) (h0 : 0 ≤ p0.toInt) (h1 : p0.toInt ≤ 255) : ok (F_X5_goOn t c p0) (fun r => r.1 = GS t c p0 ∧ r.2 = ITL t c p0) := by
  obtain ⟨w, x, h9, hw, ho, rfl, hx, e⟩ := h
  obtain ⟨m, hm, rfl⟩ := i_of (n := 255) h0 h1
  have hb9 : bl w ≤ 9 := bl_le.mpr (by omega)
  have h8 := Nat.pow_le_pow_right (show 0 < 2 by decide) (show bl w - 1 ≤ 8 by omega)
  rw [e, nI_l (by omega)] at hc
  subst hc
  unfold F_X5_goOn
  have e2 := x5_go_l h9 hw hm (fun a b => some (a, b)) m 0 0 x 20000 (by omega) (by omega) hx
  have e2 : LQ3 (S_X5_goOn_4 (nI m) (lN w) (fun a b => some (a, b))) 20000 (0 : Int32) (0 : Int32) (lN x) = some (nI (0 + gs w m x), lN (it w m x)) := e2
  rw [e2, GS, ITL, tn_lN (by omega), tn_lN (by omega), nI_toInt (by omega), Nat.zero_add]
  exact ok_s ⟨rfl, rfl⟩
theorem go_loop {Q : Int32 × Int32 × Int32 × Int32 → Prop} (K : Int32 → Int32 → Option (Int32 × Int32 × Int32 × Int32)) (t : Int64) (c p0 : Int32) (h : CT t c) (h0 : 0 ≤ p0.toInt) (h1 : p0.toInt ≤ 255) (hK : ∀ a b, a = GS t (c.toInt64) p0 ∧ ITL t (c.toInt64) p0 = b.toInt64 ∧ CT t b → ok (K a b) Q) : ok (LQ3 (S_X9_step_29 p0 t K) 20000 (0 : Int32) (0 : Int32) c) Q := by
  obtain ⟨w, x, h9, hw, ho, rfl, hx, rfl⟩ := h
  obtain ⟨m, hm, rfl⟩ := i_of (n := 255) h0 h1
  have hb9 : bl w ≤ 9 := bl_le.mpr (by omega)
  have h8 := Nat.pow_le_pow_right (show 0 < 2 by decide) (show bl w - 1 ≤ 8 by omega)
  have e2 := x9_go_l h9 hw hm K m 0 0 x 20000 (by omega) (by omega) hx
  have e2 : LQ3 (S_X9_step_29 (nI m) (lN w) K) 20000 (0 : Int32) (0 : Int32) (nI x) = K (nI (0 + gs w m x)) (nI (it w m x)) := e2
  rw [e2]
  have hi := it_lt hw m x hx
  have em : (nI m).toInt.toNat = m := by rw [nI_toInt (by omega)]; rfl
  refine hK _ _ ⟨?_, ?_, w, it w m x, h9, hw, ho, rfl, hi, rfl⟩
  · rw [GS, nI_l (by omega), tn_lN (by omega), tn_lN (by omega), em, Nat.zero_add]
  · rw [ITL, nI_l (by omega), nI_l (by omega), tn_lN (by omega), tn_lN (by omega), em]
theorem ld_d : ∀ d, d < 9 → 1 ≤ d → ∀ x, x < 256 → ((nI x >>> (nI d &&& 31)).toInt ≤ 0 ↔ x < 2 ^ d) := by decide +kernel
theorem ld_c {p d : Int32} {t : Int64} (h0 : 0 ≤ p.toInt) (h1 : p.toInt ≤ 255) (hd : d.toInt = DG t) (h2 : 1 ≤ DG t) (h3 : DG t ≤ 8) : (p >>> (d &&& 31)).toInt ≤ 0 ↔ DG p.toInt64 < DG t := by
  obtain ⟨x, hx, rfl⟩ := i_of (n := 255) h0 h1
  obtain ⟨k, hk, rfl⟩ := i_of (n := 8) (x := d) (by omega) (by omega)
  rw [nI_toInt (by omega)] at hd
  rw [ld_d k (by omega) (by omega) x (by omega), nI_l (by omega), DG_lN (by omega), ← hd, ← bl_le]
  omega
/-! periods -/
noncomputable def PE (x : Int64) : Int32 := nI (perN (tn x))
theorem fx_X9_periodOf (p0 : Int64) (h : WT p0) : ok (F_X9_periodOf p0) (fun r => r = PE p0) := by
  obtain ⟨w, h9, hw, ho, rfl⟩ := h
  rw [x9_per h9 hw ho, PE, tn_lN (by omega)]
  exact ok_s rfl
theorem fx_X6_periodByMultiplying (p0 : Int64) (h : WT p0) : ok (F_X6_periodByMultiplying p0) (fun r => r = PE p0) := by
  obtain ⟨w, h9, hw, ho, rfl⟩ := h
  rw [x6_per h9 hw ho, PE, tn_lN (by omega)]
  exact ok_s rfl
theorem fx_X6_periodBySteps (p0 : Int64) (h : WT p0) : ok (F_X6_periodBySteps p0) (fun r => r = PE p0) := by
  obtain ⟨w, h9, hw, ho, rfl⟩ := h
  rw [x6_steps h9 hw ho, PE, tn_lN (by omega)]
  exact ok_s rfl
/-! the house -/
noncomputable def OAn (f : Nat → Int64) : Nat → Int32
  | 0 => 0
  | k + 1 => OAn f k + BC (f k)
theorem ix_6 {k : Nat} (h : k < 6) : ¬ (nI k < 0 ∨ 6 ≤ (nI k).toNatClampNeg) := ixo (by rw [nI_toInt (by omega)]; omega) (by rw [nI_toInt (by omega)]; omega)
theorem x9_ones (x : Int64) : F_X9_onesOf x = some (BC x) := by
  obtain ⟨r, e, _, _, h⟩ := fx_X9_onesOf x
  rw [e, h]
theorem x0_ones (x : Int64) : F_X0_onesOf x = some (BC x) := by
  obtain ⟨r, e, h⟩ := fx_X0_onesOf x
  rw [e, h]
theorem oa_7 (f : Nat → Int64) : F_X7_onesOfAll f = some (OAn f 6) := by
  unfold F_X7_onesOfAll
  refine ok_v (ok_L2 (fun c y => ∃ a, a ≤ 6 ∧ y = nI a ∧ c = OAn f a) (fun _ y => (20 - y.toInt).toNat) (fun ih c y hI hih => ?_) 20000 _ _ ⟨0, by omega, rfl, rfl⟩ (by decide))
  obtain ⟨a, h3, rfl, rfl⟩ := hI
  unfold S_X7_onesOfAll_4
  by_cases h : 6 ≤ a
  · have : a = 6 := by omega
    subst this
    rw [if_pos (by decide)]
    exact ok_s rfl
  · rw [if_neg (show ¬ (6 : Int32) ≤ nI a from nI_ge (b := 6) (by omega) (by omega))]
    refine ok_c (ix_6 (by omega)) ?_
    rw [cl_i (by omega), x0_ones, obn_s]
    refine ok_bx (fun c2 ec => ok_bx (fun y2 ey => ?_))
    have ey : y2 = nI (a + 1) := by first | exact ey | rw [ey, nI_p1']
    subst ey
    exact hih _ _ ⟨a + 1, by omega, rfl, ec⟩ (by rw [nI_toInt (by omega), nI_toInt (by omega)]; omega)
noncomputable def TOL (m : Int32) (t : Int64) (a r k : Int32) (f : Nat → Int64) (p : Int32) : Int32 := if p = 0 then a else if p = 1 then r else if p = 2 then k else if p = 3 then m else if p = 4 then t.toInt32 else OAn f 6
theorem to_9 (m : Int32) (t : Int64) (a r k : Int32) (f : Nat → Int64) (p : Int32) : F_X9_told m t a r k f p = some (TOL m t a r k f p) := by
  unfold F_X9_told
  refine ok_v (ok_L2 (fun c y => ∃ j, j ≤ 6 ∧ y = nI j ∧ c = OAn f j) (fun _ y => (20 - y.toInt).toNat) (fun ih c y hI hih => ?_) 20000 _ _ ⟨0, by omega, rfl, rfl⟩ (by decide))
  obtain ⟨j, h3, rfl, rfl⟩ := hI
  unfold S_X9_told_14
  by_cases h : 6 ≤ j
  · have : j = 6 := by omega
    subst this
    rw [if_pos (show (6 : Int32) ≤ nI 6 by decide)]
    show ok (if p = 0 then some a else if p = 1 then some r else if p = 2 then some k else if p = 3 then some m else if p = 4 then some t.toInt32 else some (OAn f 6)) (fun r9 => r9 = TOL m t a r k f p)
    rw [TOL]
    by_cases h0 : p = 0
    · rw [if_pos h0, if_pos h0]; exact ok_s rfl
    · rw [if_neg h0, if_neg h0]
      by_cases h1 : p = 1
      · rw [if_pos h1, if_pos h1]; exact ok_s rfl
      · rw [if_neg h1, if_neg h1]
        by_cases h2 : p = 2
        · rw [if_pos h2, if_pos h2]; exact ok_s rfl
        · rw [if_neg h2, if_neg h2]
          by_cases h4 : p = 3
          · rw [if_pos h4, if_pos h4]; exact ok_s rfl
          · rw [if_neg h4, if_neg h4]
            by_cases h5 : p = 4
            · rw [if_pos h5, if_pos h5]; exact ok_s rfl
            · rw [if_neg h5, if_neg h5]; exact ok_s rfl
  · rw [if_neg (show ¬ (6 : Int32) ≤ nI j from nI_ge (b := 6) (by omega) (by omega))]
    refine ok_c (ix_6 (by omega)) (ok_b ?_)
    rw [cl_i (by omega), x9_ones, obn_s]
    refine ok_bx (fun c2 ec => ok_bx (fun y2 ey => ?_))
    have ey : y2 = nI (j + 1) := by first | exact ey | rw [ey, nI_p1']
    subst ey
    exact hih _ _ ⟨j + 1, by omega, rfl, ec⟩ (by rw [nI_toInt (by omega), nI_toInt (by omega)]; omega)
theorem ho_7 (m : Int32) (t : Int64) (a r k : Int32) (f : Nat → Int64) (p : Int32) : ok (F_X7_house a r k f m t p) (fun q => (q.1 = 0 ∧ 0 ≤ p.toInt ∧ p.toInt ≤ 5 ∧ q.2 = TOL m t a r k f p) ∨ (q.1 = 2 ∧ (p.toInt < 0 ∨ 5 < p.toInt))) := by
  have l0 : (0 : Int32).toInt = 0 := by decide
  have l5 : (5 : Int32).toInt = 5 := by decide
  unfold F_X7_house
  refine ok_o (sp_X7_testRange p (0 : Int32) (5 : Int32)) (fun xc h => ?_)
  have h : (xc = 0 ∧ (0 : Int32).toInt ≤ p.toInt ∧ p.toInt ≤ (5 : Int32).toInt) ∨ (xc = 2 ∧ (p.toInt < (0 : Int32).toInt ∨ (5 : Int32).toInt < p.toInt)) := h
  by_cases hx : xc = 0
  · rw [if_pos hx]
    have hp : 0 ≤ p.toInt ∧ p.toInt ≤ 5 := by omega
    have go : ∀ v, v = TOL m t a r k f p → ok (some ((0 : Nat), v)) (fun q => (q.1 = 0 ∧ 0 ≤ p.toInt ∧ p.toInt ≤ 5 ∧ q.2 = TOL m t a r k f p) ∨ (q.1 = 2 ∧ (p.toInt < 0 ∨ 5 < p.toInt))) := fun v hv => ok_s (Or.inl ⟨rfl, hp.1, hp.2, hv⟩)
    by_cases h0 : p = 0
    · rw [if_pos h0]; exact go _ (by rw [TOL, if_pos h0])
    · rw [if_neg h0]
      by_cases h1 : p = 1
      · rw [if_pos h1]; exact go _ (by rw [TOL, if_neg h0, if_pos h1])
      · rw [if_neg h1]
        by_cases h2 : p = 2
        · rw [if_pos h2]; exact go _ (by rw [TOL, if_neg h0, if_neg h1, if_pos h2])
        · rw [if_neg h2]
          by_cases h4 : p = 3
          · rw [if_pos h4]; exact go _ (by rw [TOL, if_neg h0, if_neg h1, if_neg h2, if_pos h4])
          · rw [if_neg h4]
            by_cases h6 : p = 4
            · rw [if_pos h6]; exact go _ (by rw [TOL, if_neg h0, if_neg h1, if_neg h2, if_neg h4, if_pos h6])
            · rw [if_neg h6, oa_7, obn_s]; exact go _ (by rw [TOL, if_neg h0, if_neg h1, if_neg h2, if_neg h4, if_neg h6])
  · rw [if_neg hx]
    exact ok_s (Or.inr (show xc = 2 ∧ (p.toInt < 0 ∨ 5 < p.toInt) by omega))
