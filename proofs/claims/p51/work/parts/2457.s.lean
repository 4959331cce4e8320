/-! the class finds its own sums sound -/
theorem and511 (x : Int64) : ∃ a, a < 512 ∧ x &&& (511 : Int64) = lN a := by
  refine ⟨tn (x &&& (511 : Int64)), ?_, (lN_tn _).symm⟩
  have e : tn (x &&& (511 : Int64)) = tn x &&& 511 := by
    unfold tn
    rw [Int64.toBitVec_and, BitVec.toNat_and]
    rfl
  rw [e]
  exact Nat.lt_succ_of_le Nat.and_le_right
theorem cl_sm {a b : Nat} (ha : a < 512) (hb : b < 512) : cl a b < 2 ^ 17 := by
  have h1 : bl a ≤ 9 := bl_le.mpr ha
  have h2 : bl b ≤ 9 := bl_le.mpr hb
  have h3 := cl_ble a (b := b) (by omega)
  exact bl_le.mp (by omega)
theorem dm_ex {a b : Nat} (ha : a < 512) (hb : b < 512) (h0 : b ≠ 0) : quo (cl a b) b = a ∧ rst (cl a b) b = 0 := by
  have hs := cl_sm ha hb
  obtain ⟨h1, h2, h3⟩ := dm_spec (f := cl a b) h0 (by omega) (by omega)
  have h4 : bl (cl a b) ≤ 17 := bl_le.mpr hs
  have hu : quo (cl a b) b < 2 ^ 64 := Nat.lt_of_lt_of_le h3 (Nat.pow_le_pow_right (by decide) (by unfold dvu; omega))
  exact dm_uniq h0 (q2 := a) (r2 := 0) (by rw [h1, Nat.xor_zero, cl_comm (by omega) (by omega)]) hu (by omega) h2 (Nat.two_pow_pos _)
theorem ps_1 {a b : Nat} (ha : a < 512) (hb : b < 512) : F_X7_isProductSound (lN a) (lN b) = some 1 := by
  have hs := cl_sm ha hb
  unfold F_X7_isProductSound
  rw [x0_mul (a := a) (b := b) (by omega), obn_s, x0_mul (a := b) (b := a) (by omega), obn_s, cl_comm (a := b) (b := a) (by omega) (by omega), if_pos rfl, x0_mul (a := a) (b := a) (by omega), obn_s, x0_sq (by omega), obn_s, if_pos rfl]
  by_cases h0 : b = 0
  · subst h0
    exact if_pos rfl
  · obtain ⟨e1, e2⟩ := dm_ex ha hb h0
    rw [if_neg (lN_ne h0 (by omega)), x0_quo h0 (by omega) (by omega), obn_s, e1, if_pos rfl, x0_rest h0 (by omega) (by omega), obn_s, e2]
    exact if_pos rfl
theorem tn_xor (x y : Int64) : tn (x ^^^ y) = tn x ^^^ tn y := by
  unfold tn
  rw [Int64.toBitVec_xor, BitVec.toNat_xor]
theorem DG_bl (x : Int64) : DG x = (bl (tn x) : Int) - 1 := rfl
theorem xor4 (p q r s : Nat) : (p ^^^ q) ^^^ (r ^^^ s) = (p ^^^ r) ^^^ (q ^^^ s) := by
  rw [Nat.xor_assoc, ← Nat.xor_assoc q r s, Nat.xor_comm q r, Nat.xor_assoc r q s, ← Nat.xor_assoc]
noncomputable def IV (a b : Nat) (f : Nat → Int64) : Prop := cl a (tn (f 1)) ^^^ cl b (tn (f 2)) = tn (f 0)
theorem iv_in {a Q G : Nat} (ha : bl a ≤ 9) (hQ : bl Q ≤ 40) (hG : bl G ≤ 40) (hQG : bl Q + bl G ≤ 41) : cl a (cl Q G) = cl Q (cl a G) := by
  have a1 : a < 2 ^ 9 := bl_le.mp ha
  have q1 : Q < 2 ^ 40 := bl_le.mp hQ
  have g1 : G < 2 ^ 40 := bl_le.mp hG
  rw [← cl_assoc (a := a) (b := Q) (c := G) (by omega) (by omega) (by omega), cl_comm (a := a) (b := Q) (by omega) (by omega), cl_assoc (a := Q) (b := a) (c := G) (by omega) (by omega) (by omega)]
theorem iv_step {a b : Nat} (ha : a < 512) (hb : b < 512) {f g : Nat → Int64} (h : MI f g) (hg : ¬ g 0 = 0) (hf : IV a b f) (hv : IV a b g) : IV a b (fun i => f i ^^^ cL (qL (f 0) (g 0)) (g i)) ∧ tn (f 0 ^^^ cL (qL (f 0) (g 0)) (g 0)) = rst (tn (f 0)) (tn (g 0)) := by
  have ba : bl a ≤ 9 := bl_le.mpr ha
  have bb : bl b ≤ 9 := bl_le.mpr hb
  have hg0 : tn (g 0) ≠ 0 := fun e => hg (by rw [← lN_tn (g 0), e]; rfl)
  have hgp := bl_pos hg0
  obtain ⟨m1, m2, m3⟩ := h
  have m4 := m3 1 (Or.inl rfl)
  have m5 := m3 2 (Or.inr rfl)
  rw [DG_bl] at m1 m2
  rw [DG_bl, DG_bl, DG_bl, DG_bl] at m4 m5
  have f0 : tn (f 0) < 2 ^ 40 := bl_le.mp (by omega)
  have g0 : tn (g 0) < 2 ^ 40 := bl_le.mp (by omega)
  obtain ⟨d1, d2, d3⟩ := dm_spec (f := tn (f 0)) hg0 (by omega) (by omega)
  have bq : bl (quo (tn (f 0)) (tn (g 0))) ≤ bl (tn (f 0)) + 1 - bl (tn (g 0)) := bl_le.mpr d3
  have tq : tn (qL (f 0) (g 0)) = quo (tn (f 0)) (tn (g 0)) := by
    have : quo (tn (f 0)) (tn (g 0)) < 2 ^ 40 := bl_le.mp (by omega)
    rw [qL, tn_lN (by omega)]
  have tc : ∀ i, bl (quo (tn (f 0)) (tn (g 0))) + bl (tn (g i)) ≤ 42 → bl (tn (g i)) ≤ 40 → tn (cL (qL (f 0) (g 0)) (g i)) = cl (quo (tn (f 0)) (tn (g 0))) (tn (g i)) := fun i hi hj => by
    have g9 : tn (g i) < 2 ^ 40 := bl_le.mp hj
    have c9 := cl_ble (quo (tn (f 0)) (tn (g 0))) (b := tn (g i)) (by omega)
    have c8 : cl (quo (tn (f 0)) (tn (g 0))) (tn (g i)) < 2 ^ 41 := bl_le.mp (by omega)
    rw [cL, tq, tn_lN (by omega)]
  have h0 : tn (f 0 ^^^ cL (qL (f 0) (g 0)) (g 0)) = rst (tn (f 0)) (tn (g 0)) := by
    have q9 : quo (tn (f 0)) (tn (g 0)) < 2 ^ 40 := bl_le.mp (by omega)
    rw [tn_xor, tc 0 (by omega) (by omega), cl_comm (by omega) (by omega)]
    exact (show ∀ c R F : Nat, c ^^^ R = F → F ^^^ c = R from fun c R F e => by rw [← e, Nat.xor_comm c, Nat.xor_assoc, Nat.xor_self, Nat.xor_zero]) _ _ _ d1
  refine ⟨?_, h0⟩
  show cl a (tn (f 1 ^^^ cL (qL (f 0) (g 0)) (g 1))) ^^^ cl b (tn (f 2 ^^^ cL (qL (f 0) (g 0)) (g 2))) = tn (f 0 ^^^ cL (qL (f 0) (g 0)) (g 0))
  rw [tn_xor, tn_xor, tn_xor, tc 0 (by omega) (by omega), tc 1 (by omega) (by omega), tc 2 (by omega) (by omega), cl_xr, cl_xr, xor4, iv_in ba (by omega) (by omega) (by omega), iv_in bb (by omega) (by omega) (by omega), ← cl_xr]
  have e1 : cl a (tn (f 1)) ^^^ cl b (tn (f 2)) = tn (f 0) := hf
  have e2 : cl a (tn (g 1)) ^^^ cl b (tn (g 2)) = tn (g 0) := hv
  rw [e1, e2]
theorem mz_all {a b : Nat} (ha : a < 512) (hb : b < 512) : ∀ n f g, MI f g → IV a b f → IV a b g → IV a b (mz n f g) ∧ tn (mz n f g 0) = eu n (tn (f 0)) (tn (g 0)) ∧ DG (mz n f g 1) ≤ 39 ∧ DG (mz n f g 2) ≤ 39 := by
  intro n
  induction n with
  | zero => intro f g h hf _; exact ⟨hf, rfl, (h.2.2 1 (Or.inl rfl)).1, (h.2.2 2 (Or.inr rfl)).1⟩
  | succ n ih =>
    intro f g h hf hg
    by_cases h0 : g 0 = 0
    · have e : mz (n + 1) f g = f := by rw [mz, if_pos h0]
      have e2 : eu (n + 1) (tn (f 0)) (tn (g 0)) = tn (f 0) := by rw [h0, eu, if_pos (show tn (0 : Int64) = 0 from rfl)]
      rw [e, e2]
      exact ⟨hf, rfl, (h.2.2 1 (Or.inl rfl)).1, (h.2.2 2 (Or.inr rfl)).1⟩
    · have hg0 : tn (g 0) ≠ 0 := fun e => h0 (by rw [← lN_tn (g 0), e]; rfl)
      have e : mz (n + 1) f g = mz n g (fun i => f i ^^^ cL (qL (f 0) (g 0)) (g i)) := by rw [mz, if_neg h0]
      have e2 : eu (n + 1) (tn (f 0)) (tn (g 0)) = eu n (tn (g 0)) (rst (tn (f 0)) (tn (g 0))) := by rw [eu, if_neg hg0]
      obtain ⟨s1, s2⟩ := iv_step ha hb h h0 hf hg
      have hp := bl_pos hg0
      obtain ⟨_, _, _, hm⟩ := mi_step2 h (by rw [DG_bl]; omega)
      have r := ih g (fun i => f i ^^^ cL (qL (f 0) (g 0)) (g i)) (hm _ _ (fun _ _ => rfl) (fun _ _ => rfl)) hg s1
      rw [e, e2, ← s2]
      exact r
noncomputable def DV2 (d x : Nat) : Prop := ∃ q, bl q ≤ 10 ∧ cl d q = x
theorem dv_bd {d q x : Nat} (hq : q < 2 ^ 64) (hx : bl x ≤ 10) (h : cl d q = x) : DV2 d x := by
  by_cases hd : d = 0
  · subst hd
    exact ⟨0, by rw [bl_0]; omega, by rw [← h, cl_0l, cl_0l]⟩
  by_cases h0 : q = 0
  · subst h0
    exact ⟨0, by rw [bl_0]; omega, h⟩
  have e := cl_bl hd h0 hq
  have p := bl_pos hd
  rw [h] at e
  exact ⟨q, by omega, h⟩
theorem eu_dv : ∀ n a b, bl b < n → bl a ≤ 10 → bl b ≤ 10 → DV2 (eu n a b) a ∧ DV2 (eu n a b) b := by
  intro n
  induction n with
  | zero => intro a b h; exact absurd h (Nat.not_lt_zero _)
  | succ n ih =>
    intro a b h ha hb
    by_cases h0 : b = 0
    · subst h0
      rw [eu, if_pos rfl]
      exact ⟨⟨1, by decide, cl_1 a⟩, ⟨0, by decide, cl_0r a⟩⟩
    · rw [eu, if_neg h0]
      have la : a < 2 ^ 10 := bl_le.mp ha
      have lb : b < 2 ^ 10 := bl_le.mp hb
      obtain ⟨d1, d2, d3⟩ := dm_spec (f := a) h0 (by omega) (by omega)
      have hp := bl_pos h0
      have br : bl (rst a b) ≤ bl b - 1 := bl_le.mpr d2
      have bq : bl (quo a b) ≤ bl a + 1 - bl b := bl_le.mpr d3
      obtain ⟨⟨q1, b1, e1⟩, ⟨q2, b2, e2⟩⟩ := ih b (rst a b) (by omega) (by omega) (by omega)
      refine ⟨?_, ⟨q1, b1, e1⟩⟩
      have l1 : q1 < 2 ^ 10 := bl_le.mp b1
      have l2 : q2 < 2 ^ 10 := bl_le.mp b2
      have lq : quo a b < 2 ^ 11 := bl_le.mp (by omega)
      have c := cl_ble q1 (b := quo a b) (by omega)
      have bx : bl (cl q1 (quo a b) ^^^ q2) ≤ 30 := bl_xor (by omega) (by omega)
      have lx : cl q1 (quo a b) ^^^ q2 < 2 ^ 30 := bl_le.mp bx
      refine dv_bd (q := cl q1 (quo a b) ^^^ q2) (by omega) ha ?_
      rw [cl_xr, ← cl_assoc (by omega) (by omega) (by omega), e1, e2, d1]
theorem dv_rst {d x : Nat} (hd : d ≠ 0) (hd2 : d < 2 ^ 10) (hx : x < 2 ^ 10) (h : DV2 d x) : rst x d = 0 := by
  obtain ⟨q, bq, e⟩ := h
  have lq : q < 2 ^ 10 := bl_le.mp bq
  obtain ⟨d1, d2, d3⟩ := dm_spec (f := x) hd (by omega) (by omega)
  have bx : bl x ≤ 10 := bl_le.mpr hx
  have hu : quo x d < 2 ^ 64 := Nat.lt_of_lt_of_le d3 (Nat.pow_le_pow_right (by decide) (by unfold dvu; omega))
  exact (dm_uniq hd (q2 := q) (r2 := 0) (by rw [d1, Nat.xor_zero, e]) hu (by omega) d2 (Nat.two_pow_pos _)).2
theorem gi_1 {d x : Nat} (hd2 : d < 2 ^ 10) (hx : x < 2 ^ 10) (h : DV2 d x) : F_X0_goesInto (lN d) (lN x) = some 1 := by
  by_cases hd : d = 0
  · subst hd
    obtain ⟨q, _, e⟩ := h
    rw [cl_0l] at e
    subst e
    unfold F_X0_goesInto
    rw [x0_rest0, obn_s]
    exact if_pos rfl
  · rw [x0_into hd (by omega) (by omega), dv_rst hd hd2 hx h, if_pos rfl]
    rfl
theorem cs_1 {a b : Nat} (ha : a < 512) (hb : b < 512) : ok (F_X7_isCommonSound (lN a) (lN b)) (fun r => r.1 = 1) := by
  have ba : bl a ≤ 9 := bl_le.mpr ha
  have bb : bl b ≤ 9 := bl_le.mpr hb
  have da := DG_lN (n := a) (by omega)
  have db := DG_lN (n := b) (by omega)
  obtain ⟨⟨m0, m1, m2, m3, m4, m5⟩, hr, e0, e1, e2⟩ := fx_X4_workOut (lN a) (lN b) (by omega) (by omega)
  have e0 : m0 = MZ (lN a) (lN b) 0 := e0
  have e1 : m1 = MZ (lN a) (lN b) 1 := e1
  have e2 : m2 = MZ (lN a) (lN b) 2 := e2
  have hF : IV a b (ma (lN a)) := by
    show cl a (tn (1 : Int64)) ^^^ cl b (tn (0 : Int64)) = tn (lN a)
    rw [tn_lN (by omega), show tn (1 : Int64) = 1 from rfl, show tn (0 : Int64) = 0 from rfl, cl_1, cl_0r, Nat.xor_zero]
  have hG : IV a b (mb (lN b)) := by
    show cl a (tn (0 : Int64)) ^^^ cl b (tn (1 : Int64)) = tn (lN b)
    rw [tn_lN (by omega), show tn (1 : Int64) = 1 from rfl, show tn (0 : Int64) = 0 from rfl, cl_1, cl_0r, Nat.zero_xor]
  obtain ⟨iv, ee, d1, d2⟩ := mz_all ha hb 64 (ma (lN a)) (mb (lN b)) (ma_mi (by omega) (by omega)) hF hG
  have ee : tn m0 = co a b := by
    rw [e0]
    refine Eq.trans ee ?_
    show eu 64 (tn (lN a)) (tn (lN b)) = co a b
    rw [tn_lN (by omega), tn_lN (by omega), co]
  have iv : cl a (tn m1) ^^^ cl b (tn m2) = tn m0 := by rw [e0, e1, e2]; exact iv
  have d1 : DG m1 ≤ 39 := by rw [e1]; exact d1
  have d2 : DG m2 ≤ 39 := by rw [e2]; exact d2
  have t1 : tn m1 < 2 ^ 40 := tn_lt (by omega)
  have t2 : tn m2 < 2 ^ 40 := tn_lt (by omega)
  have p1 : F_X0_multiplied (lN a) m1 = some (lN (cl a (tn m1))) := by
    have h := x0_mul (a := a) (b := tn m1) (by omega)
    rw [lN_tn] at h
    exact h
  have p2 : F_X0_multiplied (lN b) m2 = some (lN (cl b (tn m2))) := by
    have h := x0_mul (a := b) (b := tn m2) (by omega)
    rw [lN_tn] at h
    exact h
  obtain ⟨v1, v2⟩ := eu_dv 64 a b (by omega) (by omega) (by omega)
  have v1 : DV2 (co a b) a := v1
  have v2 : DV2 (co a b) b := v2
  have bc : co a b < 2 ^ 10 := by
    by_cases h0 : co a b = 0
    · rw [h0]; decide
    · obtain ⟨q, bq, e⟩ := v1
      obtain ⟨q', bq', e'⟩ := v2
      refine bl_le.mp ?_
      by_cases hq : q = 0
      · by_cases hq' : q' = 0
        · subst hq; subst hq'
          rw [cl_0r] at e e'
          subst e; subst e'
          exact absurd (show co 0 0 = 0 from rfl) h0
        · have l9 : q' < 2 ^ 10 := bl_le.mp bq'
          have e9 := cl_bl h0 hq' (by omega)
          have p9 := bl_pos hq'
          rw [e'] at e9
          omega
      · have l9 : q < 2 ^ 10 := bl_le.mp bq
        have e9 := cl_bl h0 hq (by omega)
        have p9 := bl_pos hq
        rw [e] at e9
        omega
  unfold F_X7_isCommonSound
  rw [x0_gcd (by omega) (by omega), obn_s, hr, obn6_some, p1, obn_s, p2, obn_s, bnd_s, gi_1 bc (by omega) v1, obn_s, if_neg (by decide), gi_1 bc (by omega) v2, obn_s, if_neg (by decide), if_pos (by rw [lN_xor, iv, ee])]
  exact ok_s rfl
theorem sa_1 (s : Int32) (f g : Nat → Int64) (h0 : 0 ≤ s.toInt) (h2 : s.toInt ≤ 12) (he : ∀ j, j < s.toInt.toNat → f j = g j) : ok (F_X3_isSameAs s f s g) (fun r => r = 1) := by
  obtain ⟨m, hm, rfl⟩ := i_of (n := 12) h0 h2
  have e : (nI m).toInt.toNat = m := by rw [nI_toInt (by omega)]; rfl
  rw [e] at he
  unfold F_X3_isSameAs
  rw [if_pos rfl]
  refine ok_L1 (fun y => ∃ a, a ≤ m ∧ y = nI a) (fun y => (20 - y.toInt).toNat) (fun ih y hI hih => ?_) 20000 _ ⟨0, by omega, rfl⟩ (by decide)
  obtain ⟨a, h3, rfl⟩ := hI
  unfold S_X3_isSameAs_15
  by_cases h : m ≤ a
  · rw [if_pos (nI_le h (by omega))]
    exact ok_s rfl
  · rw [if_neg (nI_ge (by omega) (by omega))]
    refine ok_c (ix_12 (by omega)) (ok_c (ix_12 (by omega)) ?_)
    rw [cl_i (by omega), if_pos (he a (by omega))]
    refine ok_bx (fun y2 ey => ?_)
    have ey : y2 = nI (a + 1) := by first | exact ey | rw [ey, nI_p1']
    subst ey
    exact hih _ ⟨a + 1, by omega, rfl⟩ (by rw [nI_toInt (by omega), nI_toInt (by omega)]; omega)
noncomputable def PDf (F : Nat → Int64) : Nat → Nat → Int64 → Int64
  | 0, _, c => c
  | n + 1, i, c => PDf F n (i + 1) (cL c (F i))
theorem PDf_s (F : Nat → Int64) : ∀ n i c, PDf F (n + 1) i c = cL (PDf F n i c) (F (i + n)) := by
  intro n
  induction n with
  | zero => intro i c; rfl
  | succ n ih =>
    intro i c
    show PDf F (n + 1) (i + 1) (cL c (F i)) = cL (PDf F n (i + 1) (cL c (F i))) (F (i + (n + 1)))
    rw [ih, show i + 1 + n = i + (n + 1) by omega]
theorem PDn_f (F : Nat → Int64) : ∀ n, PDn F n = PDf F n 0 1 := by
  intro n
  induction n with
  | zero => rfl
  | succ n ih => rw [PDf_s, Nat.zero_add, ← ih, PDn]
theorem PDf_fct (F : Nat → Int64) : ∀ k l, bl l ≤ k → l < 2048 → l ≠ 0 → ∀ i c, bl c + bl l ≤ 24 → (∀ t, t < (fct l).length → F (i + t) = lN ((fct l).getD t 0)) → PDf F (fct l).length i (lN c) = lN (cl c l) := by
  intro k
  induction k with
  | zero => intro l h _ h0; have := bl_pos h0; omega
  | succ k ih =>
    intro l hk hl h0 i c hc hF
    by_cases h1 : l = 1
    · subst h1
      rw [fct_1, cl_1]
      rfl
    · have h2 : 2 ≤ l := by omega
      obtain ⟨p1, p2, p3⟩ := lp_dv h2 hl
      rw [fct_s h2 hl] at hF ⊢
      obtain ⟨d1, d2, d3⟩ := dm_spec (f := l) (b := lpT l) (by omega) (by omega) (by omega)
      rw [p3, Nat.xor_zero] at d1
      have q0 : quo l (lpT l) ≠ 0 := fun e => by rw [e, cl_0r] at d1; omega
      have lq : quo l (lpT l) < 2 ^ 64 := Nat.lt_of_lt_of_le d3 (Nat.pow_le_pow_right (by decide) (by unfold dvu; have : bl l ≤ 11 := bl_le.mpr hl; omega))
      have e9 := cl_bl (a := lpT l) (by omega) q0 lq
      rw [d1] at e9
      have bp : 1 < bl (lpT l) := bl_gt.mpr p1
      have bq := bl_pos q0
      have bl2 : bl l ≤ 11 := bl_le.mpr hl
      have lq2 : quo l (lpT l) < 2 ^ 10 := bl_le.mp (by omega)
      have c0 : c < 2 ^ 24 := bl_le.mp (by omega)
      have f0 : F i = lN (lpT l) := hF 0 (by rw [List.length_cons]; omega)
      have b9 := cl_ble c (b := lpT l) (by omega)
      show PDf F (fct (quo l (lpT l))).length (i + 1) (cL (lN c) (F i)) = lN (cl c l)
      rw [f0, cL, tn_lN (by omega), tn_lN (by omega), ih (quo l (lpT l)) (by omega) (by omega) q0 (i + 1) (cl c (lpT l)) (by omega) (fun t ht => ?_), cl_assoc (by omega) (by omega) (by omega), d1]
      have h9 := hF (t + 1) (by rw [List.length_cons]; omega)
      rw [show i + 1 + t = i + (t + 1) by omega, h9]
      rfl
theorem ma_1 (m : Nat) (f : Nat → Int64) (hm : m ≤ 12) (hf : ∀ j, j < m → 0 ≤ DG (f j) ∧ DG (f j) ≤ 39) : ok (F_X3_multipliedAll (nI m) f) (fun r => r = PDn f m) := by
  unfold F_X3_multipliedAll
  have e : (nI m).toInt.toNat = m := by rw [nI_toInt (by omega)]; rfl
  refine ok_o (fx_X3_hasEmpty (nI m) f (by rw [nI_toInt (by omega)]; omega) (by rw [nI_toInt (by omega)]; omega)) (fun r hr => ?_)
  rw [e] at hr
  rcases hr with ⟨h1, h3⟩ | ⟨h1, j, hj, h3⟩
  · rw [if_pos (Int32.toInt_inj.mp (by rw [h1]; rfl))]
    refine ok_L2 (fun c y => ∃ a, a ≤ m ∧ y = nI a ∧ c = PDn f a) (fun _ y => (20 - y.toInt).toNat) (fun ih c y hI hih => ?_) 20000 _ _ ⟨0, by omega, rfl, rfl⟩ (by decide)
    obtain ⟨a, h4, rfl, rfl⟩ := hI
    unfold S_X3_multipliedAll_13
    by_cases h : m ≤ a
    · rw [if_pos (nI_le h (by omega))]
      have : a = m := by omega
      subst this
      exact ok_s rfl
    · rw [if_neg (nI_ge (by omega) (by omega))]
      refine ok_c (ix_12 (by omega)) ?_
      rw [cl_i (by omega)]
      have hfa := hf a (by omega)
      refine ok_o (fx_X0_multiplied (PDn f a) (f a) (by omega)) (fun r hr => ok_bx (fun y2 ey => ?_))
      have ey : y2 = nI (a + 1) := by first | exact ey | rw [ey, nI_p1']
      subst ey
      exact hih _ _ ⟨a + 1, by omega, rfl, hr⟩ (by rw [nI_toInt (by omega), nI_toInt (by omega)]; omega)
  · have := hf j hj
    omega
theorem wheel_1 : ∀ n, n < 512 → n % 2 = 1 → 2 ≤ bl n → F_X6_isWheel (lN n) = some 1 := by decide +kernel
theorem dgI_1 : ∀ k, k < 10 → ((1 : Int32) ≤ nI k - 1 ↔ 2 ≤ k) := by decide +kernel
theorem so_1 (fo : Nat → Int64) (tp a1 a2 a3 a4 a5 a6 : Int64) (ps : Int32) (ph : Nat → Int64) (fs : Int32) (fh : Nat → Int64) (os : Int32) (oh ob : Nat → Int64) (h1 : WT tp) (h2 : 0 ≤ ps.toInt) (h3 : ps.toInt ≤ 12) : ok (F_X7_isSound fo tp a1 a2 a3 a4 a5 a6 ps ph fs fh os oh ob) (fun r => r.1 = 1) := by
  obtain ⟨a, ha, ea⟩ := and511 (fo (0 : Int32).toNatClampNeg)
  obtain ⟨b, hb, eb⟩ := and511 (fo (1 : Int32).toNatClampNeg)
  obtain ⟨w, w9, w2, w1, rfl⟩ := h1
  obtain ⟨⟨c0, c1, c2, c3, c4, c5, c6⟩, hr, e0⟩ := cs_1 ha hb
  have e0 : c0 = 1 := e0
  subst e0
  have ba : bl a ≤ 9 := bl_le.mpr ha
  unfold F_X7_isSound
  rw [bnd_s, bnd_s, ea, eb, ps_1 ha hb, obn_s, if_neg (by decide), hr, obn7_some, if_neg (by decide), wheel_1 w w9 w1 w2, obn_s, if_neg (by decide), x0_deg (by omega), obn_s]
  by_cases hd : (1 : Int32) ≤ dgI a
  · rw [if_pos hd]
    have b2 : 2 ≤ bl a := (dgI_1 (bl a) (by omega)).mp hd
    have da := DG_lN (n := a) (by omega)
    obtain ⟨n, en, en2, _, _, x1, _, _, _, x5, x6, x7, x8⟩ := fac_x (x := lN a) (by omega) (by omega)
    have ean : n = a := by rw [← en2, tn_lN (by omega)]
    subst ean
    have t := tr_is fh x1
    rw [x7] at t x5 x6 x8
    rw [t, obn2_s]
    obtain ⟨⟨d0, d1, d2, d3⟩, hD, f2, f3, f4, f5⟩ := fx_X1_findByDegrees ps ph oh (lN n) (by omega) (by omega) h2 h3
    have f2 : d2 = fN (lN n) := f2
    have f3 : d3 = upl oh (fB (lN n)) := f3
    rw [fN, x7] at f2
    subst f2; subst f3
    have sz : (nI (fct n).length).toInt = ((fct n).length : Int) := nI_toInt (by omega)
    have szn : (nI (fct n).length).toInt.toNat = (fct n).length := by omega
    obtain ⟨⟨g0, g1, g2⟩, hg, g3, g4⟩ := fx_X3_arrange (nI (fct n).length) (upl oh (fB (lN n))) ob 0 (by omega) (by omega)
    have g4 : g1 = SRT 0 (upl oh (fB (lN n))) (nI (fct n).length).toInt.toNat := g4
    have fr := (fac_row 0 oh (x := lN n) (by omega) (by omega)).2
    rw [x7] at fr
    rw [szn, fr, fA, x7] at g4
    subst g4
    obtain ⟨s, hs, es⟩ := sa_1 (nI (fct n).length) (upl fh (fct n)) (upl oh (fct n)) (by omega) (by omega) (fun j hj => by rw [szn] at hj; rw [upl, upl, if_pos hj, if_pos hj])
    subst es
    have hin : ∀ j, j < (fct n).length → upl fh (fct n) j = lN ((fct n).getD j 0) := fun j hj => if_pos hj
    obtain ⟨m, hm, em⟩ := ma_1 (fct n).length (upl fh (fct n)) (by omega) (fun j hj => by
      rw [hin j hj]
      have q := x8 j hj
      have q1 := DG_lN (n := (fct n).getD j 0) (by omega)
      have q2 : 1 < bl ((fct n).getD j 0) := bl_gt.mpr (by omega)
      have q3 : bl ((fct n).getD j 0) ≤ 11 := bl_le.mpr (by omega)
      omega)
    have em2 : m = lN n := by
      rw [em, PDn_f]
      have b1 : bl 1 = 1 := by decide
      have h := PDf_fct (upl fh (fct n)) 9 n ba (by omega) (by intro e; subst e; rw [bl_0] at b2; omega) 0 1 (by omega) (fun t ht => by rw [Nat.zero_add]; exact hin t ht)
      rw [cl_1l (by omega)] at h
      exact h
    subst em2
    rw [hD, obn4_some, hg, obn3_s, hs, obn_s, if_neg (by decide), hm, obn_s, if_pos rfl]
    refine ok_o (fx_X6_isWheel (lN n) (by omega)) (fun r hr => ?_)
    by_cases hr0 : r = 0
    · rw [if_pos hr0]
      exact ok_s rfl
    · rw [if_neg hr0]
      have hw := hr.2.1 (fun e => hr0 (Int32.toInt_inj.mp (by rw [e]; rfl)))
      refine ok_o (fx_X6_periodByMultiplying (lN n) hw) (fun r1 hr1 => ?_)
      refine ok_o3 (fx_X7_periodByFactors (upl fh (fct n)) (lN n) hw) (fun r2 r3 r4 hr2 => ?_)
      rw [hr1, if_pos (by have q : r2 = PE (lN n) := hr2.1
                          rw [q])]
      exact ok_s rfl
  · rw [if_neg hd]
    exact ok_s rfl
theorem s7_isSound (fo : Nat → Int64) (ta : Int64) (ce : Int32) (a1 a2 a3 a4 a5 a6 : Int64) (ps : Int32) (ph : Nat → Int64) (fs : Int32) (fh : Nat → Int64) (os : Int32) (oh ob : Nat → Int64) (hp0 : CT ta ce) (h1 : 0 ≤ ps.toInt) (h2 : ps.toInt ≤ 12) (h3 : 0 ≤ fs.toInt) (h4 : fs.toInt ≤ 12) (h5 : 0 ≤ os.toInt) (h6 : os.toInt ≤ 12) : ok (F_X7_isSound fo ta a1 a2 a3 a4 a5 a6 ps ph fs fh os oh ob) (fun r => ok F_X9_isSound (fun q => r.1 = q.1 ∧ 0 ≤ r.2.2.2.2.2.2.2.1.toInt ∧ r.2.2.2.2.2.2.2.1.toInt ≤ 12 ∧ 0 ≤ r.2.2.2.2.2.2.2.2.2.1.toInt ∧ r.2.2.2.2.2.2.2.2.2.1.toInt ≤ 12 ∧ 0 ≤ r.2.2.2.2.2.2.2.2.2.2.2.1.toInt ∧ r.2.2.2.2.2.2.2.2.2.2.2.1.toInt ≤ 12)) := by
  obtain ⟨w, x, w9, w2, w1, rfl, hx, rfl⟩ := hp0
  obtain ⟨r, hr, e⟩ := so_1 fo (lN w) a1 a2 a3 a4 a5 a6 ps ph fs fh os oh ob ⟨w, w9, w2, w1, rfl⟩ h1 h2
  obtain ⟨r', hr', hb⟩ := sp_X7_isSound fo (lN w) a1 a2 a3 a4 a5 a6 ps ph fs fh os oh ob h1 h2 h3 h4 h5 h6
  have er := Option.some.inj (hr'.symm.trans hr)
  subst er
  exact ⟨r', hr, ⟨_, rfl, e, hb.2⟩⟩
