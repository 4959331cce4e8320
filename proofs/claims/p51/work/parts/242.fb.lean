/-! S5. factors by degrees: the parts -/
noncomputable def ptI (d j before : Nat) : Nat → Nat → List Nat → Option (List Nat)
  | 0, _, _ => none
  | F + 1, k, P => if before ≤ k then some P else
      if k < P.length ∧ P.length < 12 ∧ P.getD k 0 ≠ 0 ∧ P.getD k 0 < 2048 then
        (if tcM (P.getD k 0) (d - 1) (rst (2 ^ j) (P.getD k 0)) (rst (2 ^ j) (P.getD k 0)) < 2048 then
          (if co (P.getD k 0) (tcM (P.getD k 0) (d - 1) (rst (2 ^ j) (P.getD k 0)) (rst (2 ^ j) (P.getD k 0))) = 1 then ptI d j before F (k + 1) P
          else if co (P.getD k 0) (tcM (P.getD k 0) (d - 1) (rst (2 ^ j) (P.getD k 0)) (rst (2 ^ j) (P.getD k 0))) = P.getD k 0 then ptI d j before F (k + 1) P
          else if co (P.getD k 0) (tcM (P.getD k 0) (d - 1) (rst (2 ^ j) (P.getD k 0)) (rst (2 ^ j) (P.getD k 0))) ≠ 0 ∧ co (P.getD k 0) (tcM (P.getD k 0) (d - 1) (rst (2 ^ j) (P.getD k 0)) (rst (2 ^ j) (P.getD k 0))) < 2048 then
            ptI d j before F (k + 1) (P.set k (co (P.getD k 0) (tcM (P.getD k 0) (d - 1) (rst (2 ^ j) (P.getD k 0)) (rst (2 ^ j) (P.getD k 0)))) ++ [quo (P.getD k 0) (co (P.getD k 0) (tcM (P.getD k 0) (d - 1) (rst (2 ^ j) (P.getD k 0)) (rst (2 ^ j) (P.getD k 0))))])
          else none)
        else none)
      else none
theorem at_is {f : Nat → Int64} {P : List Nat} {k : Nat} (h : k < P.length) (h12 : P.length ≤ 12) : F_X3_at (nI P.length) (upl f P) (nI k) = some (lN (P.getD k 0)) := by
  unfold F_X3_at chk
  rw [if_neg (nI_pos (by omega)), if_pos ((nI_ltI (by omega) (by omega)).mpr h), if_pos (ix_12 (by omega)), cl_i (by omega), upl_at h]
theorem put_is {f : Nat → Int64} {P : List Nat} {k v : Nat} (h : k < P.length) (h12 : P.length ≤ 12) : F_X3_put (nI P.length) (upl f P) (nI k) (lN v) = some (upl f (P.set k v)) := by
  unfold F_X3_put chk
  rw [if_neg (nI_pos (by omega)), if_neg (nI_ge (by omega) (by omega)), if_pos (ix_12 (by omega)), cl_i (by omega), upl_set h]
  rfl
theorem lN_e {a b : Nat} (ha : a < 2 ^ 31) (hb : b < 2 ^ 31) : (lN a = lN b) = (a = b) := propext (lN_eq ha hb)
theorem eu_lt : ∀ f a b, a < 2 ^ 40 → b < 2 ^ 40 → eu f a b < 2 ^ 40 := by
  intro f
  induction f with
  | zero => intro a b ha _; exact ha
  | succ f ih =>
    intro a b ha hb
    rw [eu]
    by_cases h : b = 0
    · rw [if_pos h]; exact ha
    · rw [if_neg h]
      have r := rst_bl (f := a) h (by omega) (show b < 2 ^ 62 by omega)
      have h2 : bl a ≤ 40 := bl_le.mpr ha
      exact ih b (rst a b) hb (bl_le.mp (by omega))
/-- the greatest of both is not above the first one's degree, if that one isn't empty -/
theorem ptI_l {d j before : Nat} (hd : d ≤ 10) (hd1 : 1 ≤ d) (hj : j ≤ 20) (hbf : before ≤ 12) (K : Int32 → (Nat → Int64) → Option (Int32 × (Nat → Int64))) (f : Nat → Int64) : ∀ F k P n R, ptI d j before F k P = some R → F < n → k ≤ 12 → LQ3 (S_X1_partByTraces_50 (nI d) (nI j) (nI before) K) n (nI k) (nI P.length) (upl f P) = K (nI R.length) (upl f R) := by
  intro F
  induction F with
  | zero => intro k P n R h; cases h
  | succ F ih =>
    intro k P n R h hn hk
    obtain ⟨n, rfl⟩ : ∃ m, n = m + 1 := ⟨n - 1, by omega⟩
    rw [ptI] at h
    show S_X1_partByTraces_50 _ _ _ K (LQ3 (S_X1_partByTraces_50 (nI d) (nI j) (nI before) K) n) _ _ _ = _
    unfold S_X1_partByTraces_50
    by_cases h1 : before ≤ k
    · rw [if_pos h1] at h
      rw [if_pos (nI_le h1 (by omega)), Option.some.inj h]
    · rw [if_neg h1] at h
      rw [if_neg (nI_ge (by omega) (by omega))]
      by_cases hc : k < P.length ∧ P.length < 12 ∧ P.getD k 0 ≠ 0 ∧ P.getD k 0 < 2048
      · rw [if_pos hc] at h
        obtain ⟨c1, c2, c3, c4⟩ := hc
        rw [at_is c1 (by omega), obn_s]
        generalize P.getD k 0 = p at *
        rw [tc_is c3 c4 hd hd1 hj, obn_s]
        generalize tcM p (d - 1) (rst (2 ^ j) p) (rst (2 ^ j) p) = t at *
        by_cases ht : t < 2048
        · rw [if_pos ht] at h
          rw [x0_gcd (by omega) (by omega), obn_s]
          have hg : co p t < 2 ^ 40 := eu_lt 64 p t (by omega) (by omega)
          generalize co p t = c at *
          have nx : ptI d j before F (k + 1) P = some R → J_X1_partByTraces_123 (LQ3 (S_X1_partByTraces_50 (nI d) (nI j) (nI before) K) n) (nI k) (nI P.length) (upl f P) = K (nI R.length) (upl f R) := by
            intro h9
            unfold J_X1_partByTraces_123
            rw [bnd_s, nI_p1']
            exact ih (k + 1) P n R h9 (by omega) (by omega)
          have e1 : (lN c = (1 : Int64)) ↔ c = 1 := by
            constructor
            · intro h9
              have e := congrArg (fun q : Int64 => q.toBitVec.toNat) h9
              simp only [wb_tn (show c < 2 ^ 64 by omega)] at e
              exact e
            · intro h9; rw [h9]; rfl
          have e2 : (lN c = lN p) ↔ c = p := by
            constructor
            · intro h9
              have e := congrArg (fun q : Int64 => q.toBitVec.toNat) h9
              simp only [wb_tn (show c < 2 ^ 64 by omega), wb_tn (show p < 2 ^ 64 by omega)] at e
              exact e
            · intro h9; rw [h9]
          by_cases h2 : c = 1
          · rw [if_pos h2] at h
            rw [if_pos (e1.mpr h2)]
            exact nx h
          · rw [if_neg h2] at h
            rw [if_neg (fun h9 => h2 (e1.mp h9))]
            by_cases h3 : c = p
            · rw [if_pos h3] at h
              rw [if_pos (e2.mpr h3)]
              exact nx h
            · rw [if_neg h3] at h
              rw [if_neg (fun h9 => h3 (e2.mp h9))]
              by_cases h4 : c ≠ 0 ∧ c < 2048
              · rw [if_pos h4] at h
                rw [put_is c1 (by omega), obn_s, x0_quo h4.1 (by omega) (by omega), obn_s]
                have el : (P.set k c).length = P.length := List.length_set
                have ea := app_is (upl f (P.set k c)) (lN (quo p c)) c2
                rw [ea, obn2_s]
                have eu2 := upl_snoc f (P.set k c) (quo p c)
                rw [el] at eu2
                rw [eu2]
                unfold J_X1_partByTraces_123
                rw [bnd_s, nI_p1']
                have i2 := ih (k + 1) (P.set k c ++ [quo p c]) n R h (by omega) (by omega)
                rw [len_snoc, el] at i2
                exact i2
              · rw [if_neg h4] at h; cases h
        · rw [if_neg ht] at h; cases h
      · rw [if_neg hc] at h; cases h
noncomputable def ptO (d g : Nat) : Nat → Nat → List Nat → Option (List Nat)
  | 0, _, _ => none
  | F + 1, j, P => if g ≤ j then some P else
      if P.length ≤ 12 then match ptI d j P.length 20 0 P with
        | none => none
        | some P2 => ptO d g F (j + 1) P2
      else none
theorem ptO_l {d g : Nat} (hd : d ≤ 10) (hd1 : 1 ≤ d) (hg : g ≤ 11) (f : Nat → Int64) : ∀ F j P n R, ptO d g F j P = some R → F < n → j ≤ 11 → LQ3 (S_X1_partByTraces_31 (nI d) (nI g) (fun a b => some (a, b))) n (nI j) (nI P.length) (upl f P) = some (nI R.length, upl f R) := by
  intro F
  induction F with
  | zero => intro j P n R h; cases h
  | succ F ih =>
    intro j P n R h hn hj
    obtain ⟨n, rfl⟩ : ∃ m, n = m + 1 := ⟨n - 1, by omega⟩
    rw [ptO] at h
    show S_X1_partByTraces_31 _ _ _ (LQ3 (S_X1_partByTraces_31 (nI d) (nI g) (fun a b => some (a, b))) n) _ _ _ = _
    unfold S_X1_partByTraces_31
    by_cases h1 : g ≤ j
    · rw [if_pos h1] at h
      rw [if_pos (nI_le h1 (by omega)), Option.some.inj h]
    · rw [if_neg h1] at h
      rw [if_neg (nI_ge (by omega) (by omega))]
      by_cases hc : P.length ≤ 12
      · rw [if_pos hc] at h
        cases hp : ptI d j P.length 20 0 P with
        | none => rw [hp] at h; cases h
        | some P2 =>
          rw [hp] at h
          have h : ptO d g F (j + 1) P2 = some R := h
          have e := ptI_l hd hd1 (show j ≤ 20 by omega) hc (fun a b => bnd (nI j + 1) (fun x5_129 => LQ3 (S_X1_partByTraces_31 (nI d) (nI g) (fun a b => some (a, b))) n x5_129 a b)) f 20 0 P 20000 P2 hp (by decide) (by decide)
          refine Eq.trans e ?_
          rw [bnd_s, nI_p1']
          exact ih (j + 1) P2 n R h (by omega) (by omega)
      · rw [if_neg hc] at h; cases h
noncomputable def ptM (u d : Nat) : Option (List Nat) := if d + 1 ≤ bl u then ptO d (bl u - 1) 13 0 [u] else some []
theorem pt_is {u d : Nat} {R : List Nat} (f : Nat → Int64) (hu : u < 2048) (hd : d ≤ 10) (hd1 : 1 ≤ d) (h : ptM u d = some R) : ∃ g, F_X1_partByTraces f (lN u) (nI d) = some (nI R.length, upl g R) := by
  have hb : bl u ≤ 11 := bl_le.mpr (by omega)
  unfold ptM at h
  unfold F_X1_partByTraces F_X3_removeAll
  rw [obn_s, x0_deg (by omega), obn_s]
  by_cases h1 : d + 1 ≤ bl u
  · rw [if_pos h1] at h
    have hu0 : u ≠ 0 := fun e => by subst e; rw [bl_0] at h1; omega
    refine ⟨f, ?_⟩
    rw [if_pos (show nI d ≤ dgI u from by rw [Int32.le_iff_toInt_le, dgI_T (by omega), nI_toInt (by omega)]; omega)]
    have ea := app_is f (lN u) (show 0 < 12 by decide)
    have ea : F_X3_append (0 : Int32) f (lN u) = some (nI 1, vp_updL f 0 (lN u)) := ea
    rw [ea, obn2_s, dgI_p hu0]
    have e := ptO_l hd hd1 (show bl u - 1 ≤ 11 by omega) f 13 0 [u] 20000 R h (by decide) (by decide)
    have eu2 := upl_snoc f [] u
    rw [upl_nil] at eu2
    have eu2 : vp_updL f 0 (lN u) = upl f [u] := eu2
    rw [eu2]
    exact e
  · rw [if_neg h1] at h
    refine ⟨f, ?_⟩
    rw [if_neg (show ¬ nI d ≤ dgI u from fun h9 => by rw [Int32.le_iff_toInt_le, dgI_T (by omega), nI_toInt (by omega)] at h9; omega), ← Option.some.inj h, upl_nil]
    rfl
noncomputable def doM (b : Nat) : Nat → Nat → List Nat → Option (Nat × List Nat)
  | 0, l, L => some (l, L)
  | u + 1, l, L => if l < 2048 ∧ L.length < 12 then (if rst l b = 0 then doM b u (quo l b) (L ++ [b]) else some (l, L)) else none
theorem do_l {b : Nat} (hb : b ≠ 0) (h : b < 2048) (f : Nat → Int64) : ∀ u k l L n R, doM b u l L = some R → k + u = 10 → u < n → LQ4 (S_X1_dividedOut_6 (lN b) (fun a c e => some (a, c, e))) n (lN l) (nI k) (nI L.length) (upl f L) = some (lN R.1, nI R.2.length, upl f R.2) := by
  intro u
  induction u with
  | zero =>
    intro k l L n R hR hk hn
    obtain ⟨n, rfl⟩ : ∃ m, n = m + 1 := ⟨n - 1, by omega⟩
    show S_X1_dividedOut_6 _ _ _ _ _ _ _ = _
    unfold S_X1_dividedOut_6
    rw [doM] at hR
    rw [if_pos (show (10 : Int32) ≤ nI k from nI_le (a := 10) (by omega) (by omega)), ← Option.some.inj hR]
  | succ u ih =>
    intro k l L n R hR hk hn
    obtain ⟨n, rfl⟩ : ∃ m, n = m + 1 := ⟨n - 1, by omega⟩
    show S_X1_dividedOut_6 _ _ (LQ4 (S_X1_dividedOut_6 (lN b) (fun a c e => some (a, c, e))) n) _ _ _ _ = _
    unfold S_X1_dividedOut_6
    rw [doM] at hR
    rw [if_neg (show ¬ (10 : Int32) ≤ nI k from nI_ge (b := 10) (by omega) (by omega))]
    by_cases hc : l < 2048 ∧ L.length < 12
    · rw [if_pos hc] at hR
      rw [x0_into hb (by omega) (by omega), obn_s]
      by_cases h3 : rst l b = 0
      · rw [if_pos h3] at hR
        rw [if_pos h3, if_neg one_1, app_is _ _ hc.2, obn2_s, x0_quo hb (by omega) (by omega), obn_s, bnd_s, upl_snoc, nI_p1']
        have i2 := ih (k + 1) (quo l b) (L ++ [b]) n R hR (by omega) (by omega)
        rw [len_snoc] at i2
        exact i2
      · rw [if_neg h3] at hR
        rw [if_neg h3, if_pos one_0, ← Option.some.inj hR]
    · rw [if_neg hc] at hR; cases hR
noncomputable def d5M (P : List Nat) : Nat → Nat → Nat → List Nat → Option (Nat × List Nat)
  | 0, _, l, L => some (l, L)
  | u + 1, k, l, L => if P.getD k 0 ≠ 0 ∧ P.getD k 0 < 2048 then match doM (P.getD k 0) 10 l L with
      | none => none
      | some R => d5M P u (k + 1) R.1 R.2
    else none
theorem d5_l {P : List Nat} (hP : P.length ≤ 12) (g : Nat → Int64) (K : Int64 → Int32 → (Nat → Int64) → Option (Int32 × (Nat → Int64) × Int32 × (Nat → Int64))) (f : Nat → Int64) : ∀ u k l L n R, d5M P u k l L = some R → k + u = P.length → u < n → LQ4 (S_X1_findByDegrees_54 (nI P.length) (upl g P) K) n (lN l) (nI k) (nI L.length) (upl f L) = K (lN R.1) (nI R.2.length) (upl f R.2) := by
  intro u
  induction u with
  | zero =>
    intro k l L n R hR hk hn
    obtain ⟨n, rfl⟩ : ∃ m, n = m + 1 := ⟨n - 1, by omega⟩
    show S_X1_findByDegrees_54 _ _ K _ _ _ _ _ = _
    unfold S_X1_findByDegrees_54
    rw [d5M] at hR
    rw [if_pos (nI_le (by omega) (by omega)), ← Option.some.inj hR]
  | succ u ih =>
    intro k l L n R hR hk hn
    obtain ⟨n, rfl⟩ : ∃ m, n = m + 1 := ⟨n - 1, by omega⟩
    show S_X1_findByDegrees_54 _ _ K (LQ4 (S_X1_findByDegrees_54 (nI P.length) (upl g P) K) n) _ _ _ _ = _
    unfold S_X1_findByDegrees_54
    rw [d5M] at hR
    rw [if_neg (nI_ge (by omega) (by omega)), at_is (by omega) hP, obn_s]
    by_cases hc : P.getD k 0 ≠ 0 ∧ P.getD k 0 < 2048
    · rw [if_pos hc] at hR
      cases hd : doM (P.getD k 0) 10 l L with
      | none => rw [hd] at hR; cases hR
      | some R1 =>
        rw [hd] at hR
        have hR : d5M P u (k + 1) R1.1 R1.2 = some R := hR
        have e := do_l hc.1 hc.2 f 10 0 l L 20000 R1 hd (by decide) (by decide)
        have e : F_X1_dividedOut (nI L.length) (upl f L) (lN l) (lN (P.getD k 0)) = some (lN R1.1, nI R1.2.length, upl f R1.2) := e
        rw [e, obn3_s, bnd_s, nI_p1']
        exact ih (k + 1) R1.1 R1.2 n R hR (by omega) (by omega)
    · rw [if_neg hc] at hR; cases hR
noncomputable def dgM : Nat → Nat → Nat → List Nat → Option (List Nat)
  | 0, _, _, L => some L
  | u + 1, d, l, L => if l < 2048 then
      (if bl l ≤ 1 then some L else
        if co l (rsM l d ^^^ 2) < 2048 then match ptM (co l (rsM l d ^^^ 2)) d with
          | none => none
          | some P => if P.length ≤ 12 then match d5M P P.length 0 l L with
              | none => none
              | some R => dgM u (d + 1) R.1 R.2
            else none
        else none)
    else none
theorem dg_l {Q : Int32 × (Nat → Int64) × Int32 × (Nat → Int64) → Prop} (K : Int32 → (Nat → Int64) → Int32 → (Nat → Int64) → Option (Int32 × (Nat → Int64) × Int32 × (Nat → Int64))) (f : Nat → Int64) : ∀ u d l L n R (c : Int32) (h : Nat → Int64), dgM u d l L = some R → d + u = 11 → 1 ≤ d → u < n → (0 ≤ c.toInt ∧ c.toInt ≤ 12) → (∀ c h, 0 ≤ c.toInt ∧ c.toInt ≤ 12 → ok (K c h (nI R.length) (upl f R)) Q) → ok (LQ6 (S_X1_findByDegrees_10 K) n (lN l) (nI d) c h (nI L.length) (upl f L)) Q := by
  intro u
  induction u with
  | zero =>
    intro d l L n R c h hR hd h1 hn hc hK
    obtain ⟨n, rfl⟩ : ∃ m, n = m + 1 := ⟨n - 1, by omega⟩
    show ok (S_X1_findByDegrees_10 K _ _ _ _ _ _ _) Q
    unfold S_X1_findByDegrees_10
    rw [dgM] at hR
    rw [if_pos (show (10 : Int32) < nI d from (nI_ltI (a := 10) (by omega) (by omega)).mpr (by omega)), Option.some.inj hR]
    exact hK c h hc
  | succ u ih =>
    intro d l L n R c h hR hd h1 hn hc hK
    obtain ⟨n, rfl⟩ : ∃ m, n = m + 1 := ⟨n - 1, by omega⟩
    show ok (S_X1_findByDegrees_10 K (LQ6 (S_X1_findByDegrees_10 K) n) _ _ _ _ _ _) Q
    unfold S_X1_findByDegrees_10
    rw [dgM] at hR
    rw [if_neg (show ¬ (10 : Int32) < nI d from fun h9 => by have := (nI_ltI (a := 10) (by omega) (by omega)).mp h9; omega)]
    by_cases hl : l < 2048
    · rw [if_pos hl] at hR
      rw [x0_deg (by omega), obn_s]
      by_cases h2 : bl l ≤ 1
      · rw [if_pos h2] at hR
        rw [if_pos ((td_0 (by omega)).mpr h2), Option.some.inj hR]
        exact hK c h hc
      · rw [if_neg h2] at hR
        have l0 := bl_ne h2
        have hr := rs_lt l0 hl d
        have hx : rsM l d ^^^ 2 < 2048 := Nat.xor_lt_two_pow (n := 11) (by omega) (by decide)
        rw [if_neg (fun h9 => h2 ((td_0 (by omega)).mp h9)), rs_is l0 hl (by omega), obn_s, show (2 : Int64) = lN 2 from rfl, lN_xor, x0_gcd (by omega) (by omega), obn_s]
        by_cases h3 : co l (rsM l d ^^^ 2) < 2048
        · rw [if_pos h3] at hR
          cases hp : ptM (co l (rsM l d ^^^ 2)) d with
          | none => rw [hp] at hR; cases hR
          | some P =>
            rw [hp] at hR
            have hR : (if P.length ≤ 12 then match d5M P P.length 0 l L with | none => none | some R => dgM u (d + 1) R.1 R.2 else none) = some R := hR
            by_cases hP : P.length ≤ 12
            · rw [if_pos hP] at hR
              cases h5 : d5M P P.length 0 l L with
              | none => rw [h5] at hR; cases hR
              | some R5 =>
                rw [h5] at hR
                have hR : dgM u (d + 1) R5.1 R5.2 = some R := hR
                obtain ⟨g, eg⟩ := pt_is h h3 (by omega) h1 hp
                rw [eg, obn2_s]
                have e := d5_l hP g (fun y4 c3 f3 => bnd (nI d + 1) (fun x6 => LQ6 (S_X1_findByDegrees_10 K) n y4 x6 (nI P.length) (upl g P) c3 f3)) f P.length 0 l L 20000 R5 h5 (by omega) (by omega)
                refine Eq.mpr (congrArg (fun o => ok o Q) e) ?_
                rw [bnd_s, nI_p1']
                exact ih (d + 1) R5.1 R5.2 n R (nI P.length) (upl g P) hR (by omega) (by omega) (by omega) (by rw [nI_toInt (by omega)]; omega) hK
            · rw [if_neg hP] at hR; cases hR
        · rw [if_neg h3] at hR; cases hR
    · rw [if_neg hl] at hR; cases hR
theorem dg_is {n : Nat} {R : List Nat} (c : Int32) (h f : Nat → Int64) (hc : 0 ≤ c.toInt ∧ c.toInt ≤ 12) (hR : dgM 10 1 n [] = some R) : ok (F_X1_findByDegrees c h f (lN n)) (fun r => r.2.2.1 = nI R.length ∧ r.2.2.2 = upl f R ∧ 0 ≤ r.1.toInt ∧ r.1.toInt ≤ 12) := by
  unfold F_X1_findByDegrees F_X3_removeAll
  rw [obn_s]
  have e := dg_l (Q := fun r => r.2.2.1 = nI R.length ∧ r.2.2.2 = upl f R ∧ 0 ≤ r.1.toInt ∧ r.1.toInt ≤ 12) (fun a b c d => some (a, b, c, d)) f 10 1 n [] 20000 R c h hR (by decide) (by decide) (by decide) hc (fun c2 h2 hc2 => ok_s ⟨rfl, rfl, hc2.1, hc2.2⟩)
  rw [upl_nil] at e
  exact e
