/-! S4. factors: what both look for, as lists of numbers -/
noncomputable def upl (f : Nat → Int64) (L : List Nat) : Nat → Int64 := fun k => if k < L.length then lN (L.getD k 0) else f k
theorem upl_nil (f : Nat → Int64) : upl f [] = f := funext fun k => if_neg (Nat.not_lt_zero _)
theorem gd_lt {L : List Nat} {x i : Nat} (h : i < L.length) : (L ++ [x]).getD i 0 = L.getD i 0 := by
  rw [List.getD_eq_getElem?_getD, List.getD_eq_getElem?_getD, List.getElem?_append_left h]
theorem gd_at (L : List Nat) (x : Nat) : (L ++ [x]).getD L.length 0 = x := by
  rw [List.getD_eq_getElem?_getD, List.getElem?_append_right (Nat.le_refl _), Nat.sub_self]
  rfl
theorem upl_snoc (f : Nat → Int64) (L : List Nat) (x : Nat) : vp_updL (upl f L) L.length (lN x) = upl f (L ++ [x]) := funext fun i => by
  show (if i = L.length then lN x else if i < L.length then lN (L.getD i 0) else f i) = if i < (L ++ [x]).length then lN ((L ++ [x]).getD i 0) else f i
  rw [List.length_append, List.length_singleton]
  by_cases h : i = L.length
  · subst h
    rw [if_pos rfl, if_pos (by omega), gd_at]
  · rw [if_neg h]
    by_cases h2 : i < L.length
    · rw [if_pos h2, if_pos (by omega), gd_lt h2]
    · rw [if_neg h2, if_neg (by omega)]
theorem upl_at {f : Nat → Int64} {L : List Nat} {i : Nat} (h : i < L.length) : upl f L i = lN (L.getD i 0) := if_pos h
theorem len_snoc (L : List Nat) (x : Nat) : (L ++ [x]).length = L.length + 1 := by rw [List.length_append, List.length_singleton]
theorem gd_set {L : List Nat} {k v i : Nat} (h : k < L.length) : (L.set k v).getD i 0 = if i = k then v else L.getD i 0 := by
  rw [List.getD_eq_getElem?_getD, List.getD_eq_getElem?_getD, List.getElem?_set]
  by_cases hi : k = i
  · subst hi
    rw [if_pos rfl, if_pos rfl, if_pos h]; rfl
  · rw [if_neg hi, if_neg (fun e => hi e.symm)]
theorem upl_set {f : Nat → Int64} {L : List Nat} {k v : Nat} (h : k < L.length) : vp_updL (upl f L) k (lN v) = upl f (L.set k v) := funext fun i => by
  show (if i = k then lN v else if i < L.length then lN (L.getD i 0) else f i) = if i < (L.set k v).length then lN ((L.set k v).getD i 0) else f i
  rw [List.length_set, gd_set h]
  by_cases hi : i = k
  · subst hi; rw [if_pos rfl, if_pos h, if_pos rfl]
  · rw [if_neg hi, if_neg hi]
theorem app_is {c : Nat} (f : Nat → Int64) (v : Int64) (h : c < 12) : F_X3_append (nI c) f v = some (nI (c + 1), vp_updL f c v) := by
  unfold F_X3_append chk
  rw [if_neg (show ¬ (12 : Int32) ≤ nI c from nI_ge (b := 12) (by omega) (by omega)), if_pos (ix_12 h), cl_i (by omega), nI_p1]
  rfl
theorem obn2_s {α β γ : Type} (a : α) (b : β) (k : α → β → Option γ) : obn2 (some (a, b)) k = k a b := rfl
theorem obn3_s {α β δ γ : Type} (a : α) (b : β) (c : δ) (k : α → β → δ → Option γ) : obn3 (some (a, b, c)) k = k a b c := rfl
theorem bnd_s {α β : Type} (a : α) (k : α → β) : bnd a k = k a := rfl
theorem td_c {l t : Nat} (hl : l < 2048) (ht : t < 2048) : (2 : Int32) * dgI t ≤ dgI l ↔ 2 * bl t ≤ bl l + 1 := by
  have h1 : bl t ≤ 11 := bl_le.mpr (by omega)
  have h2 : bl l ≤ 11 := bl_le.mpr (by omega)
  rw [Int32.le_iff_toInt_le, mulT1 (show (2 : Int32).toInt = 2 from by decide) (by rw [dgI_T (by omega)]; omega) (by rw [dgI_T (by omega)]; omega), dgI_T (by omega), dgI_T (by omega)]
  omega
theorem td_0 {l : Nat} (hl : l < 2 ^ 64) : dgI l ≤ 0 ↔ bl l ≤ 1 := by
  rw [Int32.le_iff_toInt_le, dgI_T hl, show (0 : Int32).toInt = 0 from by decide]
  omega
theorem td_lt {l t : Nat} (hl : l < 2048) (ht : t < 2048) : dgI l < (2 : Int32) * dgI t ↔ bl l + 1 < 2 * bl t := by
  have h1 : bl t ≤ 11 := bl_le.mpr (by omega)
  have h2 : bl l ≤ 11 := bl_le.mpr (by omega)
  rw [Int32.lt_iff_toInt_lt, mulT1 (show (2 : Int32).toInt = 2 from by decide) (by rw [dgI_T (by omega)]; omega) (by rw [dgI_T (by omega)]; omega), dgI_T (by omega), dgI_T (by omega)]
  omega
/-- by trying, in the class -/
noncomputable def trM : Nat → Nat → Nat → List Nat → Option (List Nat)
  | 0, _, _, _ => none
  | F + 1, l, t, L => if l < 2048 ∧ t ≠ 0 ∧ t < 2048 ∧ L.length < 12 then
      (if bl l ≤ 1 then some L else
        if 2 * bl t ≤ bl l + 1 then (if rst l t = 0 then trM F (quo l t) t (L ++ [t]) else trM F l (t + 1) L)
        else (if rst l l = 0 then trM F (quo l l) l (L ++ [l]) else none))
    else none
theorem bl_ne {l : Nat} (h : ¬ bl l ≤ 1) : l ≠ 0 := fun e => by subst e; rw [bl_0] at h; omega
theorem tr_l (K : Int32 → (Nat → Int64) → Option (Int32 × (Nat → Int64))) (f : Nat → Int64) : ∀ F l t L n k R, trM F l t L = some R → F < n → k + F ≤ 9000 → LQ5 (S_X1_findByTrying_15 K) n (lN l) (lN t) (nI k) (nI L.length) (upl f L) = K (nI R.length) (upl f R) := by
  intro F
  induction F with
  | zero => intro l t L n k R h; cases h
  | succ F ih =>
    intro l t L n k R h hn hk
    obtain ⟨n, rfl⟩ : ∃ m, n = m + 1 := ⟨n - 1, by omega⟩
    rw [trM] at h
    by_cases hc : l < 2048 ∧ t ≠ 0 ∧ t < 2048 ∧ L.length < 12
    · rw [if_pos hc] at h
      obtain ⟨c1, c2, c3, c4⟩ := hc
      show S_X1_findByTrying_15 K (LQ5 (S_X1_findByTrying_15 K) n) _ _ _ _ _ = _
      unfold S_X1_findByTrying_15
      rw [if_neg (show ¬ (10000 : Int32) ≤ nI k from nI_ge (b := 10000) (by omega) (by omega)), x0_deg (by omega), obn_s]
      by_cases h1 : bl l ≤ 1
      · rw [if_pos h1] at h
        rw [if_pos ((td_0 (by omega)).mpr h1), Option.some.inj h]
      · rw [if_neg h1] at h
        have l0 := bl_ne h1
        rw [if_neg (fun h9 => h1 ((td_0 (by omega)).mp h9)), x0_deg (n := t) (by omega), obn_s, obn_s]
        by_cases h2 : 2 * bl t ≤ bl l + 1
        · rw [if_pos h2] at h
          rw [if_pos ((td_c c1 (by omega)).mpr h2), x0_into c2 (by omega) (by omega), obn_s]
          by_cases h3 : rst l t = 0
          · rw [if_pos h3] at h
            rw [if_pos h3, if_neg one_1, app_is _ _ c4, obn2_s, x0_quo c2 (by omega) (by omega), obn_s, bnd_s, upl_snoc]
            have i2 := ih (quo l t) t (L ++ [t]) n (k + 1) R h (by omega) (by omega)
            rw [len_snoc, nI_succ] at i2
            exact i2
          · rw [if_neg h3] at h
            rw [if_neg h3, if_pos one_0, bnd_s, bnd_s, lN_succ]
            have i2 := ih l (t + 1) L n (k + 1) R h (by omega) (by omega)
            rw [nI_succ] at i2
            exact i2
        · rw [if_neg h2] at h
          rw [if_neg (fun h9 => h2 ((td_c c1 (by omega)).mp h9)), x0_into l0 (by omega) (by omega), obn_s]
          by_cases h3 : rst l l = 0
          · rw [if_pos h3] at h
            rw [if_pos h3, if_neg one_1, app_is _ _ c4, obn2_s, x0_quo l0 (by omega) (by omega), obn_s, bnd_s, upl_snoc]
            have i2 := ih (quo l l) l (L ++ [l]) n (k + 1) R h (by omega) (by omega)
            rw [len_snoc, nI_succ] at i2
            exact i2
          · rw [if_neg h3] at h; cases h
    · rw [if_neg hc] at h; cases h
theorem tr_is {n : Nat} {R : List Nat} (f : Nat → Int64) (h : trM 120 n 2 [] = some R) : F_X1_findByTrying f (lN n) = some (nI R.length, upl f R) := by
  have e := tr_l (fun a b => some (a, b)) f 120 n 2 [] 20000 0 R h (by decide) (by decide)
  rw [upl_nil] at e
  unfold F_X1_findByTrying F_X3_removeAll
  rw [obn_s]
  exact e
/-- the least divisor, in the reference -/
noncomputable def lsM : Nat → Nat → Nat → Option Nat
  | 0, _, _ => none
  | F + 1, l, t => if t ≠ 0 ∧ t < 2047 then (if bl l + 1 < 2 * bl t then some l else if rst l t = 0 then some t else lsM F l (t + 1)) else none
theorem ls_l {l : Nat} (hl : l < 2048) (K : Int64 → Option Int64) (hK : ∀ y, y < 2047 → K (lN y) = if bl l + 1 < 2 * bl y then some (lN l) else some (lN y)) : ∀ F t n v, lsM F l t = some v → F < n → LQ1 (S_X9_least_4 (lN l) K) n (lN t) = some (lN v) := by
  intro F
  induction F with
  | zero => intro t n v h; cases h
  | succ F ih =>
    intro t n v h hn
    obtain ⟨n, rfl⟩ : ∃ m, n = m + 1 := ⟨n - 1, by omega⟩
    rw [lsM] at h
    by_cases hc : t ≠ 0 ∧ t < 2047
    · rw [if_pos hc] at h
      obtain ⟨c2, c3⟩ := hc
      have i2 := fun h9 => ih (t + 1) n v h9 (by omega)
      have k2 := hK t c3
      show S_X9_least_4 (lN l) K (LQ1 (S_X9_least_4 (lN l) K) n) _ = _
      generalize LQ1 (S_X9_least_4 (lN l) K) n = IH at i2 ⊢
      unfold S_X9_least_4
      rw [x9_deg (n := t) (by omega), x9_deg (n := l) (by omega), obn_s, obn_s]
      by_cases h1 : bl l + 1 < 2 * bl t
      · rw [if_pos h1] at h k2
        rw [if_pos ((td_lt hl (by omega)).mpr h1), k2, Option.some.inj h]
      · rw [if_neg h1] at h k2
        have h1' : ¬ dgI l < (2 : Int32) * dgI t := fun h9 => h1 ((td_lt hl (by omega)).mp h9)
        rw [if_neg h1', x9_rest c2 (by omega) (by omega), obn_s]
        by_cases h3 : rst l t = 0
        · rw [if_pos h3] at h
          rw [h3, if_pos (show lN 0 = (0 : Int64) from rfl), k2, Option.some.inj h]
        · rw [if_neg h3] at h
          have r := rst_bl (f := l) c2 (by omega) (by omega)
          have hb : bl t ≤ 11 := bl_le.mpr (by omega)
          rw [if_neg (lN_ne h3 (bl_le.mp (by omega))), bnd_s, lN_succ]
          exact i2 h
    · rw [if_neg hc] at h; cases h
theorem ls_is {l v : Nat} (hl : l < 2048) (h : lsM 200 l 2 = some v) : F_X9_least (lN l) = some (lN v) := by
  unfold F_X9_least
  refine ls_l hl _ (fun y hy => ?_) 200 2 20000 v h (by decide)
  show obn (F_X9_degreeOf (lN y)) _ = _
  rw [x9_deg (n := y) (by omega), obn_s, x9_deg (n := l) (by omega), obn_s]
  by_cases h1 : bl l + 1 < 2 * bl y
  · rw [if_pos h1, if_pos ((td_lt hl (by omega)).mpr h1)]
  · rw [if_neg h1, if_neg (fun h9 => h1 ((td_lt hl (by omega)).mp h9))]
noncomputable def l9M : Nat → Nat → List Nat → Option (List Nat)
  | 0, _, _ => none
  | F + 1, l, L => if l < 2048 ∧ L.length < 12 then
      (if bl l ≤ 1 then some L else match lsM 200 l 2 with
        | none => none
        | some b => if b ≠ 0 ∧ b < 2048 then l9M F (quo l b) (L ++ [b]) else none)
    else none
theorem l9_l (K : Int32 → (Nat → Int64) → Option (Int32 × Int32 × Int32 × Int32 × Int32 × (Nat → Int64))) (f : Nat → Int64) : ∀ F l L n R, l9M F l L = some R → F < n → LQ3 (S_X9_factor_79 K) n (lN l) (nI L.length) (upl f L) = K (nI R.length) (upl f R) := by
  intro F
  induction F with
  | zero => intro l L n R h; cases h
  | succ F ih =>
    intro l L n R h hn
    obtain ⟨n, rfl⟩ : ∃ m, n = m + 1 := ⟨n - 1, by omega⟩
    rw [l9M] at h
    by_cases hc : l < 2048 ∧ L.length < 12
    · rw [if_pos hc] at h
      obtain ⟨c1, c4⟩ := hc
      show S_X9_factor_79 K (LQ3 (S_X9_factor_79 K) n) _ _ _ = _
      unfold S_X9_factor_79
      rw [x9_deg (by omega), obn_s]
      by_cases h1 : bl l ≤ 1
      · rw [if_pos h1] at h
        rw [if_pos ((td_0 (by omega)).mpr h1), Option.some.inj h]
      · rw [if_neg h1] at h
        rw [if_neg (fun h9 => h1 ((td_0 (by omega)).mp h9)), bnd_s]
        cases hl : lsM 200 l 2 with
        | none => rw [hl] at h; cases h
        | some b =>
          rw [hl] at h
          have h : (if b ≠ 0 ∧ b < 2048 then l9M F (quo l b) (L ++ [b]) else none) = some R := h
          by_cases hb : b ≠ 0 ∧ b < 2048
          · rw [if_pos hb] at h
            obtain ⟨b0, b1⟩ := hb
            rw [ls_is c1 hl, obn_s]
            unfold chk
            rw [if_pos (ix_12 c4), bnd_s, nI_p1, nI_s1, if_pos (ix_12 c4), cl_i (by omega), uu_a, x9_quo b0 (by omega) (by omega), obn_s, upl_snoc]
            have i2 := ih (quo l b) (L ++ [b]) n R h (by omega)
            rw [len_snoc] at i2
            exact i2
          · rw [if_neg hb] at h; cases h
    · rw [if_neg hc] at h; cases h
/-- turned round -/
noncomputable def rvA (f : Nat → Int64) (m k : Nat) : Nat → Int64 := fun i => if i < m ∧ (i < k ∨ m - 1 - i < k) then f (m - 1 - i) else f i
theorem rv_loop {Q : Int32 × Int32 × Int32 × Int32 × Int32 × (Nat → Int64) → Prop} (K : (Nat → Int64) → Option (Int32 × Int32 × Int32 × Int32 × Int32 × (Nat → Int64))) (m : Nat) (f : Nat → Int64) (hm : m ≤ 12) (hm1 : 1 ≤ m) (hK : ok (K (fun i => if i < m then f (m - 1 - i) else f i)) Q) : ok (LQ2 (S_X9_factor_132 (nI m) K) 20000 (0 : Int32) f) Q := by
  refine ok_L2 (fun y g => ∃ k, 2 * k ≤ m + 1 ∧ y = nI k ∧ g = rvA f m k) (fun y _ => (20 - y.toInt).toNat) (fun ih y g hI hih => ?_) 20000 _ _ ⟨0, by omega, rfl, funext fun i => (if_neg (by omega)).symm⟩ (by decide)
  obtain ⟨k, hk, rfl, rfl⟩ := hI
  unfold S_X9_factor_132
  rw [nI_s1' hm1]
  have hs : (nI (m - 1) - nI k).toInt = (m : Int) - 1 - k := by
    rw [pk_sub_toInt (by omega) (by omega)]; omega
  by_cases h : m ≤ 2 * k + 1
  · rw [if_pos (show nI (m - 1) - nI k ≤ nI k from by rw [Int32.le_iff_toInt_le, hs, nI_toInt (by omega)]; omega)]
    have e : rvA f m k = (fun i => if i < m then f (m - 1 - i) else f i) := funext fun i => by
      show (if i < m ∧ (i < k ∨ m - 1 - i < k) then f (m - 1 - i) else f i) = if i < m then f (m - 1 - i) else f i
      by_cases hi : i < m
      · rw [if_pos hi]
        by_cases h2 : i < k ∨ m - 1 - i < k
        · rw [if_pos ⟨hi, h2⟩]
        · rw [if_neg (fun h9 => h2 h9.2), show m - 1 - i = i by omega]
      · rw [if_neg hi, if_neg (fun h9 => hi h9.1)]
    rw [e]
    exact hK
  · rw [if_neg (show ¬ nI (m - 1) - nI k ≤ nI k from fun h9 => by rw [Int32.le_iff_toInt_le, hs, nI_toInt (by omega)] at h9; omega), pk_sub (by omega)]
    refine ok_c (by first | exact ix_12 (by omega) | exact ix_12b (by omega)) (ok_bx (fun x ex => ok_c (by first | exact ix_12 (by omega) | exact ix_12b (by omega)) (ok_c (by first | exact ix_12 (by omega) | exact ix_12b (by omega)) (ok_bx (fun g2 eg => ok_c (by first | exact ix_12 (by omega) | exact ix_12b (by omega)) (ok_bx (fun g3 eg3 => ok_bx (fun y2 ey => ?_))))))))
    have ey : y2 = nI (k + 1) := by first | exact ey | rw [ey, nI_p1']
    subst ey
    refine hih _ _ ⟨k + 1, by omega, rfl, ?_⟩ (by rw [nI_toInt (by omega), nI_toInt (by omega)]; omega)
    rw [cl_i (by omega), cl_i (by omega)] at eg
    rw [cl_i (by omega)] at eg3
    rw [cl_i (by omega)] at ex
    subst ex eg
    rw [eg3]
    funext i
    have a1 : rvA f m k k = f k := if_neg (by omega)
    have a2 : rvA f m k (m - 1 - k) = f (m - 1 - k) := if_neg (by omega)
    rw [a1, a2]
    show (if i = m - 1 - k then f k else if i = k then f (m - 1 - k) else if i < m ∧ (i < k ∨ m - 1 - i < k) then f (m - 1 - i) else f i) = if i < m ∧ (i < k + 1 ∨ m - 1 - i < k + 1) then f (m - 1 - i) else f i
    by_cases h1 : i = m - 1 - k
    · rw [if_pos h1, if_pos (by omega), show m - 1 - i = k by omega]
    · rw [if_neg h1]
      by_cases h2 : i = k
      · rw [if_pos h2, if_pos (by omega), h2]
      · rw [if_neg h2]
        by_cases h3 : i < m ∧ (i < k ∨ m - 1 - i < k)
        · rw [if_pos h3, if_pos (by omega)]
        · rw [if_neg h3, if_neg (by omega)]
/-! by degrees, in the class -/
noncomputable def sqM (x : Nat) : Nat := pm 11 x x
theorem sqM_is {x : Nat} (h : x < 2048) : cl x x = sqM x := pm_ext (n := 64) (k := 11) (by omega) (by decide)
noncomputable def rsM (b : Nat) : Nat → Nat
  | 0 => rst 2 b
  | k + 1 => rst (sqM (rsM b k)) b
theorem rs_lt {b : Nat} (hb : b ≠ 0) (h : b < 2048) : ∀ k, rsM b k < 1024 := by
  have hb11 : bl b ≤ 11 := bl_le.mpr (by omega)
  have key : ∀ f, f < 2 ^ 62 → rst f b < 1024 := fun f hf => by
    have r := (rst_bl (f := f) hb hf (by omega)).1
    exact bl_le.mp (show bl (rst f b) ≤ 10 by omega)
  intro k
  induction k with
  | zero => exact key 2 (by decide)
  | succ k ih =>
    rw [rsM]
    refine key _ ?_
    have := pm_lt (i := 9) (a := rsM b k) (by omega) 11 (rsM b k)
    exact Nat.lt_of_lt_of_le this (Nat.pow_le_pow_right (by decide) (by decide))
theorem sq_rest {b x : Nat} (hb : b ≠ 0) (h : b < 2048) (hx : x < 2048) {γ : Type} (K : Int64 → Option γ) : obn (F_X0_squared (lN x)) (fun r => obn (F_X0_rest r (lN b)) K) = K (lN (rst (sqM x) b)) := by
  have h1 := pm_lt (i := 10) (a := x) (by omega) 11 x
  have h2 : sqM x < 2 ^ 21 := h1
  rw [x0_sq (by omega), obn_s, sqM_is hx, x0_rest hb (by omega) (by omega), obn_s]
theorem rs_is {b d : Nat} (hb : b ≠ 0) (h : b < 2048) (hd : d ≤ 10) : F_X0_risenRest (nI d) (lN b) = some (lN (rsM b d)) := by
  have key : ∀ u k n, k + u = d → u < n → LQ2 (S_X0_risenRest_11 (nI d) (lN b) (fun y => some y)) n (lN (rsM b k)) (nI k) = some (lN (rsM b d)) := by
    intro u
    induction u with
    | zero =>
      intro k n hk hn
      obtain ⟨n, rfl⟩ : ∃ m, n = m + 1 := ⟨n - 1, by omega⟩
      show S_X0_risenRest_11 _ _ _ _ _ _ = _
      unfold S_X0_risenRest_11
      rw [if_pos (nI_le (by omega) (by omega)), show k = d by omega]
    | succ u ih =>
      intro k n hk hn
      obtain ⟨n, rfl⟩ : ∃ m, n = m + 1 := ⟨n - 1, by omega⟩
      show S_X0_risenRest_11 _ _ _ (LQ2 (S_X0_risenRest_11 (nI d) (lN b) (fun y => some y)) n) _ _ = _
      unfold S_X0_risenRest_11
      have := rs_lt hb h k
      rw [if_neg (nI_ge (by omega) (by omega)), sq_rest hb h (by omega), bnd_s]
      have i2 := ih (k + 1) n (by omega) (by omega)
      rw [nI_succ] at i2
      exact i2
  unfold F_X0_risenRest
  rw [show (2 : Int64) = lN 2 from rfl, x0_rest hb (by decide) (by omega), obn_s]
  exact key d 0 20000 (by omega) (by omega)
noncomputable def tcM (b : Nat) : Nat → Nat → Nat → Nat
  | 0, _, s => s
  | u + 1, q, s => tcM b u (rst (sqM q) b) (s ^^^ rst (sqM q) b)
theorem tc_is {b d j : Nat} (hb : b ≠ 0) (h : b < 2048) (hd : d ≤ 10) (hd1 : 1 ≤ d) (hj : j ≤ 20) : F_X0_trace (nI j) (nI d) (lN b) = some (lN (tcM b (d - 1) (rst (2 ^ j) b) (rst (2 ^ j) b))) := by
  have hb11 : bl b ≤ 11 := bl_le.mpr (by omega)
  have kb : ∀ f, f < 2 ^ 62 → rst f b < 1024 := fun f hf => by
    have r := (rst_bl (f := f) hb hf (by omega)).1
    exact bl_le.mp (show bl (rst f b) ≤ 10 by omega)
  have key : ∀ u k q s n, k + u = d → u < n → q < 2048 → LQ3 (S_X0_trace_16 (nI d) (lN b) (fun y => some y)) n (lN q) (lN s) (nI k) = some (lN (tcM b u q s)) := by
    intro u
    induction u with
    | zero =>
      intro k q s n hk hn hq
      obtain ⟨n, rfl⟩ : ∃ m, n = m + 1 := ⟨n - 1, by omega⟩
      show S_X0_trace_16 _ _ _ _ _ _ _ = _
      unfold S_X0_trace_16
      rw [if_pos (nI_le (by omega) (by omega)), tcM]
    | succ u ih =>
      intro k q s n hk hn hq
      obtain ⟨n, rfl⟩ : ∃ m, n = m + 1 := ⟨n - 1, by omega⟩
      show S_X0_trace_16 _ _ _ (LQ3 (S_X0_trace_16 (nI d) (lN b) (fun y => some y)) n) _ _ _ = _
      unfold S_X0_trace_16
      have h1 := pm_lt (i := 10) (a := q) (by omega) 11 q
      have h2 := kb (sqM q) (Nat.lt_of_lt_of_le h1 (Nat.pow_le_pow_right (by decide) (by decide)))
      rw [if_neg (nI_ge (by omega) (by omega)), sq_rest hb h hq, bnd_s, bnd_s, lN_xor, tcM]
      have i2 := ih (k + 1) (rst (sqM q) b) (s ^^^ rst (sqM q) b) n (by omega) (by omega) (by omega)
      rw [nI_succ] at i2
      exact i2
  have hp := Nat.pow_lt_pow_right (show 1 < 2 by decide) (show j < 30 by omega)
  unfold F_X0_trace
  rw [sh_1 (by omega), x0_rest hb (by omega) (by omega), obn_s]
  have hk := kb (2 ^ j) (by omega)
  exact key (d - 1) 1 _ _ 20000 (by omega) (by omega) (by omega)
