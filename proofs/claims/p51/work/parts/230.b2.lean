/-! B2. primes: by trying, how many, the k-th -/
noncomputable def ptr (n : Nat) : Nat → Nat → Bool
  | 0, _ => true
  | u + 1, t => if rst n t = 0 then false else ptr n u (t + 1)
noncomputable def pend (n : Nat) : Nat := 2 ^ (1 + (bl n - 1) / 2)
noncomputable def prm (n : Nat) : Bool := decide (2 ≤ bl n) && ptr n (pend n - 2) 2
theorem pend_b {n : Nat} (hn : bl n ≤ 11) : 2 ≤ pend n ∧ pend n ≤ 64 := by
  unfold pend
  have h1 := Nat.pow_le_pow_right (show 0 < 2 by decide) (show 1 + (bl n - 1) / 2 ≤ 6 by omega)
  have h2 := Nat.pow_le_pow_right (show 0 < 2 by decide) (show 1 ≤ 1 + (bl n - 1) / 2 by omega)
  omega
theorem dg_1 {n : Nat} (hn : n < 2 ^ 64) : (1 : Int32) ≤ dgI n ↔ 2 ≤ bl n := by
  rw [Int32.le_iff_toInt_le, dgI_T hn, show (1 : Int32).toInt = 1 from by decide]
  omega
theorem pend_i {n t : Nat} (hn : bl n ≤ 11) (h2 : 2 ≤ bl n) (ht : t < 2 ^ 40) (h0 : t ≠ 0) : dgI n < (2 : Int32) * dgI t ↔ pend n ≤ t := by
  have hn2 : n < 2 ^ 11 := bl_le.mp hn
  have hb := bl_pos h0
  have ht2 : bl t ≤ 40 := bl_le.mpr ht
  rw [Int32.lt_iff_toInt_lt, mulT1 (show (2 : Int32).toInt = 2 from by decide) (by rw [dgI_T (by omega)]; omega) (by rw [dgI_T (by omega)]; omega), dgI_T (by omega), dgI_T (by omega)]
  unfold pend
  rw [← bl_gt]
  omega
theorem x9_pr_l {n : Nat} (hn : bl n ≤ 11) (h2 : 2 ≤ bl n) (K0 K1 : Unit → Option Int32) : ∀ u t m, t + u = pend n → 2 ≤ t → u < m → LQ1 (S_X9_isPrimeNow_14 (lN n) K0 K1) m (lN t) = if ptr n u t then K1 () else K0 () := by
  obtain ⟨p1, p2⟩ := pend_b hn
  have hn2 : n < 2 ^ 11 := bl_le.mp hn
  intro u
  induction u with
  | zero =>
    intro t m ht h2t hm
    obtain ⟨m, rfl⟩ : ∃ j, m = j + 1 := ⟨m - 1, by omega⟩
    show S_X9_isPrimeNow_14 _ K0 K1 _ _ = _
    unfold S_X9_isPrimeNow_14
    rw [x9_deg (by omega), x9_deg (by omega), obn_s, obn_s, if_pos ((pend_i hn h2 (by omega) (by omega)).mpr (by omega)), ptr]
    rfl
  | succ u ih =>
    intro t m ht h2t hm
    obtain ⟨m, rfl⟩ : ∃ j, m = j + 1 := ⟨m - 1, by omega⟩
    have i2 := ih (t + 1) m (by omega) (by omega) (by omega)
    show S_X9_isPrimeNow_14 _ K0 K1 (LQ1 (S_X9_isPrimeNow_14 (lN n) K0 K1) m) _ = _
    generalize LQ1 (S_X9_isPrimeNow_14 (lN n) K0 K1) m = IH at i2 ⊢
    unfold S_X9_isPrimeNow_14
    have r := rst_bl (f := n) (b := t) (by omega) (by omega) (by omega)
    have tb : bl t ≤ 40 := bl_le.mpr (show t < 2 ^ 40 by omega)
    rw [x9_deg (by omega), x9_deg (by omega), obn_s, obn_s, if_neg (fun h => by have := (pend_i hn h2 (by omega) (by omega)).mp h; omega), x9_rest (by omega) (by omega) (by omega), obn_s, ptr]
    by_cases hz : rst n t = 0
    · rw [hz, if_pos (show lN 0 = (0 : Int64) from rfl), if_pos rfl]
      rfl
    · rw [if_neg (lN_ne hz (bl_le.mp (by omega))), if_neg hz]
      rw [← lN_succ] at i2
      exact i2
theorem x9_pr {n : Nat} (hn : bl n ≤ 11) : F_X9_isPrimeNow (lN n) = some (nI (if prm n then 1 else 0)) := by
  obtain ⟨p1, p2⟩ := pend_b hn
  have hn2 : n < 2 ^ 11 := bl_le.mp hn
  unfold F_X9_isPrimeNow prm
  rw [x9_deg (by omega), obn_s]
  by_cases h2 : 2 ≤ bl n
  · rw [if_pos ((dg_1 (by omega)).mpr h2), decide_eq_true h2, Bool.true_and]
    have e : LQ1 (S_X9_isPrimeNow_14 (lN n) (fun _ => some (0 : Int32)) (fun _ => some (1 : Int32))) 20000 (lN 2) = _ := x9_pr_l hn h2 _ _ (pend n - 2) 2 20000 (by omega) (by omega) (by omega)
    refine Eq.trans e ?_
    cases ptr n (pend n - 2) 2 <;> rfl
  · rw [if_neg (fun h => h2 ((dg_1 (by omega)).mp h)), decide_eq_false h2, Bool.false_and]
    rfl
theorem x2_pr_l {n : Nat} (hn : bl n ≤ 11) (K0 K1 : Unit → Option Int32) : ∀ u t m, t + u = pend n → 2 ≤ t → u < m → LQ1 (S_X2_isByTrying_25 (lN n) (lN (pend n)) K0 K1) m (lN t) = if ptr n u t then K1 () else K0 () := by
  obtain ⟨p1, p2⟩ := pend_b hn
  have hn2 : n < 2 ^ 11 := bl_le.mp hn
  intro u
  induction u with
  | zero =>
    intro t m ht h2t hm
    obtain ⟨m, rfl⟩ : ∃ j, m = j + 1 := ⟨m - 1, by omega⟩
    show S_X2_isByTrying_25 _ _ K0 K1 _ _ = _
    unfold S_X2_isByTrying_25
    rw [if_pos ((lN_leI (by omega) (by omega)).mpr (by omega)), ptr]
    rfl
  | succ u ih =>
    intro t m ht h2t hm
    obtain ⟨m, rfl⟩ : ∃ j, m = j + 1 := ⟨m - 1, by omega⟩
    show S_X2_isByTrying_25 _ _ K0 K1 (LQ1 (S_X2_isByTrying_25 (lN n) (lN (pend n)) K0 K1) m) _ = _
    unfold S_X2_isByTrying_25
    rw [if_neg (fun h => by have := (lN_leI (by omega) (by omega)).mp h; omega), x0_into (by omega) (by omega) (by omega), obn_s, ptr]
    by_cases hz : rst n t = 0
    · rw [if_pos hz, if_pos hz, if_neg one_1]
      rfl
    · rw [if_neg hz, if_neg hz, if_pos one_0]
      have i2 := ih (t + 1) m (by omega) (by omega) (by omega)
      rw [← lN_succ] at i2
      exact i2
theorem x2_pr {n : Nat} (hn : bl n ≤ 11) : F_X2_isByTrying (lN n) = some (nI (if prm n then 1 else 0)) := by
  obtain ⟨p1, p2⟩ := pend_b hn
  have hn2 : n < 2 ^ 11 := bl_le.mp hn
  unfold F_X2_isByTrying prm
  rw [x0_deg (by omega), obn_s]
  by_cases h2 : 2 ≤ bl n
  · have h0 : n ≠ 0 := fun h => by subst h; rw [bl_0] at h2; omega
    rw [if_pos ((dg_1 (by omega)).mpr h2), decide_eq_true h2, Bool.true_and]
    have e2 : (2 : Int64) <<< ((dgI n / (2 : Int32)).toInt64 &&& 63) = lN (pend n) := by
      rw [dgI_p h0, show (2 : Int32) = nI 2 from rfl, pk_div (by omega) (by omega) (by omega), show (2 : Int64) = lN 2 from rfl, wb_shl 2 (by omega), pend, Nat.pow_add, Nat.pow_one]
    have e : LQ1 (S_X2_isByTrying_25 (lN n) (lN (pend n)) (fun _ => some (0 : Int32)) (fun _ => some (1 : Int32))) 20000 (lN 2) = _ := x2_pr_l hn _ _ (pend n - 2) 2 20000 (by omega) (by omega) (by omega)
    rw [e2]
    refine Eq.trans e ?_
    cases ptr n (pend n - 2) 2 <;> rfl
  · rw [if_neg (fun h => h2 ((dg_1 (by omega)).mp h)), decide_eq_false h2, Bool.false_and]
    rfl
/-- how many among u forms from f on -/
noncomputable def cn : Nat → Nat → Nat
  | 0, _ => 0
  | u + 1, f => (if prm f then 1 else 0) + cn u (f + 1)
theorem sh_1 {n : Nat} (hn : n < 60) : (1 : Int64) <<< ((nI n).toInt64 &&& 63) = lN (2 ^ n) := by
  rw [show (1 : Int64) = lN 1 from rfl, wb_shl 1 (by omega), Nat.one_mul]
theorem sh_2 {n : Nat} (hn : n < 60) : (2 : Int64) <<< ((nI n).toInt64 &&& 63) = lN (2 ^ (n + 1)) := by
  rw [show (2 : Int64) = lN 2 from rfl, wb_shl 2 (by omega), Nat.pow_succ, Nat.mul_comm]
theorem x9_cn_l {n : Nat} (hn : n ≤ 10) (K : Int32 → Option Int32) : ∀ u f c m, f + u = 2 ^ (n + 1) → u < m → LQ2 (S_X9_primesOf_6 (nI n) K) m (nI c) (lN f) = K (nI (c + cn u f)) := by
  have h11 := Nat.pow_le_pow_right (show 0 < 2 by decide) (show n + 1 ≤ 11 by omega)
  have e2 := sh_2 (n := n) (by omega)
  intro u
  induction u with
  | zero =>
    intro f c m hf hm
    obtain ⟨m, rfl⟩ : ∃ j, m = j + 1 := ⟨m - 1, by omega⟩
    show S_X9_primesOf_6 _ K _ _ _ = _
    unfold S_X9_primesOf_6
    rw [if_pos (show (2 : Int64) <<< ((nI n).toInt64 &&& 63) ≤ lN f from by rw [e2]; exact (lN_leI (by omega) (by omega)).mpr (by omega))]
    rfl
  | succ u ih =>
    intro f c m hf hm
    obtain ⟨m, rfl⟩ : ∃ j, m = j + 1 := ⟨m - 1, by omega⟩
    show S_X9_primesOf_6 _ K (LQ2 (S_X9_primesOf_6 (nI n) K) m) _ _ = _
    unfold S_X9_primesOf_6
    rw [if_neg (show ¬ (2 : Int64) <<< ((nI n).toInt64 &&& 63) ≤ lN f from fun h => by rw [e2] at h; have := (lN_leI (by omega) (by omega)).mp h; omega), x9_pr (bl_le.mpr (by omega)), obn_s, cn]
    have i2 := ih (f + 1) (c + if prm f then 1 else 0) m (by omega) (by omega)
    rw [← lN_succ, Nat.add_assoc] at i2
    cases hp : prm f with
    | true =>
      rw [hp] at i2
      simp only [if_true] at i2 ⊢
      rw [if_neg one_1]
      rw [nI_succ] at i2
      exact i2
    | false =>
      rw [hp] at i2
      simp only [Bool.false_eq_true, if_false] at i2 ⊢
      rw [if_pos one_0]
      rw [show nI c + (0 : Int32) = nI (c + 0) from Int32.add_zero _]
      exact i2
theorem x9_cn {n : Nat} (hn : n ≤ 10) : F_X9_primesOf (nI n) = some (nI (cn (2 ^ n) (2 ^ n))) := by
  have h10 := Nat.pow_le_pow_right (show 0 < 2 by decide) hn
  unfold F_X9_primesOf
  have e := x9_cn_l hn (fun y => some y) (2 ^ n) (2 ^ n) 0 20000 (by rw [Nat.pow_succ]; omega) (by omega)
  rw [Nat.zero_add, ← sh_1 (by omega)] at e
  exact e
theorem x2_cn_l {n : Nat} (hn : n ≤ 10) (K : Int32 → Option Int32) : ∀ u f c m, f + u = 2 ^ (n + 1) → u < m → LQ2 (S_X2_howManyByCounting_6 (nI n) K) m (nI c) (lN f) = K (nI (c + cn u f)) := by
  have h11 := Nat.pow_le_pow_right (show 0 < 2 by decide) (show n + 1 ≤ 11 by omega)
  have e2 := sh_2 (n := n) (by omega)
  intro u
  induction u with
  | zero =>
    intro f c m hf hm
    obtain ⟨m, rfl⟩ : ∃ j, m = j + 1 := ⟨m - 1, by omega⟩
    show S_X2_howManyByCounting_6 _ K _ _ _ = _
    unfold S_X2_howManyByCounting_6
    rw [if_pos (show (2 : Int64) <<< ((nI n).toInt64 &&& 63) ≤ lN f from by rw [e2]; exact (lN_leI (by omega) (by omega)).mpr (by omega))]
    rfl
  | succ u ih =>
    intro f c m hf hm
    obtain ⟨m, rfl⟩ : ∃ j, m = j + 1 := ⟨m - 1, by omega⟩
    show S_X2_howManyByCounting_6 _ K (LQ2 (S_X2_howManyByCounting_6 (nI n) K) m) _ _ = _
    unfold S_X2_howManyByCounting_6
    rw [if_neg (show ¬ (2 : Int64) <<< ((nI n).toInt64 &&& 63) ≤ lN f from fun h => by rw [e2] at h; have := (lN_leI (by omega) (by omega)).mp h; omega), x2_pr (bl_le.mpr (by omega)), obn_s, cn]
    have i2 := ih (f + 1) (c + if prm f then 1 else 0) m (by omega) (by omega)
    rw [← lN_succ, Nat.add_assoc] at i2
    cases hp : prm f with
    | true =>
      rw [hp] at i2
      simp only [if_true] at i2 ⊢
      rw [if_neg one_1]
      rw [nI_succ] at i2
      exact i2
    | false =>
      rw [hp] at i2
      simp only [Bool.false_eq_true, if_false, Nat.add_zero] at i2 ⊢
      rw [if_pos one_0]
      exact i2
theorem x2_cn {n : Nat} (hn : n ≤ 10) : F_X2_howManyByCounting (nI n) = some (nI (cn (2 ^ n) (2 ^ n))) := by
  have h10 := Nat.pow_le_pow_right (show 0 < 2 by decide) hn
  unfold F_X2_howManyByCounting
  have e := x2_cn_l hn (fun y => some y) (2 ^ n) (2 ^ n) 0 20000 (by rw [Nat.pow_succ]; omega) (by omega)
  rw [Nat.zero_add, ← sh_1 (by omega)] at e
  exact e
/-- the one among u forms from f on that has k lesser ones -/
noncomputable def pcd : Nat → Nat → Nat → Option Nat
  | 0, _, _ => none
  | u + 1, f, k => if prm f then (if k = 0 then some f else pcd u (f + 1) (k - 1)) else pcd u (f + 1) k
theorem x9_pc_l {n : Nat} (hn : n ≤ 6) {R : Type} (K0 : Int64 → Option (Int32 × Int32)) (K1 : Unit → Option (Int32 × Int32)) : ∀ u f k m, f + u = 2 ^ (n + 1) → u < m → k < 100 → LQ2 (S_X9_prime_42 (nI n) K0 K1) m (nI k) (lN f) = match pcd u f k with | none => K1 () | some r => K0 (lN r) := by
  have h11 := Nat.pow_le_pow_right (show 0 < 2 by decide) (show n + 1 ≤ 7 by omega)
  have e2 := sh_2 (n := n) (by omega)
  intro u
  induction u with
  | zero =>
    intro f k m hf hm hk
    obtain ⟨m, rfl⟩ : ∃ j, m = j + 1 := ⟨m - 1, by omega⟩
    show S_X9_prime_42 _ K0 K1 _ _ _ = _
    unfold S_X9_prime_42
    rw [if_pos (show (2 : Int64) <<< ((nI n).toInt64 &&& 63) ≤ lN f from by rw [e2]; exact (lN_leI (by omega) (by omega)).mpr (by omega))]
    rfl
  | succ u ih =>
    intro f k m hf hm hk
    obtain ⟨m, rfl⟩ : ∃ j, m = j + 1 := ⟨m - 1, by omega⟩
    show S_X9_prime_42 _ K0 K1 (LQ2 (S_X9_prime_42 (nI n) K0 K1) m) _ _ = _
    unfold S_X9_prime_42
    rw [if_neg (show ¬ (2 : Int64) <<< ((nI n).toInt64 &&& 63) ≤ lN f from fun h => by rw [e2] at h; have := (lN_leI (by omega) (by omega)).mp h; omega), x9_pr (bl_le.mpr (by omega)), obn_s, pcd]
    cases hp : prm f with
    | true =>
      simp only [if_true]
      rw [if_neg one_1]
      by_cases hz : k = 0
      · subst hz
        rw [if_pos one_0, if_pos rfl]
      · rw [if_neg (show ¬ nI k = 0 from fun h => hz ((nI_eq (a := k) (b := 0) (by omega) (by omega)).mp h)), if_neg hz]
        have i2 := ih (f + 1) (k - 1) m (by omega) (by omega) (by omega)
        have e3 : nI (k - 1) = nI k + (-1) := by
          rw [nI_m1, ← nI_pred (k - 1), show k - 1 + 1 = k by omega]
        rw [← lN_succ, e3] at i2
        exact i2
    | false =>
      simp only [Bool.false_eq_true, if_false]
      rw [if_pos one_0]
      have i2 := ih (f + 1) k m (by omega) (by omega) hk
      rw [← lN_succ] at i2
      exact i2
theorem sh_2i : ∀ n, n < 7 → (2 : Int32) <<< (nI n &&& 31) = nI (2 ^ (n + 1)) ∧ (1 : Int32) <<< (nI n &&& 31) = nI (2 ^ n) := by decide +kernel
theorem x2_pc_l {n k : Nat} (hn : n ≤ 6) (hk : k < 100) (K0 : Int32 → Option Int32) (K1 : Unit → Option Int32) : ∀ u f c m, f + u = 2 ^ (n + 1) → u < m → c ≤ k → LQ2 (S_X2_codeOf_6 (nI n) (nI k) K0 K1) m (nI c) (nI f) = match pcd u f (k - c) with | none => K1 () | some r => K0 (nI r) := by
  have h11 := Nat.pow_le_pow_right (show 0 < 2 by decide) (show n + 1 ≤ 7 by omega)
  have e2 := (sh_2i n (by omega)).1
  intro u
  induction u with
  | zero =>
    intro f c m hf hm hc
    obtain ⟨m, rfl⟩ : ∃ j, m = j + 1 := ⟨m - 1, by omega⟩
    show S_X2_codeOf_6 _ _ K0 K1 _ _ _ = _
    unfold S_X2_codeOf_6
    rw [if_pos (show (2 : Int32) <<< (nI n &&& 31) ≤ nI f from by rw [e2]; exact nI_le (by omega) (by omega))]
    rfl
  | succ u ih =>
    intro f c m hf hm hc
    obtain ⟨m, rfl⟩ : ∃ j, m = j + 1 := ⟨m - 1, by omega⟩
    show S_X2_codeOf_6 _ _ K0 K1 (LQ2 (S_X2_codeOf_6 (nI n) (nI k) K0 K1) m) _ _ = _
    unfold S_X2_codeOf_6
    rw [if_neg (show ¬ (2 : Int32) <<< (nI n &&& 31) ≤ nI f from by rw [e2]; exact nI_ge (by omega) (by omega)), nI_l (by omega), x2_pr (bl_le.mpr (by omega)), obn_s, pcd]
    cases hp : prm f with
    | true =>
      simp only [if_true]
      rw [if_neg one_1]
      by_cases hz : c = k
      · subst hz
        rw [if_pos rfl, if_pos (by omega)]
      · rw [if_neg (fun h => hz ((nI_eq (by omega) (by omega)).mp h)), if_neg (by omega)]
        have i2 := ih (f + 1) (c + 1) m (by omega) (by omega) (by omega)
        rw [nI_succ, nI_succ, show k - (c + 1) = k - c - 1 by omega] at i2
        exact i2
    | false =>
      simp only [Bool.false_eq_true, if_false]
      rw [if_pos one_0]
      have i2 := ih (f + 1) c m (by omega) (by omega) hc
      rw [nI_succ] at i2
      exact i2
theorem x2_pc {n k : Nat} (hn : n ≤ 6) (hk : k < 100) : F_X2_codeOf (nI n) (nI k) = some (match pcd (2 ^ n) (2 ^ n) k with | none => (-1 : Int32) | some r => nI r) := by
  have h6 := Nat.pow_le_pow_right (show 0 < 2 by decide) hn
  unfold F_X2_codeOf
  rw [(sh_2i n (by omega)).2]
  have e := x2_pc_l hn hk (fun y => some y) (fun _ => some (-1 : Int32)) (2 ^ n) (2 ^ n) 0 20000 (by rw [Nat.pow_succ]; omega) (by omega) (by omega)
  refine Eq.trans e ?_
  rw [Nat.sub_zero]
  cases pcd (2 ^ n) (2 ^ n) k <;> rfl
