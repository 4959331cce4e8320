/-! M4. texts: what a builder holds -/
noncomputable def CAP (n : Nat) : Prop := n = 16 ∨ n = 34 ∨ n = 70 ∨ n = 142 ∨ n = 286
noncomputable def BY (f : Nat → Int32) : Prop := ∀ i, fits .byte (.int (f i)) = true
theorem BY_0 : BY (fun _ => (0 : Int32)) := fun _ => (rfl : fits .byte (.int (0 : Int32)) = true)
theorem BY_nar (x : Int32) : fits .byte (.int (vp_nar .byte x)) = true := by
  rw [vp_nar_byte]
  generalize x.toInt8 = y
  have h1 := y.le_toInt
  have h2 := y.toInt_lt
  have e : (y.toInt32).toInt = y.toInt := Int8.toInt_toInt32 y
  show ((-128 : Int32) ≤ y.toInt32 && y.toInt32 ≤ (127 : Int32)) = true
  rw [Bool.and_eq_true]
  refine ⟨?_, ?_⟩
  · refine decide_eq_true ?_
    rw [Int32.le_iff_toInt_le, e, show (-128 : Int32).toInt = -128 from by decide]
    omega
  · refine decide_eq_true ?_
    rw [Int32.le_iff_toInt_le, e, show (127 : Int32).toInt = 127 from by decide]
    omega
theorem BY_upd {f : Nat → Int32} (h : BY f) (i : Nat) (x : Int32) : BY (upd f i (vp_nar .byte x)) := fun k => by
  show fits .byte (.int (if k = i then vp_nar .byte x else f k)) = true
  split
  · exact BY_nar x
  · exact h k
theorem BY_cpy {f g : Nat → Int32} (h : BY f) (hg : BY g) (a b n : Nat) : BY (va_cpy f g a b n) := fun k => by
  show fits .byte (.int (if b ≤ k ∧ k < b + n then f (a + (k - b)) else g k)) = true
  split
  · exact h _
  · exact hg k
theorem cl_N {k : Nat} (h : k < 2 ^ 31) : (nI k).toNatClampNeg = k := by
  rw [Int32.toNatClampNeg, nI_toInt h]
  rfl
theorem tx_nc : ∀ n, n ∈ [16, 34, 70, 142] → ∀ j, j < 4 → 0 < j → F_J5_newCapacity_0f7a4 0 n (nI (n + j)) = some (nI (2 * n + 2)) := by decide +kernel
theorem tx_nc2 : ∀ n, n ∈ [16, 34, 70, 142] → (nI (2 * n + 2) <<< ((0 : Int32) &&& 31)) = nI (2 * n + 2) := by decide +kernel
theorem tx_sh : ∀ n, n ∈ [16, 34, 70, 142, 286] → (Int32.ofNat n >>> ((0 : Int32) &&& 31)) = nI n := by decide +kernel
theorem CAP_m {n : Nat} (h : CAP n) : n ∈ [16, 34, 70, 142, 286] := by
  rcases h with h | h | h | h | h <;> subst h <;> decide
theorem tx_copyOf {n m : Nat} {f : Nat → Int32} (h : n < m) (hm : m ≤ 300) (hf : BY f) : ok (F_J7_copyOf_9075b n f (nI m)) (fun r => r.1 = m ∧ BY r.2) := by
  unfold F_J7_copyOf_9075b
  rw [if_neg (fun h9 => by have := (nI_eq (a := m) (b := n) (by omega) (by omega)).mp h9; omega)]
  have h1 : ¬ nI m < 0 := nI_pos (by omega)
  have h2 : (nI m).toNatClampNeg = m := cl_N (by omega)
  have h3 : (if nI m < Int32.ofNat n then nI m else Int32.ofNat n) = nI n := if_neg (fun h9 => by have := (nI_ltI (a := m) (b := n) (by omega) (by omega)).mp h9; omega)
  have h4 : (nI n).toNatClampNeg = n := cl_N (by omega)
  have h5 : ¬ nI n < 0 := nI_pos (by omega)
  rw [h3, h2, h4]
  refine ok_c ⟨h1, hm⟩ (ok_c ⟨by decide, by decide, h5, by rw [show (0 : Int32).toNatClampNeg = 0 from rfl]; omega, by rw [show (0 : Int32).toNatClampNeg = 0 from rfl]; omega, fun i _ => hf _⟩ (ok_b (ok_s ⟨rfl, BY_cpy hf BY_0 _ _ _⟩)))
theorem tx_ens {n k : Nat} {f : Nat → Int32} (hn : CAP n) (hk : k ≤ n + 3) (hk2 : k ≤ 286) (hf : BY f) : ok (F_J5_ensureCapacityInternal_d00df 0 n f (nI k)) (fun r => CAP r.1 ∧ k ≤ r.1 ∧ BY r.2) := by
  unfold F_J5_ensureCapacityInternal_d00df
  have hb : n ≤ 286 := by rcases hn with h | h | h | h | h <;> omega
  rw [tx_sh n (CAP_m hn)]
  refine ok_b ?_
  by_cases hle : k ≤ n
  · rw [if_pos (by
      rw [Int32.le_iff_toInt_le, subT (by rw [nI_toInt (by omega), nI_toInt (by omega)]; omega) (by rw [nI_toInt (by omega), nI_toInt (by omega)]; omega), nI_toInt (by omega), nI_toInt (by omega), show (0 : Int32).toInt = 0 from by decide]
      omega)]
    exact ok_s ⟨hn, hle, hf⟩
  · rw [if_neg (by
      rw [Int32.le_iff_toInt_le, subT (by rw [nI_toInt (by omega), nI_toInt (by omega)]; omega) (by rw [nI_toInt (by omega), nI_toInt (by omega)]; omega), nI_toInt (by omega), nI_toInt (by omega), show (0 : Int32).toInt = 0 from by decide]
      omega)]
    have hm : n ∈ [16, 34, 70, 142] := by
      rcases hn with h | h | h | h | h
      · subst h; decide
      · subst h; decide
      · subst h; decide
      · subst h; decide
      · omega
    have e := tx_nc n hm (k - n) (by omega) (by omega)
    rw [show n + (k - n) = k by omega] at e
    rw [e]
    show ok (obn2 (F_J7_copyOf_9075b n f (nI (2 * n + 2) <<< ((0 : Int32) &&& 31))) _) _
    rw [tx_nc2 n hm]
    have h300 : 2 * n + 2 ≤ 286 := by
      rcases hn with h | h | h | h | h
      · omega
      · omega
      · omega
      · omega
      · omega
    refine ok_o2 (tx_copyOf (n := n) (m := 2 * n + 2) (f := f) (by omega) (by omega) hf) (fun a b h => ?_)
    obtain ⟨h1, h2⟩ := h
    have h1 : a = 2 * n + 2 := h1
    have hn16 : 16 ≤ n := by rcases hn with h | h | h | h | h <;> omega
    refine ok_s ⟨?_, by show k ≤ a; omega, h2⟩
    show CAP a
    rw [h1]
    rcases hn with h | h | h | h | h
    · subst h; exact Or.inr (Or.inl rfl)
    · subst h; exact Or.inr (Or.inr (Or.inl rfl))
    · subst h; exact Or.inr (Or.inr (Or.inr (Or.inl rfl)))
    · subst h; exact Or.inr (Or.inr (Or.inr (Or.inr rfl)))
    · omega
theorem i_nat {x : Int32} (h : 0 ≤ x.toInt) : x = nI x.toInt.toNat := by
  have hr := x.toInt_lt
  refine Int32.toInt_inj.mp ?_
  rw [nI_toInt (by omega)]
  omega
theorem sp_J4_init_da8c8 : ok F_J4_init_da8c8 (fun r => r.1 = 0 ∧ CAP r.2.1 ∧ r.2.1 = 16 ∧ BY r.2.2) := by
  unfold F_J4_init_da8c8 F_J5_init_d00df
  exact ok_s ⟨rfl, Or.inl rfl, rfl, BY_0⟩
theorem sp_J4_length_8abf5 (c_t_count : Int32) : ok (F_J4_length_8abf5 c_t_count) (fun r => r = c_t_count) := ok_s rfl
/-- one sign is put behind -/
theorem sp_J4_append_cf468 (c_t_coder : Int32) (c_t_count : Int32) (n_t_value : Nat) (f_t_value : Nat → Int32) (p0 : Int32) (h0 : c_t_coder = 0) (h1 : 0 ≤ c_t_count.toInt) (h2 : c_t_count.toInt ≤ n_t_value) (h3 : c_t_count.toInt ≤ 285) (h4 : CAP n_t_value) (h5 : BY f_t_value) (h6 : p0.toInt ≤ 255) : ok (F_J4_append_cf468 c_t_coder c_t_count n_t_value f_t_value p0) (fun r => r.1.toInt = c_t_count.toInt + 1 ∧ r.1.toInt ≤ r.2.1 ∧ CAP r.2.1 ∧ BY r.2.2) := by
  subst h0
  obtain ⟨k, hk, rfl⟩ : ∃ k : Nat, k ≤ 285 ∧ c_t_count = nI k := ⟨c_t_count.toInt.toNat, by omega, i_nat h1⟩
  rw [nI_toInt (by omega)] at h1 h2 h3 ⊢
  unfold F_J4_append_cf468 F_J5_append_3fe6f
  have e1 : nI k + (1 : Int32) = nI (k + 1) := (nI_succ k).symm
  rw [e1]
  refine ok_o3 (P := fun r : Int32 × Nat × (Nat → Int32) => r.1.toInt = (k : Int) + 1 ∧ r.1.toInt ≤ r.2.1 ∧ CAP r.2.1 ∧ BY r.2.2) (ok_o2 (tx_ens h4 (k := k + 1) (by omega) (by omega) h5) (fun n1 f1 h => ?_)) (fun a b c h => ok_s h)
  obtain ⟨g1, g2, g3⟩ := h
  have g2 : k + 1 ≤ n1 := g2
  refine ok_o (P := fun r => r = 1) (o := F_J5_isLatin1_aae02 0) ⟨1, rfl, rfl⟩ (fun r hr => ?_)
  subst hr
  rw [if_neg (show ¬ (1 : Int32) = 0 by decide)]
  refine ok_o (P := fun r => r = 1) (o := F_J1_canEncode_fc78d p0) ?_ (fun r hr => ?_)
  · unfold F_J1_canEncode_fc78d
    rw [if_neg (show ¬ (255 : Int32) < p0 from fun h9 => by rw [Int32.lt_iff_toInt_lt, show (255 : Int32).toInt = 255 from by decide] at h9; omega)]
    exact ok_s rfl
  subst hr
  rw [if_neg (show ¬ (1 : Int32) = 0 by decide)]
  refine ok_b (ok_c (ixo (by rw [nI_toInt (by omega)]; omega) (by rw [nI_toInt (by omega)]; omega)) (ok_b (ok_s ⟨?_, ?_, g1, BY_upd g3 _ _⟩)))
  · show (nI (k + 1)).toInt = _
    rw [nI_toInt (by omega)]; omega
  · show (nI (k + 1)).toInt ≤ (n1 : Int)
    rw [nI_toInt (by omega)]; omega
theorem tx_ss : ∀ v, v < 100 → F_J6_stringSize_0f7a4 (nI v) = some (nI (if v < 10 then 1 else 2)) := by decide +kernel
theorem tx_ng : ∀ v, v < 100 → (-100 : Int32) < -nI v ∧ -(-nI v) = nI v ∧ ((-9 : Int32) ≤ -nI v ↔ v < 10) := by decide +kernel
theorem tx_gc {n k v : Nat} {f : Nat → Int32} (hv : v < 100) (hk : k ≤ n) (hn : n ≤ 300) (hs : (if v < 10 then 1 else 2) ≤ k) (hf : BY f) : ok (F_J6_getChars_ba4f3 n f (nI v) (nI k)) (fun r => BY r.2) := by
  obtain ⟨g1, g2, g3⟩ := tx_ng v hv
  unfold F_J6_getChars_ba4f3
  rw [if_pos (nI_pos' (by omega))]
  refine ok_b ?_
  show ok (S_J6_getChars_ba4f3_22 _ _ (-nI v) (nI k)) _
  unfold S_J6_getChars_ba4f3_22
  rw [if_pos g1]
  have e1 : nI k + (-1) = nI (k - 1) := by
    have := nI_pred (k - 1)
    rw [show k - 1 + 1 = k by split at hs <;> omega] at this
    rw [← this, Int32.sub_eq_add_neg]
  refine ok_b ?_
  rw [e1, g2]
  have hv2 : (nI v).toNatClampNeg = v := cl_N (by omega)
  refine ok_c (ixo (by rw [nI_toInt (by omega)]; omega) (by rw [nI_toInt (by omega)]; omega)) (ok_c (ixo (by rw [nI_toInt (by omega)]; omega) (by rw [nI_toInt (by omega)]; split at hs <;> omega)) (ok_b ?_))
  by_cases h10 : v < 10
  · rw [if_pos (g3.mpr h10)]
    exact ok_s (BY_upd hf _ _)
  · rw [if_neg (fun h => h10 (g3.mp h))]
    rw [if_neg h10] at hs
    have e2 : nI (k - 1) + (-1) = nI (k - 2) := by
      have := nI_pred (k - 2)
      rw [show k - 2 + 1 = k - 1 by omega] at this
      rw [← this, Int32.sub_eq_add_neg]
    refine ok_b ?_
    rw [e2]
    exact ok_c (ixo (by rw [nI_toInt (by omega)]; omega) (by rw [nI_toInt (by omega)]; omega)) (ok_c (ixo (by rw [nI_toInt (by omega)]; omega) (by rw [nI_toInt (by omega)]; omega)) (ok_b (ok_s (BY_upd (BY_upd hf _ _) _ _))))
/-- a number below 100 is put behind -/
theorem sp_J4_append_bf812 (c_t_coder : Int32) (c_t_count : Int32) (n_t_value : Nat) (f_t_value : Nat → Int32) (p0 : Int32) (h0 : c_t_coder = 0) (h1 : 0 ≤ c_t_count.toInt) (h2 : c_t_count.toInt ≤ n_t_value) (h3 : c_t_count.toInt ≤ 284) (h4 : CAP n_t_value) (h5 : BY f_t_value) (h6 : 0 ≤ p0.toInt) (h7 : p0.toInt ≤ 99) : ok (F_J4_append_bf812 c_t_coder c_t_count n_t_value f_t_value p0) (fun r => c_t_count.toInt + 1 ≤ r.1.toInt ∧ r.1.toInt ≤ c_t_count.toInt + 2 ∧ r.1.toInt ≤ r.2.1 ∧ CAP r.2.1 ∧ BY r.2.2) := by
  subst h0
  obtain ⟨k, hk, rfl⟩ : ∃ k : Nat, k ≤ 284 ∧ c_t_count = nI k := ⟨c_t_count.toInt.toNat, by omega, i_nat h1⟩
  obtain ⟨v, hv, rfl⟩ := i_of (n := 99) h6 h7
  rw [nI_toInt (by omega)] at h1 h2 h3 ⊢
  unfold F_J4_append_bf812 F_J5_append_c97b9
  rw [tx_ss v (by omega)]
  have hsz : (if v < 10 then 1 else 2) ≤ 2 ∧ 1 ≤ (if v < 10 then 1 else 2) := by split <;> omega
  generalize hz : (if v < 10 then 1 else 2) = z at hsz
  refine ok_o3 (P := fun r : Int32 × Nat × (Nat → Int32) => (k : Int) + 1 ≤ r.1.toInt ∧ r.1.toInt ≤ (k : Int) + 2 ∧ r.1.toInt ≤ r.2.1 ∧ CAP r.2.1 ∧ BY r.2.2) ?_ (fun a b c h => ok_s h)
  refine ok_o (P := fun r => r = nI z) (ok_s rfl) (fun r hr => ?_)
  subst hr
  rw [nI_add]
  refine ok_b (ok_o2 (tx_ens h4 (k := k + z) (by omega) (by omega) h5) (fun n1 f1 h => ?_))
  obtain ⟨g1, g2, g3⟩ := h
  have g2 : k + z ≤ n1 := g2
  have hb : n1 ≤ 286 := by rcases g1 with h | h | h | h | h <;> (have h : n1 = _ := h) <;> omega
  refine ok_o (P := fun r => r = 1) (o := F_J5_isLatin1_aae02 0) ⟨1, rfl, rfl⟩ (fun r hr => ?_)
  subst hr
  rw [if_neg (show ¬ (1 : Int32) = 0 by decide)]
  refine ok_o2 (tx_gc (n := n1) (k := k + z) (v := v) (f := f1) (by omega) (by omega) (by omega) (by rw [hz]; omega) g3) (fun a b h => ok_s ⟨?_, ?_, ?_, g1, h⟩)
  · show (k : Int) + 1 ≤ (nI (k + z)).toInt
    rw [nI_toInt (by omega)]; omega
  · show (nI (k + z)).toInt ≤ (k : Int) + 2
    rw [nI_toInt (by omega)]; omega
  · show (nI (k + z)).toInt ≤ (n1 : Int)
    rw [nI_toInt (by omega)]; omega
theorem tx_kl : ∀ s, s < 2 → kLen.getD s 0 = s ∧ F_J0_length_8abf5 s = some (nI s) := by decide +kernel
theorem tx_kb (s : Nat) (i : Nat) : fits .byte (.int ((kByt.getD s []).getD i 0)) = true := by
  unfold kByt
  match s with
  | 0 => rfl
  | 1 => match i with
    | 0 => rfl
    | i + 1 => rfl
  | s + 2 => rfl
theorem tx_s0 : ∀ k, k < 300 → (nI k <<< ((0 : Int32) &&& 31)) = nI k := by decide +kernel
/-- one of the two texts "" and " " is put behind -/
theorem sp_J4_append_15ec4 (c_t_coder : Int32) (c_t_count : Int32) (n_t_value : Nat) (f_t_value : Nat → Int32) (k_q0 : Nat) (h0 : c_t_coder = 0) (h1 : 0 ≤ c_t_count.toInt) (h2 : c_t_count.toInt ≤ n_t_value) (h3 : c_t_count.toInt ≤ 285) (h4 : CAP n_t_value) (h5 : BY f_t_value) (h6 : k_q0 ≤ 1) : ok (F_J4_append_15ec4 c_t_coder c_t_count n_t_value f_t_value k_q0) (fun r => c_t_count.toInt ≤ r.1.toInt ∧ r.1.toInt ≤ c_t_count.toInt + 1 ∧ r.1.toInt ≤ r.2.1 ∧ CAP r.2.1 ∧ BY r.2.2) := by
  subst h0
  obtain ⟨k, hk, rfl⟩ : ∃ k : Nat, k ≤ 285 ∧ c_t_count = nI k := ⟨c_t_count.toInt.toNat, by omega, i_nat h1⟩
  rw [nI_toInt (by omega)] at h1 h2 h3 ⊢
  obtain ⟨l1, l2⟩ := tx_kl k_q0 (by omega)
  unfold F_J4_append_15ec4 F_J5_append_cf1ce
  rw [l2]
  refine ok_o3 (P := fun r : Int32 × Nat × (Nat → Int32) => (k : Int) ≤ r.1.toInt ∧ r.1.toInt ≤ (k : Int) + 1 ∧ r.1.toInt ≤ r.2.1 ∧ CAP r.2.1 ∧ BY r.2.2) ?_ (fun a b c h => ok_s h)
  refine ok_o (P := fun r => r = nI k_q0) (ok_s rfl) (fun r hr => ?_)
  subst hr
  rw [nI_add]
  refine ok_o2 (tx_ens h4 (k := k + k_q0) (by omega) (by omega) h5) (fun n1 f1 h => ?_)
  obtain ⟨g1, g2, g3⟩ := h
  have g2 : k + k_q0 ≤ n1 := g2
  have hput : ok (F_J5_putStringAt_47b60 0 n1 f1 k_q0 (nI k)) (fun r => BY r) := by
    unfold F_J5_putStringAt_47b60 F_J0_getBytes_840e7
    refine ok_o (P := fun _ => True) (o := F_J5_inflateIfNeededFor_a7421 0) ⟨(), rfl, trivial⟩ (fun _ _ => ?_)
    refine ok_o (P := fun r => BY r) ?_ (fun r h => ok_s h)
    refine ok_o (P := fun r => r = 0) (o := F_J0_coder_7d493) ⟨0, rfl, rfl⟩ (fun r hr => ?_)
    subst hr
    rw [if_pos rfl, l1, tx_s0 k (by omega)]
    have e1 : (Int32.ofNat k_q0).toNatClampNeg = k_q0 := cl_N (k := k_q0) (by omega)
    have e2 : (nI k).toNatClampNeg = k := cl_N (by omega)
    rw [e1, e2]
    refine ok_c ⟨by decide, nI_pos (by omega), nI_pos (n := k_q0) (by omega), ?_, ?_, fun i _ => tx_kb _ _⟩ (ok_b (ok_s (BY_cpy (f := fun j => (kByt.getD k_q0 []).getD j 0) (fun i => tx_kb _ _) g3 _ _ _)))
    · rw [show (0 : Int32).toNatClampNeg = 0 from rfl]; omega
    · omega
  refine ok_o hput (fun f2 h => ok_b (ok_s ⟨?_, ?_, ?_, g1, h⟩))
  · show (k : Int) ≤ (nI (k + k_q0)).toInt
    rw [nI_toInt (by omega)]; omega
  · show (nI (k + k_q0)).toInt ≤ (k : Int) + 1
    rw [nI_toInt (by omega)]; omega
  · show (nI (k + k_q0)).toInt ≤ (n1 : Int)
    rw [nI_toInt (by omega)]; omega
theorem sp_J4_toString_0e30d (c_t_coder : Int32) (c_t_count : Int32) (n_t_value : Nat) (f_t_value : Nat → Int32) (h0 : c_t_coder = 0) (h1 : 0 ≤ c_t_count.toInt) (h2 : c_t_count.toInt ≤ n_t_value) (h4 : CAP n_t_value) (h5 : BY f_t_value) : ok (F_J4_toString_0e30d c_t_coder c_t_count n_t_value f_t_value) (fun _ => True) := by
  subst h0
  have hb : n_t_value ≤ 286 := by rcases h4 with h | h | h | h | h <;> omega
  obtain ⟨k, hk, rfl⟩ : ∃ k : Nat, k ≤ 286 ∧ c_t_count = nI k := ⟨c_t_count.toInt.toNat, by omega, i_nat h1⟩
  rw [nI_toInt (by omega)] at h1 h2
  have hk2 : k ≤ n_t_value := by omega
  have hr : ok (F_J7_copyOfRange_39247 n_t_value f_t_value 0 (nI k)) (fun _ => True) := by
    unfold F_J7_copyOfRange_39247
    rw [if_pos rfl]
    refine ok_i (fun _ => ok_c ⟨by omega, fun i _ => h5 i⟩ (ok_s trivial)) (fun _ => ?_)
    refine ok_o2 (P := fun _ => True) ?_ (fun a b _ => ok_s trivial)
    unfold F_J7_copyOfRangeByte_39247 F_J7_checkLength_df160
    rw [if_pos (nI_pos' (by omega))]
    have z1 : nI k - (0 : Int32) = nI k := Int32.sub_zero _
    have z2 : Int32.ofNat n_t_value - (0 : Int32) = nI n_t_value := Int32.sub_zero _
    refine ok_o (P := fun _ => True) (ok_s trivial) (fun _ _ => ?_)
    rw [z1, z2]
    have e2 : (nI k).toNatClampNeg = k := cl_N (by omega)
    have h3 : (if nI k < nI n_t_value then nI k else nI n_t_value) = nI k := by
      split
      · rfl
      · rename_i h9
        rw [nI_ltI (by omega) (by omega)] at h9
        rw [show n_t_value = k by omega]
    refine ok_b ?_
    rw [h3, e2]
    refine ok_c ⟨nI_pos (by omega), by omega⟩ (ok_c ⟨by decide, by decide, nI_pos (by omega), ?_, ?_, fun i _ => h5 _⟩ (ok_b (ok_s trivial)))
    · rw [show (0 : Int32).toNatClampNeg = 0 from rfl]; omega
    · rw [show (0 : Int32).toNatClampNeg = 0 from rfl]; omega
  have hi : ok (F_J0_init_db425 0 (nI k) n_t_value f_t_value) (fun _ => True) := by
    unfold F_J0_init_db425
    refine ok_o (P := fun _ => True) (o := F_J5_getValue_6d5f1) ⟨(), rfl, trivial⟩ (fun _ _ => ?_)
    refine ok_o (P := fun r => r = nI k) (o := F_J4_length_8abf5 (nI k)) ⟨_, rfl, rfl⟩ (fun r hr9 => ?_)
    subst hr9
    refine ok_o (P := fun r => r = 1) (o := F_J5_isLatin1_aae02 0) ⟨1, rfl, rfl⟩ (fun r hr9 => ?_)
    subst hr9
    rw [if_neg (show ¬ (1 : Int32) = 0 by decide)]
    exact ok_o2 hr (fun a b _ => ok_s trivial)
  unfold F_J4_toString_0e30d F_J0_init_81219
  exact ok_o3 (P := fun _ => True) (ok_o3 hi (fun a b c _ => ok_s trivial)) (fun a b c _ => ok_s trivial)
