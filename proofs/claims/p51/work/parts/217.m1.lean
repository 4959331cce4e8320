/-! M1. Forms as numbers: sum is exclusive or; product, division -/
theorem mx_top {n x : Nat} (h1 : 2 ^ n ≤ x) (h2 : x < 2 ^ (n + 1)) : x.testBit n = true := Nat.testBit_of_two_pow_le_and_two_pow_add_one_gt h1 h2
theorem mx_lt {n x : Nat} (h2 : x < 2 ^ (n + 1)) (hb : x.testBit n = false) : x < 2 ^ n := by
  rcases Nat.lt_or_ge x (2 ^ n) with h | h
  · exact h
  · rw [mx_top h h2] at hb; cases hb
theorem mx_cut {n x : Nat} (h1 : 2 ^ n ≤ x) (h2 : x < 2 ^ (n + 1)) : x ^^^ 2 ^ n < 2 ^ n := by
  refine mx_lt (Nat.xor_lt_two_pow h2 (Nat.pow_lt_pow_right (by decide) (Nat.lt_succ_self n))) ?_
  rw [Nat.testBit_xor, mx_top h1 h2, Nat.testBit_two_pow_self]; rfl
theorem mx_xx (x y : Nat) : (x ^^^ y) ^^^ y = x := by rw [Nat.xor_assoc, Nat.xor_self, Nat.xor_zero]
theorem mx_lin0 {f : Nat → Nat} (hf : ∀ x y, f (x ^^^ y) = f x ^^^ f y) : f 0 = 0 := by
  have h := hf 0 0
  rw [Nat.xor_self, Nat.xor_self] at h; exact h
/-- two sums' maps that agree on the digits agree -/
theorem mx_ind {f g : Nat → Nat} (hf : ∀ x y, f (x ^^^ y) = f x ^^^ f y) (hg : ∀ x y, g (x ^^^ y) = g x ^^^ g y) : ∀ (n : Nat), (∀ i, i < n → f (2 ^ i) = g (2 ^ i)) → ∀ x, x < 2 ^ n → f x = g x := by
  intro n
  induction n with
  | zero =>
    intro _ x hx
    have h0 : x = 0 := by omega
    rw [h0, mx_lin0 hf, mx_lin0 hg]
  | succ n ih =>
    intro h x hx
    have ih' := ih (fun i hi => h i (Nat.lt_succ_of_lt hi))
    rcases Nat.lt_or_ge x (2 ^ n) with hl | hl
    · exact ih' x hl
    · have h1 := mx_cut hl hx
      have e : x = (x ^^^ 2 ^ n) ^^^ 2 ^ n := (mx_xx x _).symm
      rw [e, hf, hg, ih' _ h1, h n (Nat.lt_succ_self n)]
/-- the product of a by the digits of b below n -/
noncomputable def pm : Nat → Nat → Nat → Nat
  | 0, _, _ => 0
  | k + 1, a, b => pm k a b ^^^ (if b.testBit k then a <<< k else 0)
theorem pm_xl (n x y b : Nat) : pm n (x ^^^ y) b = pm n x b ^^^ pm n y b := by
  induction n with
  | zero => simp [pm]
  | succ k ih =>
    simp only [pm, ih]
    cases b.testBit k with
    | false => simp
    | true => simp only [if_true, Nat.shiftLeft_xor_distrib]; ac_rfl
theorem pm_xr (n a x y : Nat) : pm n a (x ^^^ y) = pm n a x ^^^ pm n a y := by
  induction n with
  | zero => simp [pm]
  | succ k ih =>
    simp only [pm, ih, Nat.testBit_xor]
    cases x.testBit k <;> cases y.testBit k
    · simp
    · simp; ac_rfl
    · simp; ac_rfl
    · simp
      have : pm k a x ^^^ a <<< k ^^^ (pm k a y ^^^ a <<< k) = pm k a x ^^^ pm k a y ^^^ (a <<< k ^^^ a <<< k) := by ac_rfl
      rw [this, Nat.xor_self, Nat.xor_zero]
theorem pm_0l (n b : Nat) : pm n 0 b = 0 := mx_lin0 (f := fun x => pm n x b) (fun x y => pm_xl n x y b)
theorem pm_0r (n a : Nat) : pm n a 0 = 0 := mx_lin0 (f := fun x => pm n a x) (fun x y => pm_xr n a x y)
theorem pm_ext {n k a b : Nat} (hb : b < 2 ^ k) (h : k ≤ n) : pm n a b = pm k a b := by
  induction n with
  | zero => have : k = 0 := by omega
            rw [this]
  | succ n ih =>
    rcases Nat.lt_or_ge k (n + 1) with h1 | h1
    · have h2 : b.testBit n = false := Nat.testBit_lt_two_pow (Nat.lt_of_lt_of_le hb (Nat.pow_le_pow_right (by decide) (by omega)))
      rw [pm, h2, ih (by omega)]; simp
    · have : k = n + 1 := by omega
      rw [this]
theorem pm_pow (n a j : Nat) : pm n a (2 ^ j) = if j < n then a <<< j else 0 := by
  induction n with
  | zero => simp [pm]
  | succ n ih =>
    rw [pm, ih, Nat.testBit_two_pow]
    rcases Nat.lt_trichotomy j n with h | h | h
    · have h1 : ¬ j = n := by omega
      simp [h, h1, show j < n + 1 by omega]
    · subst h; simp
    · have h1 : ¬ j = n := by omega
      simp [h1, show ¬ j < n by omega, show ¬ j < n + 1 by omega]
/-- the product -/
noncomputable def cl (a b : Nat) : Nat := pm 64 a b
theorem cl_xl (x y b : Nat) : cl (x ^^^ y) b = cl x b ^^^ cl y b := pm_xl 64 x y b
theorem cl_xr (a x y : Nat) : cl a (x ^^^ y) = cl a x ^^^ cl a y := pm_xr 64 a x y
theorem cl_0l (b : Nat) : cl 0 b = 0 := pm_0l 64 b
theorem cl_0r (a : Nat) : cl a 0 = 0 := pm_0r 64 a
theorem cl_pow {a j : Nat} (h : j < 64) : cl a (2 ^ j) = a <<< j := by rw [cl, pm_pow, if_pos h]
theorem cl_1 (a : Nat) : cl a 1 = a := by
  have := @cl_pow a 0 (by decide)
  simpa using this
theorem shl_lin (i : Nat) (x y : Nat) : (x ^^^ y) <<< i = x <<< i ^^^ y <<< i := Nat.shiftLeft_xor_distrib
theorem cl_powl {i b : Nat} (hb : b < 2 ^ 64) : cl (2 ^ i) b = b <<< i := by
  refine mx_ind (f := fun b => cl (2 ^ i) b) (g := fun b => b <<< i) (fun x y => cl_xr _ x y) (fun x y => shl_lin i x y) 64 (fun j hj => ?_) b hb
  show cl (2 ^ i) (2 ^ j) = 2 ^ j <<< i
  rw [cl_pow hj, Nat.shiftLeft_eq, Nat.shiftLeft_eq, Nat.mul_comm]
theorem cl_comm {a b : Nat} (ha : a < 2 ^ 64) (hb : b < 2 ^ 64) : cl a b = cl b a := by
  refine mx_ind (f := fun a => cl a b) (g := fun a => cl b a) (fun x y => cl_xl x y b) (fun x y => cl_xr b x y) 64 (fun j hj => ?_) a ha
  show cl (2 ^ j) b = cl b (2 ^ j)
  rw [cl_pow hj, cl_powl hb]
theorem cl_1l {b : Nat} (hb : b < 2 ^ 64) : cl 1 b = b := by
  have := @cl_powl 0 b hb
  simpa using this
theorem pm_shl (n a b k : Nat) : pm n (a <<< k) b = pm n a b <<< k := by
  induction n with
  | zero => simp [pm]
  | succ n ih =>
    simp only [pm, ih, shl_lin]
    cases b.testBit n with
    | false => simp
    | true =>
      simp only [if_true]
      rw [← Nat.shiftLeft_add, ← Nat.shiftLeft_add, Nat.add_comm]
theorem cl_shl (a b k : Nat) : cl (a <<< k) b = cl a b <<< k := pm_shl 64 a b k
/-- how many places a form reaches over: one more than its degree -/
noncomputable def bl (a : Nat) : Nat := if a = 0 then 0 else a.log2 + 1
theorem bl_le {a k : Nat} : bl a ≤ k ↔ a < 2 ^ k := by
  unfold bl
  by_cases h : a = 0
  · subst h; simp [Nat.two_pow_pos]
  · rw [if_neg h, Nat.succ_le_iff, Nat.log2_lt h]
theorem bl_gt {a k : Nat} : k < bl a ↔ 2 ^ k ≤ a := by
  rw [← Nat.not_le, bl_le, Nat.not_lt]
theorem lt_bl (a : Nat) : a < 2 ^ bl a := bl_le.mp (Nat.le_refl _)
theorem bl_0 : bl 0 = 0 := rfl
theorem bl_pos {a : Nat} (h : a ≠ 0) : 0 < bl a := by unfold bl; rw [if_neg h]; omega
theorem bl_eq0 {a : Nat} : bl a = 0 ↔ a = 0 := by
  constructor
  · intro h
    have := lt_bl a
    rw [h] at this; omega
  · intro h; rw [h]; rfl
theorem bl_top {a : Nat} (h : a ≠ 0) : a.testBit (bl a - 1) = true := by
  have h1 := bl_pos h
  refine mx_top (bl_gt.mp (by omega)) ?_
  have : bl a - 1 + 1 = bl a := by omega
  rw [this]; exact lt_bl a
theorem bl_of {a k : Nat} (h1 : 2 ^ k ≤ a) (h2 : a < 2 ^ (k + 1)) : bl a = k + 1 := by
  have a1 := bl_gt.mpr h1
  have a2 := bl_le.mpr h2
  omega
theorem bl_bit {a k : Nat} (hb : a.testBit k = true) (h2 : a < 2 ^ (k + 1)) : bl a = k + 1 := bl_of (Nat.ge_two_pow_of_testBit hb) h2
theorem bl_mono {a b : Nat} (h : a ≤ b) : bl a ≤ bl b := bl_le.mpr (Nat.lt_of_le_of_lt h (lt_bl b))
theorem bl_xor {a b k : Nat} (ha : bl a ≤ k) (hb : bl b ≤ k) : bl (a ^^^ b) ≤ k := bl_le.mpr (Nat.xor_lt_two_pow (bl_le.mp ha) (bl_le.mp hb))
theorem bl_shl {a k : Nat} (h : a ≠ 0) : bl (a <<< k) = bl a + k := by
  have h1 := bl_pos h
  have h2 : bl a + k = (bl a - 1 + k) + 1 := by omega
  rw [h2]
  refine bl_of ?_ ?_
  · rw [Nat.shiftLeft_eq, Nat.pow_add]
    exact Nat.mul_le_mul_right _ (bl_gt.mp (by omega))
  · rw [Nat.shiftLeft_eq, show bl a - 1 + k + 1 = bl a + k by omega, Nat.pow_add]
    exact Nat.mul_lt_mul_of_pos_right (lt_bl a) (Nat.two_pow_pos k)
theorem pm_lt {i : Nat} {a : Nat} (ha : a < 2 ^ (i + 1)) (n b : Nat) : pm n a b < 2 ^ (i + n) := by
  induction n with
  | zero => rw [pm]; exact Nat.two_pow_pos _
  | succ n ih =>
    rw [pm]
    have h1 : pm n a b < 2 ^ (i + (n + 1)) := Nat.lt_of_lt_of_le ih (Nat.pow_le_pow_right (by decide) (by omega))
    refine Nat.xor_lt_two_pow h1 ?_
    split
    · rw [Nat.shiftLeft_eq, show i + (n + 1) = (i + 1) + n by omega, Nat.pow_add]
      exact Nat.mul_lt_mul_of_pos_right ha (Nat.two_pow_pos n)
    · exact Nat.two_pow_pos _
theorem pm_top {i j a b : Nat} (ha : a < 2 ^ (i + 1)) (hi : a.testBit i = true) (hj : b.testBit j = true) : (pm (j + 1) a b).testBit (i + j) = true := by
  rw [pm, hj, if_pos rfl, Nat.testBit_xor, Nat.testBit_lt_two_pow (pm_lt ha j b), Nat.testBit_shiftLeft, show i + j - j = i by omega, hi]
  simp
/-- the degree of a product -/
theorem cl_bl {a b : Nat} (ha : a ≠ 0) (hb : b ≠ 0) (hb2 : b < 2 ^ 64) : bl (cl a b) = bl a + bl b - 1 := by
  have h1 := bl_pos ha
  have h2 := bl_pos hb
  have h3 : bl b ≤ 64 := bl_le.mpr hb2
  have e : cl a b = pm (bl b - 1 + 1) a b := by
    rw [cl]
    exact pm_ext (by rw [show bl b - 1 + 1 = bl b by omega]; exact lt_bl b) (by omega)
  have ha1 : a < 2 ^ (bl a - 1 + 1) := by rw [show bl a - 1 + 1 = bl a by omega]; exact lt_bl a
  rw [e]
  have t := pm_top (i := bl a - 1) (j := bl b - 1) (b := b) ha1 (bl_top ha) (bl_top hb)
  have l := pm_lt ha1 (bl b - 1 + 1) b
  have := bl_bit t (by rw [show bl a - 1 + (bl b - 1) + 1 = bl a - 1 + (bl b - 1 + 1) by omega]; exact l)
  omega
theorem cl_ne0 {a b : Nat} (ha : a ≠ 0) (hb : b ≠ 0) (hb2 : b < 2 ^ 64) : cl a b ≠ 0 := by
  intro h
  have := cl_bl ha hb hb2
  have h1 := bl_pos ha
  have h2 := bl_pos hb
  rw [h, bl_0] at this
  omega
theorem cl_ble (a : Nat) {b : Nat} (hb2 : b < 2 ^ 64) : bl (cl a b) ≤ bl a + bl b - 1 := by
  by_cases ha : a = 0
  · rw [ha, cl_0l, bl_0]; omega
  · by_cases hb : b = 0
    · rw [hb, cl_0r, bl_0]; omega
    · rw [cl_bl ha hb hb2]; exact Nat.le_refl _
theorem cl_assoc {a b c : Nat} (hb : b < 2 ^ 64) (hbc : bl b + bl c ≤ 65) (hc : c < 2 ^ 64) : cl (cl a b) c = cl a (cl b c) := by
  -- on the digits of c below its own reach
  refine mx_ind (f := fun c => cl (cl a b) c) (g := fun c => cl a (cl b c)) (fun x y => cl_xr _ x y) (fun x y => ?_) (bl c) (fun j hj => ?_) c (lt_bl c)
  · show cl a (cl b (x ^^^ y)) = cl a (cl b x) ^^^ cl a (cl b y)
    rw [cl_xr, cl_xr]
  · have h3 : bl c ≤ 64 := bl_le.mpr hc
    show cl (cl a b) (2 ^ j) = cl a (cl b (2 ^ j))
    rw [cl_pow (by omega), cl_pow (by omega)]
    -- a by a shifted form
    by_cases hb0 : b = 0
    · subst hb0; simp [cl_0r]
    · have hs : bl (b <<< j) ≤ 64 := by rw [bl_shl hb0]; omega
      refine (mx_ind (f := fun b => cl a b <<< j) (g := fun b => cl a (b <<< j)) (fun x y => ?_) (fun x y => ?_) (bl b) (fun i hi => ?_) b (lt_bl b))
      · show cl a (x ^^^ y) <<< j = _
        rw [cl_xr, shl_lin]
      · show cl a ((x ^^^ y) <<< j) = _
        rw [shl_lin, cl_xr]
      · show cl a (2 ^ i) <<< j = cl a (2 ^ i <<< j)
        rw [bl_shl hb0] at hs
        rw [Nat.shiftLeft_eq (2 ^ i), ← Nat.pow_add, cl_pow (by omega), cl_pow (by omega), Nat.shiftLeft_add]
/-! division -/
/-- the loop of the division: u turns are left, l is left, q was found -/
noncomputable def dv (b : Nat) : Nat → Nat → Nat → Nat × Nat
  | 0, l, q => (l, q)
  | u + 1, l, q => if l.testBit (u + (bl b - 1)) then dv b u (l ^^^ b <<< u) (q ||| 1 <<< u) else dv b u l q
noncomputable def dvu (f b : Nat) : Nat := bl f + 1 - bl b
noncomputable def rst (f b : Nat) : Nat := (dv b (dvu f b) f 0).1
noncomputable def quo (f b : Nat) : Nat := (dv b (dvu f b) f 0).2
theorem or_low {q u : Nat} (h : q % 2 ^ (u + 1) = 0) : q ||| 1 <<< u = q ^^^ 2 ^ u ∧ (q ||| 1 <<< u) % 2 ^ u = 0 := by
  have hb : ∀ i, i < u + 1 → q.testBit i = false := fun i hi => by
    have := Nat.testBit_mod_two_pow q (u + 1) i
    rw [h] at this
    simp [hi] at this
    exact this
  have e1 : (1 : Nat) <<< u = 2 ^ u := by rw [Nat.shiftLeft_eq, Nat.one_mul]
  rw [e1]
  have e2 : q ||| 2 ^ u = q ^^^ 2 ^ u := by
    refine Nat.eq_of_testBit_eq fun i => ?_
    rw [Nat.testBit_or, Nat.testBit_xor, Nat.testBit_two_pow]
    by_cases hi : u = i
    · subst hi; rw [hb u (by omega)]; simp
    · simp [hi]
  refine ⟨e2, ?_⟩
  refine Nat.eq_of_testBit_eq fun i => ?_
  rw [Nat.testBit_mod_two_pow, Nat.testBit_or, Nat.testBit_two_pow, Nat.zero_testBit]
  by_cases hi : i < u
  · rw [hb i (by omega)]; simp; omega
  · simp [hi]
theorem dv_spec {b : Nat} (hb : b ≠ 0) : ∀ (u l q : Nat), l < 2 ^ (bl b - 1 + u) → u + bl b ≤ 64 → q % 2 ^ u = 0 →
    (dv b u l q).1 < 2 ^ (bl b - 1) ∧ cl b (dv b u l q).2 ^^^ (dv b u l q).1 = cl b q ^^^ l ∧ (∀ k, q < 2 ^ k → u ≤ k → (dv b u l q).2 < 2 ^ k) := by
  have hbp := bl_pos hb
  intro u
  induction u with
  | zero => intro l q hl _ _; exact ⟨hl, rfl, fun k hk _ => hk⟩
  | succ u ih =>
    intro l q hl hu hq
    rw [dv]
    have e1 : (1 : Nat) <<< u = 2 ^ u := by rw [Nat.shiftLeft_eq, Nat.one_mul]
    cases hbit : l.testBit (u + (bl b - 1)) with
    | true =>
      simp only [if_true]
      obtain ⟨o1, o2⟩ := or_low hq
      have t1 : (b <<< u).testBit (u + (bl b - 1)) = true := by
        rw [Nat.testBit_shiftLeft, show u + (bl b - 1) - u = bl b - 1 by omega, bl_top hb]; simp
      have l1 : b <<< u < 2 ^ (bl b - 1 + (u + 1)) := by
        rw [← bl_le, bl_shl hb]; omega
      have l2 : l ^^^ b <<< u < 2 ^ (bl b - 1 + u) := by
        refine mx_lt (n := bl b - 1 + u) (Nat.xor_lt_two_pow hl l1) ?_
        rw [Nat.testBit_xor, show bl b - 1 + u = u + (bl b - 1) by omega, hbit, t1]; rfl
      obtain ⟨r1, r2, r3⟩ := ih (l ^^^ b <<< u) (q ||| 1 <<< u) l2 (by omega) o2
      refine ⟨r1, ?_, fun k hk huk => r3 k ?_ (by omega)⟩
      · rw [r2, o1, cl_xr, cl_pow (by omega)]
        have : cl b q ^^^ b <<< u ^^^ (l ^^^ b <<< u) = cl b q ^^^ l ^^^ (b <<< u ^^^ b <<< u) := by ac_rfl
        rw [this, Nat.xor_self, Nat.xor_zero]
      · rw [o1]
        exact Nat.xor_lt_two_pow hk (Nat.pow_lt_pow_right (by decide) (by omega))
    | false =>
      have l2 : l < 2 ^ (bl b - 1 + u) := mx_lt (n := bl b - 1 + u) hl (by rw [show bl b - 1 + u = u + (bl b - 1) by omega]; exact hbit)
      have hq2 : q % 2 ^ u = 0 := by
        have h3 : (2 : Nat) ^ u ∣ 2 ^ (u + 1) := Nat.pow_dvd_pow 2 (by omega)
        exact Nat.mod_eq_zero_of_dvd (Nat.dvd_trans h3 (Nat.dvd_of_mod_eq_zero hq))
      obtain ⟨r1, r2, r3⟩ := ih l q l2 (by omega) hq2
      exact ⟨r1, r2, fun k hk huk => r3 k hk (by omega)⟩
/-- the form is quotient by divisor and rest, the rest is below the divisor's degree -/
theorem dm_spec {f b : Nat} (hb : b ≠ 0) (hf : f < 2 ^ 62) (hb2 : b < 2 ^ 62) : cl b (quo f b) ^^^ rst f b = f ∧ rst f b < 2 ^ (bl b - 1) ∧ quo f b < 2 ^ dvu f b := by
  have h1 : bl f ≤ 62 := bl_le.mpr hf
  have h2 : bl b ≤ 62 := bl_le.mpr hb2
  have h3 := bl_pos hb
  have hl : f < 2 ^ (bl b - 1 + dvu f b) := by
    rw [← bl_le, dvu]; omega
  obtain ⟨r1, r2, r3⟩ := dv_spec hb (dvu f b) f 0 hl (by rw [dvu]; omega) (Nat.zero_mod _)
  refine ⟨?_, r1, r3 _ (Nat.two_pow_pos _) (Nat.le_refl _)⟩
  rw [quo, rst, r2, cl_0r, Nat.zero_xor]
/-- no other two are so -/
theorem dm_uniq {b q1 r1 q2 r2 : Nat} (hb : b ≠ 0) (h : cl b q1 ^^^ r1 = cl b q2 ^^^ r2) (hq1 : q1 < 2 ^ 64) (hq2 : q2 < 2 ^ 64) (hr1 : r1 < 2 ^ (bl b - 1)) (hr2 : r2 < 2 ^ (bl b - 1)) : q1 = q2 ∧ r1 = r2 := by
  have h3 := bl_pos hb
  have e : cl b (q1 ^^^ q2) = r1 ^^^ r2 := by
    rw [cl_xr]
    have a1 : cl b q1 ^^^ cl b q2 = (cl b q1 ^^^ r1) ^^^ r1 ^^^ cl b q2 := by rw [mx_xx]
    rw [a1, h]
    have : cl b q2 ^^^ r2 ^^^ r1 ^^^ cl b q2 = (cl b q2 ^^^ cl b q2) ^^^ (r1 ^^^ r2) := by ac_rfl
    rw [this, Nat.xor_self, Nat.zero_xor]
  by_cases hq : q1 ^^^ q2 = 0
  · have hr : r1 ^^^ r2 = 0 := by rw [← e, hq, cl_0r]
    refine ⟨?_, ?_⟩
    · have := mx_xx q1 q2
      rw [hq, Nat.zero_xor] at this; exact this.symm
    · have := mx_xx r1 r2
      rw [hr, Nat.zero_xor] at this; exact this.symm
  · exfalso
    have a2 := cl_bl hb hq (Nat.xor_lt_two_pow hq1 hq2)
    have a3 := bl_pos hq
    have a4 : bl (r1 ^^^ r2) ≤ bl b - 1 := bl_le.mpr (Nat.xor_lt_two_pow hr1 hr2)
    rw [e] at a2
    omega
