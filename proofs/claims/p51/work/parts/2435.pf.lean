/-! the period by the factors -/
theorem ok_eqv {α : Type} {o : Option α} {v : α} (h : ok o (fun r => r = v)) : o = some v := by
  obtain ⟨r, hr, rfl⟩ := h
  exact hr
noncomputable def SP4 (s : Int32) (h : Nat → Int64) (K : Int32 → Int32 → Option Int32) (ih : Int32 → Int32 → Int32 → Int32 → Option Int32) (y1 y2 y3 y4 : Int32) : Option Int32 :=
  if s ≤ y4 then K y1 y2 else
  if y4 = 0 then obn (F_X6_leastMultiple y1 (PE (h y4.toNatClampNeg))) (fun r => ih r (if y2 < (1 : Int32) then (1 : Int32) else y2) (1 : Int32) (y4 + 1)) else
  if h y4.toNatClampNeg = h (y4 - (1 : Int32)).toNatClampNeg then ih y1 (if y2 < y3 + (1 : Int32) then y3 + (1 : Int32) else y2) (y3 + (1 : Int32)) (y4 + 1)
  else obn (F_X6_leastMultiple y1 (PE (h y4.toNatClampNeg))) (fun r => ih r (if y2 < (1 : Int32) then (1 : Int32) else y2) (1 : Int32) (y4 + 1))
theorem pf_step (s : Int32) (g h : Nat → Int64) (K : Int32 → Int32 → Option Int32) (ih ih' : Int32 → Int32 → Int32 → Int32 → Option Int32) (hih : ∀ a b c d, 0 ≤ d.toInt → ih a b c d = ih' a b c d) (hs : s.toInt ≤ 12) (hg : ∀ k : Nat, (k : Int) < s.toInt → g k = h k ∧ WT (h k)) (y1 y2 y3 y4 : Int32) (h4 : 0 ≤ y4.toInt) : S_X6_periodByFactors_9 s g K ih y1 y2 y3 y4 = SP4 s h K ih' y1 y2 y3 y4 := by
  unfold S_X6_periodByFactors_9 SP4
  by_cases hc : s ≤ y4
  · rw [if_pos hc, if_pos hc]
  have hlt : y4.toInt < s.toInt := by rw [Int32.le_iff_toInt_le] at hc; omega
  have e4 := cl_T h4
  have a1 : F_X3_at s g y4 = some (g y4.toNatClampNeg) := ok_eqv (fx_X3_at s g y4 h4 (by omega) hs)
  have g1 := hg y4.toNatClampNeg (by omega)
  rw [g1.1] at a1
  have p1 : F_X6_periodByMultiplying (h y4.toNatClampNeg) = some (PE (h y4.toNatClampNeg)) := ok_eqv (fx_X6_periodByMultiplying _ g1.2)
  have t4 : (y4 + 1).toInt = y4.toInt + 1 := addT1 (show (1 : Int32).toInt = 1 from by decide) (by omega) (by omega)
  have L : ∀ x2 : Int32, obn (F_X6_leastMultiple y1 (PE (h y4.toNatClampNeg))) (fun r82 => bnd (y4 + 1) (fun x4_86 => ih r82 x2 (1 : Int32) x4_86)) = obn (F_X6_leastMultiple y1 (PE (h y4.toNatClampNeg))) (fun r => ih' r x2 (1 : Int32) (y4 + 1)) := fun x2 => by
    cases F_X6_leastMultiple y1 (PE (h y4.toNatClampNeg)) with
    | none => rfl
    | some r => exact hih r x2 1 (y4 + 1) (by omega)
  rw [if_neg hc, if_neg hc, a1]
  by_cases hz : y4 = 0
  · rw [if_pos hz, if_pos hz, bnd_s, obn_s, p1, obn_s]
    exact L _
  · have hz0 : y4.toInt ≠ 0 := fun e => hz (Int32.toInt_inj.mp (e.trans (show (0 : Int) = (0 : Int32).toInt from by decide)))
    have hm : (y4 - (1 : Int32)).toInt = y4.toInt - 1 := subT1 (show (1 : Int32).toInt = 1 from by decide) (by omega) (by omega)
    have em := cl_T (x := y4 - (1 : Int32)) (by omega)
    have a2 : F_X3_at s g (y4 - (1 : Int32)) = some (g (y4 - (1 : Int32)).toNatClampNeg) := ok_eqv (fx_X3_at s g _ (by omega) (by omega) hs)
    rw [(hg (y4 - (1 : Int32)).toNatClampNeg (by omega)).1] at a2
    rw [if_neg hz, if_neg hz, a2, obn_s, obn_s]
    by_cases he : h y4.toNatClampNeg = h (y4 - (1 : Int32)).toNatClampNeg
    · rw [if_pos he, if_pos he]
      exact hih y1 _ _ _ (by omega)
    · rw [if_neg he, if_neg he, bnd_s, obn_s, p1, obn_s]
      exact L _
theorem pf_all (s : Int32) (g h : Nat → Int64) (K : Int32 → Int32 → Option Int32) (hs : s.toInt ≤ 12) (hg : ∀ k : Nat, (k : Int) < s.toInt → g k = h k ∧ WT (h k)) : ∀ n y1 y2 y3 y4, 0 ≤ y4.toInt → LQ4 (S_X6_periodByFactors_9 s g K) n y1 y2 y3 y4 = LQ4 (SP4 s h K) n y1 y2 y3 y4 := by
  intro n
  induction n with
  | zero => intro y1 y2 y3 y4 _; rfl
  | succ n ihn => intro y1 y2 y3 y4 h4; exact pf_step s g h K (LQ4 (S_X6_periodByFactors_9 s g K) n) (LQ4 (SP4 s h K) n) ihn hs hg y1 y2 y3 y4 h4
noncomputable def pfT (n : Nat) : Bool := Bool.rec true ((fct n).all (fun l => Nat.ble l 511 && Nat.ble 2 (bl l) && Nat.beq (l % 2) 1) && decide (LQ4 (SP4 (nI (fct n).length) (fun k => lN ((fct n).getD k 0)) (fun a b => obn (F_X6_leastPowerOfTwo b) (fun r => some (a * r)))) 20000 1 0 0 0 = some (nI (perN n)))) (Nat.beq (n % 2) 1 && Nat.ble 2 (bl n))
set_option maxRecDepth 20000 in
theorem pf_tab : kall pfT 512 = true := by decide +kernel
theorem fx_X7_periodByFactors (f : Nat → Int64) (p0 : Int64) (hp : WT p0) : ok (F_X7_periodByFactors f p0) (fun r => r.1 = PE p0 ∧ 0 ≤ r.2.1.toInt ∧ r.2.1.toInt ≤ 12) := by
  obtain ⟨w, h9, hw, ho, rfl⟩ := hp
  have hl : bl w ≤ 9 := bl_le.mpr h9
  have hd := DG_lN (n := w) (by omega)
  obtain ⟨n, e, en, _, _, a1, _, _, _, a5, a6, a7, a8⟩ := fac_x (x := lN w) (by omega) (by omega)
  have ew : n = w := by rw [← en, tn_lN (by omega)]
  subst ew
  have t := tr_is f a1
  rw [a7] at t a5 a6
  have c := kall_is 512 pf_tab n h9
  have c' : ((fct n).all (fun l => Nat.ble l 511 && Nat.ble 2 (bl l) && Nat.beq (l % 2) 1) && decide (LQ4 (SP4 (nI (fct n).length) (fun k => lN ((fct n).getD k 0)) (fun a b => obn (F_X6_leastPowerOfTwo b) (fun r => some (a * r)))) 20000 1 0 0 0 = some (nI (perN n)))) = true := by
    have b1 : Nat.beq (n % 2) 1 = true := by rw [ho]; rfl
    have b2 : Nat.ble 2 (bl n) = true := Nat.ble_eq.mpr hw
    unfold pfT at c
    rw [b1, b2] at c
    exact c
  rw [Bool.and_eq_true] at c'
  have c1 := List.all_eq_true.mp c'.1
  have c2 := of_decide_eq_true c'.2
  have hsz : (nI (fct n).length).toInt = ((fct n).length : Int) := nI_toInt (by omega)
  have pf : F_X6_periodByFactors (nI (fct n).length) (upl f (fct n)) = some (nI (perN n)) := by
    unfold F_X6_periodByFactors
    rw [pf_all (nI (fct n).length) (upl f (fct n)) (fun k => lN ((fct n).getD k 0)) _ (by omega) (fun k hk => ?_) 20000 1 0 0 0 (by decide)]
    · exact c2
    · have hk' : k < (fct n).length := by omega
      refine ⟨if_pos hk', ?_⟩
      have hm : (fct n).getD k 0 ∈ fct n := by
        rw [List.getD_eq_getElem?_getD, List.getElem?_eq_getElem hk']
        exact List.getElem_mem hk'
      have q := c1 _ hm
      rw [Bool.and_eq_true, Bool.and_eq_true] at q
      exact ⟨(fct n).getD k 0, by have := Nat.le_of_ble_eq_true q.1.1; omega, Nat.le_of_ble_eq_true q.1.2, Nat.eq_of_beq_eq_true q.2, rfl⟩
  unfold F_X7_periodByFactors
  rw [t, obn2_s, pf, obn_s]
  exact ok_s ⟨by rw [PE, tn_lN (by omega)], by show 0 ≤ (nI (fct n).length).toInt; omega, by show (nI (fct n).length).toInt ≤ 12; omega⟩
