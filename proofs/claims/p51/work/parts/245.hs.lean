/-! S9. walks of two by hand -/
theorem s7_clear (ac sz : Int32) : ok (F_X7_clear ac sz) (fun r => ok (F_X9_clear sz ac) (fun q => r.1 = q.1 ∧ r.2.1 = q.2.2.1 ∧ r.2.2 = q.2.1 ∧ 0 ≤ q.2.1.toInt ∧ q.2.1.toInt ≤ 12)) := by
  unfold F_X7_clear F_X3_removeAll F_X7_done
  rw [obn_s]
  refine ok_s (show ok (F_X9_clear sz ac) (fun q => sz = q.1 ∧ ac + (1 : Int32) = q.2.2.1 ∧ (0 : Int32) = q.2.1 ∧ 0 ≤ q.2.1.toInt ∧ q.2.1.toInt ≤ 12) from ?_)
  unfold F_X9_clear F_X9_done
  exact ok_s ⟨rfl, rfl, rfl, by show 0 ≤ (0 : Int32).toInt; decide, by show (0 : Int32).toInt ≤ 12; decide⟩
theorem s7_sort (ac sz : Int32) (ro b : Nat → Int64) (z : Int32) (hr : FA ro) (h1 : 0 ≤ sz.toInt) (h2 : sz.toInt ≤ 12) : ok (F_X7_sort ac sz ro b z) (fun r => ok (F_X9_sort sz ac ro z) (fun q => r.1 = q.1 ∧ r.2.1 = q.2.1 ∧ r.2.2.1 = q.2.2.2 ∧ FA q.2.2.2)) := by
  unfold F_X7_sort
  refine ok_o3 (fx_X3_arrange sz ro b z h1 h2) (fun a g b2 h => ?_)
  obtain ⟨e1, e2⟩ := h
  have e1 : a = nI (oc (SRT z ro sz.toInt.toNat) ro sz.toInt.toNat) := e1
  have e2 : g = SRT z ro sz.toInt.toNat := e2
  refine ok_o2 (fx_X7_done ac a) (fun r c h3 => ok_s ?_)
  obtain ⟨e3, e4⟩ := h3
  have e3 : r = a := e3
  have e4 : c = ac + (1 : Int32) := e4
  subst e1 e2 e3 e4
  exact ok_w (fx_X9_sort sz ac ro z hr h1 h2) (fun q hq => ⟨hq.1.symm, hq.2.1.symm, hq.2.2.2.symm, by rw [hq.2.2.2]; exact SRT_FA hr⟩)
theorem pr_9 (sz ac rf th : Int32) (fo ro : Nat → Int64) (p0 : Int32) (hfo : FA fo) (hro : FA ro) (h0 : 0 ≤ sz.toInt) (h12 : sz.toInt ≤ 12) : ok (F_X9_product sz ac rf th fo ro p0) (fun q =>
    ((p0.toInt < 0 ∨ 5 < p0.toInt) ∧ q.2.2.2.1.toInt = 1 ∧ q.2.1 = ac ∧ q.2.2.1 = rf ∧ q.2.2.2.2 = fo) ∨
    ((0 ≤ p0.toInt ∧ p0.toInt ≤ 5) ∧ q.2.2.2.1.toInt = 0 ∧ (∀ j, j < sz.toInt.toNat → 0 ≤ DG (ro j)) ∧ SD ro sz.toInt.toNat ≤ 39 ∧ q.1 = DI (PDn ro sz.toInt.toNat) ∧ q.2.1 = ac + (1 : Int32) ∧ q.2.2.1 = rf ∧ q.2.2.2.2 = vp_updL fo p0.toNatClampNeg (PDn ro sz.toInt.toNat) ∧ FA q.2.2.2.2) ∨
    ((0 ≤ p0.toInt ∧ p0.toInt ≤ 5) ∧ q.2.2.2.1.toInt = 0 ∧ (∀ j, j < sz.toInt.toNat → 0 ≤ DG (ro j)) ∧ 39 < SD ro sz.toInt.toNat ∧ q.1 = (-9 : Int32) ∧ q.2.1 = ac ∧ q.2.2.1 = rf + (1 : Int32) ∧ q.2.2.2.2 = fo) ∨
    ((0 ≤ p0.toInt ∧ p0.toInt ≤ 5) ∧ q.2.2.2.1.toInt = 0 ∧ (∃ j, j < sz.toInt.toNat ∧ DG (ro j) = -1) ∧ q.1 = DI 0 ∧ q.2.1 = ac + (1 : Int32) ∧ q.2.2.1 = rf ∧ q.2.2.2.2 = vp_updL fo p0.toNatClampNeg 0 ∧ FA q.2.2.2.2)) := by
  have l0 : (0 : Int32).toInt = 0 := by decide
  have l1 : (1 : Int32).toInt = 1 := by decide
  unfold F_X9_product
  refine ok_o (sp_X9_isForm p0) (fun r2 h => ?_)
  have h : (r2.toInt = 1 ∧ 0 ≤ p0.toInt ∧ p0.toInt ≤ 5) ∨ (r2.toInt = 0 ∧ (p0.toInt < 0 ∨ 6 ≤ p0.toInt)) := h
  by_cases hr : r2 = 0
  · have hr2 : r2.toInt = 0 := by rw [hr]; exact l0
    rw [if_pos hr]
    unfold J_X9_product_13
    refine ok_o2 (sp_X9_isThrown_ (1 : Int32)) (fun a t h3 => ?_)
    have h3 : (a.toInt = 0 ∧ t.toInt = 0 ∧ (1 : Int32).toInt = 0) ∨ (a.toInt = 1 ∧ t.toInt = 1 ∧ (1 : Int32).toInt ≠ 0) := h3
    rw [if_neg (fun h9 => by rw [h9] at h3; omega)]
    exact ok_s (Or.inl ⟨by omega, show t.toInt = 1 by omega, rfl, rfl, rfl⟩)
  · have hr2 : r2.toInt ≠ 0 := fun h9 => hr (Int32.toInt_inj.mp (by rw [h9, l0]))
    have hp : 0 ≤ p0.toInt ∧ p0.toInt ≤ 5 := by omega
    rw [if_neg hr]
    unfold J_X9_product_13
    refine ok_o2 (sp_X9_isThrown_ (0 : Int32)) (fun a t h3 => ?_)
    have h3 : (a.toInt = 0 ∧ t.toInt = 0 ∧ (0 : Int32).toInt = 0) ∨ (a.toInt = 1 ∧ t.toInt = 1 ∧ (0 : Int32).toInt ≠ 0) := h3
    have ht : t.toInt = 0 := by omega
    rw [if_pos (Int32.toInt_inj.mp (by rw [l0]; omega))]
    refine pd_3 _ sz ro hro h0 h12 (fun s e he => ?_)
    rcases he with ⟨he, hs, hn⟩ | ⟨he, hx⟩
    · have he0 : e = 0 := Int32.toInt_inj.mp (by rw [he, l0])
      subst he0
      rw [if_pos rfl]
      by_cases h40 : s < (40 : Int32)
      · rw [if_pos h40]
        rw [Int32.lt_iff_toInt_lt, show (40 : Int32).toInt = 40 from by decide] at h40
        unfold J_X9_product_91
        rw [if_pos rfl]
        unfold J_X9_product_100
        refine pd_4 _ sz ro 0 1 hro h0 h12 (Or.inl ⟨he, rfl, by omega, hn⟩) (fun w hw => ?_)
        obtain ⟨w1, w2, _⟩ := hw
        have w2 : w = PDn ro sz.toInt.toNat := w2 he
        subst w2
        refine ok_o3 (fx_X9_give ac fo p0 _ hfo hp.1 hp.2 w1) (fun a1 b1 c1 hg => ok_s ?_)
        obtain ⟨g1, g2, g3, g4⟩ := hg
        exact Or.inr (Or.inl ⟨hp, ht, hn, by omega, g1, g2, rfl, g3, g4⟩)
      · rw [if_neg h40]
        rw [Int32.lt_iff_toInt_lt, show (40 : Int32).toInt = 40 from by decide] at h40
        refine ok_o2 (fx_X9_no rf) (fun a1 b1 hg => ok_s ?_)
        obtain ⟨g1, g2⟩ := hg
        exact Or.inr (Or.inr (Or.inl ⟨hp, ht, hn, by omega, g1, rfl, g2, rfl⟩))
    · have he1 : ¬ e = 0 := fun h9 => by rw [h9, l0] at he; omega
      rw [if_neg he1]
      unfold J_X9_product_91
      rw [if_neg he1]
      unfold J_X9_product_100
      refine pd_4 _ sz ro e 0 hro h0 h12 (Or.inr ⟨he, rfl⟩) (fun w hw => ?_)
      obtain ⟨w1, _, w2⟩ := hw
      have w2 : w = 0 := w2 he
      subst w2
      refine ok_o3 (fx_X9_give ac fo p0 _ hfo hp.1 hp.2 w1) (fun a1 b1 c1 hg => ok_s ?_)
      obtain ⟨g1, g2, g3, g4⟩ := hg
      exact Or.inr (Or.inr (Or.inr ⟨hp, ht, hx, g1, g2, rfl, g3, g4⟩))
theorem pr_7 (sz ac rf : Int32) (fo ro : Nat → Int64) (p0 : Int32) (hro : FA ro) (h0 : 0 ≤ sz.toInt) (h12 : sz.toInt ≤ 12) : ok (F_X7_product ac rf fo sz ro p0) (fun q =>
    ((p0.toInt < 0 ∨ 5 < p0.toInt) ∧ q.1 = 1 ∧ q.2.2.1 = ac ∧ q.2.2.2.1 = rf ∧ q.2.2.2.2 = fo) ∨
    ((0 ≤ p0.toInt ∧ p0.toInt ≤ 5) ∧ q.1 = 0 ∧ (∀ j, j < sz.toInt.toNat → 0 ≤ DG (ro j)) ∧ SD ro sz.toInt.toNat ≤ 39 ∧ q.2.1 = DI (PDn ro sz.toInt.toNat) ∧ q.2.2.1 = ac + (1 : Int32) ∧ q.2.2.2.1 = rf ∧ q.2.2.2.2 = vp_updL fo p0.toNatClampNeg (PDn ro sz.toInt.toNat)) ∨
    ((0 ≤ p0.toInt ∧ p0.toInt ≤ 5) ∧ q.1 = 0 ∧ (∀ j, j < sz.toInt.toNat → 0 ≤ DG (ro j)) ∧ 39 < SD ro sz.toInt.toNat ∧ q.2.1 = (-9 : Int32) ∧ q.2.2.1 = ac ∧ q.2.2.2.1 = rf + (1 : Int32) ∧ q.2.2.2.2 = fo) ∨
    ((0 ≤ p0.toInt ∧ p0.toInt ≤ 5) ∧ q.1 = 0 ∧ (∃ j, j < sz.toInt.toNat ∧ DG (ro j) = -1) ∧ q.2.1 = DI 0 ∧ q.2.2.1 = ac + (1 : Int32) ∧ q.2.2.2.1 = rf ∧ q.2.2.2.2 = vp_updL fo p0.toNatClampNeg 0)) := by
  have l0 : (0 : Int32).toInt = 0 := by decide
  unfold F_X7_product
  refine ok_o (fx_X7_testForm p0) (fun xc h => ?_)
  · have h : (xc = 0 ∧ 0 ≤ p0.toInt ∧ p0.toInt ≤ 5) ∨ (xc = 1 ∧ (p0.toInt < 0 ∨ 5 < p0.toInt)) := h
    rcases h with ⟨h, hp⟩ | ⟨h, hp⟩
    · subst h
      rw [if_pos rfl]
      refine ok_o (fx_X3_hasEmpty sz ro h0 h12) (fun r8 h8 => ?_)
      rcases h8 with ⟨h8, hn⟩ | ⟨h8, hx⟩
      · rw [if_pos (Int32.toInt_inj.mp (by rw [h8, l0]))]
        refine ok_o (fx_X3_degreesTogether sz ro hro h0 h12) (fun r18 h18 => ?_)
        have h18 : r18.toInt = SD ro sz.toInt.toNat := h18
        by_cases h39 : r18 ≤ (39 : Int32)
        · rw [if_pos h39]
          rw [Int32.le_iff_toInt_le, show (39 : Int32).toInt = 39 from by decide] at h39
          refine ok_o (fx_X3_multipliedAll sz ro hro h0 h12) (fun v hv => ?_)
          have hv : v = PDn ro sz.toInt.toNat := hv.1 hn
          subst hv
          refine ok_o3 (fx_X7_become ac fo p0 _ hp.1 hp.2) (fun a1 b1 c1 hg => ok_s ?_)
          obtain ⟨g1, g2, g3⟩ := hg
          exact Or.inr (Or.inl ⟨hp, rfl, hn, by omega, g1, g2, rfl, g3⟩)
        · rw [if_neg h39]
          rw [Int32.le_iff_toInt_le, show (39 : Int32).toInt = 39 from by decide] at h39
          refine ok_o2 (fx_X7_refuse rf) (fun a1 b1 hg => ok_s ?_)
          obtain ⟨g1, g2⟩ := hg
          exact Or.inr (Or.inr (Or.inl ⟨hp, rfl, hn, by omega, g1, rfl, g2, rfl⟩))
      · rw [if_neg (fun h9 => by rw [h9, l0] at h8; omega)]
        refine ok_o (fx_X3_multipliedAll sz ro hro h0 h12) (fun v hv => ?_)
        have hv : v = 0 := hv.2 hx
        subst hv
        refine ok_o3 (fx_X7_become ac fo p0 _ hp.1 hp.2) (fun a1 b1 c1 hg => ok_s ?_)
        obtain ⟨g1, g2, g3⟩ := hg
        exact Or.inr (Or.inr (Or.inr ⟨hp, rfl, hx, g1, g2, rfl, g3⟩))
    · subst h
      rw [if_neg (by decide)]
      exact ok_s (Or.inl ⟨hp, rfl, rfl, rfl, rfl⟩)
theorem s7_product (ac rf sz : Int32) (fo ro : Nat → Int64) (th p0 : Int32) (hfo : FA fo) (hro : FA ro) (h0 : 0 ≤ sz.toInt) (h12 : sz.toInt ≤ 12) : ok (F_X7_product ac rf fo sz ro p0) (fun r => ok (F_X9_product sz ac rf th fo ro p0) (fun q => ((r.1 = 0 ∧ q.2.2.2.1.toInt = 0) ∨ (r.1 = 1 ∧ q.2.2.2.1.toInt = 1)) ∧ (r.1 = 0 → r.2.1 = q.1) ∧ r.2.2.1 = q.2.1 ∧ r.2.2.2.1 = q.2.2.1 ∧ r.2.2.2.2 = q.2.2.2.2 ∧ FA q.2.2.2.2)) := by
  refine ok_w (pr_7 sz ac rf fo ro p0 hro h0 h12) (fun r hr => ok_w (pr_9 sz ac rf th fo ro p0 hfo hro h0 h12) (fun q hq => ?_))
  rcases hr with ⟨a0, a1, a2, a3, a4⟩ | ⟨a0, a1, a2, a3, a4, a5, a6, a7⟩ | ⟨a0, a1, a2, a3, a4, a5, a6, a7⟩ | ⟨a0, a1, ⟨j, a2, a2'⟩, a4, a5, a6, a7⟩ <;> rcases hq with ⟨b0, b1, b2, b3, b4⟩ | ⟨b0, b1, b2, b3, b4, b5, b6, b7, b8⟩ | ⟨b0, b1, b2, b3, b4, b5, b6, b7⟩ | ⟨b0, b1, ⟨i, b2, b2'⟩, b4, b5, b6, b7, b8⟩ <;> first
    | (exfalso; omega)
    | (exfalso; have := a2 i b2; omega)
    | (exfalso; have := b2 j a2; omega)
    | exact ⟨Or.inr ⟨a1, b1⟩, fun h9 => by omega, a2.trans b2.symm, a3.trans b3.symm, a4.trans b4.symm, by rw [b4]; exact hfo⟩
    | exact ⟨Or.inl ⟨a1, b1⟩, fun _ => a4.trans b4.symm, a5.trans b5.symm, a6.trans b6.symm, a7.trans b7.symm, b8⟩
    | exact ⟨Or.inl ⟨a1, b1⟩, fun _ => a4.trans b4.symm, a5.trans b5.symm, a6.trans b6.symm, a7.trans b7.symm, by rw [b7]; exact hfo⟩
theorem s7_knock (kn : Int32) : ok (F_X7_knock kn) (fun r => ok (F_X9_knock kn) (fun q => r.1 = q.1 ∧ r.2 = q.2.1)) := by
  unfold F_X7_knock
  refine ok_s (show ok (F_X9_knock kn) (fun q => kn + (1 : Int32) = q.1 ∧ kn + (1 : Int32) = q.2.1) from ?_)
  unfold F_X9_knock
  exact ok_s ⟨rfl, rfl⟩
