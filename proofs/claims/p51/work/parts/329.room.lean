/-! room behind two calls that make texts -/
theorem lq_room {s K n a b M : Nat} (h : s + K * (n + 1) ≤ M) (e : a + b ≤ K) : s + a + b ≤ M := by
  have h1 : K ≤ K * (n + 1) := Nat.le_mul_of_pos_right K (Nat.succ_pos n)
  generalize K * (n + 1) = q at h h1
  omega
section HC6
variable {p : Program} {l : Launch} {e : Env} {R : Room} {s : State} {m : MethodId} {args : Array Value} {below : List Frame} {meth : Method} {c : Code} {H : Heap} {locs : List Loc} {cells slots : Nat} {Q : State → Prop}
variable {pc mc ms xc : Nat} {rest st : List Value} {ls : Array Slot} {a : Array Value} {A : Nat → Prop} {H0 : Heap} {D : va_G} {ww wc wr w1 : va_W}
/-- a long number is answered, or an exception leaves -/
theorem hx_l {r0 : Int64} (hr : vx_Run p l e R s m args below meth c H locs cells slots mc ms (F0 m pc ls st) rest (va_Ql (fun (r : Int64) (_ : Unit) => xc = 0 ∧ r = r0) (fun _ t => wQA D w1 (va_A wc H.size) t) (va_A wc H.size) a) (vx_X (fun (_ : Unit) => ¬ xc = 0) (fun E _ t => E = xcls xc ∧ wQA D w1 (va_A wc H.size) t) (va_A wc H.size)) (va_A wc H.size)) (hP : va_P D vwCl ww H) (hD : va_D A ww) (hS : va_S A H0 H locs) (hA : ∀ q, H0.size ≤ q → A q) (isC isR : List Nat) (hC : isC.map (fun i => ww[i]?) = wc.map some) (hR : isR.map (fun i => ww[i]?) = wr.map some) (hn : va_nd isR = true) (hdis : ∀ i ∈ isR, i ∉ isC)
    (kx : ∀ (E : String) (ce : Cell) (q9 : Addr) (H1 : Heap) (locs1 : List Loc), ¬ xc = 0 → E = xcls xc → va_P D vwCl (wr ++ w1) H1 → va_D A (wr ++ w1) → va_S A H0 H1 locs1 → H1[q9]? = some ce → ce.vm = .none → s.vm.findClass E = some ce.cls → vx_W p l e R s m args below meth c H1 locs1 (cells + mc) (slots + ms) Q (F0 m pc ls rest) q9)
    (kk : xc = 0 → ∀ (H1 : Heap) (locs1 : List Loc), va_P D vwCl (wr ++ w1) H1 → va_D A (wr ++ w1) → va_S A H0 H1 locs1 → W p l e R s m args below meth c H1 locs1 (cells + mc) (slots + ms) Q (F0 m (pc + 3) ls (.long r0 :: rest))) : W p l e R s m args below meth c H locs cells slots Q (F0 m pc ls st) := by
  have hF := va_free hD hS hA isC hC
  refine vx_calll hr hS (fun q _ h => hF q h) hF (fun q _ h => hF q h) (fun E ce q9 u t H1 locs1 ht _ hx hB _ hk1 hS1 hc hv hcl => ?_) (fun r u t H1 locs1 ht _ hw hB _ hk1 hS1 => ?_)
  · obtain ⟨hE, hP1, hD1⟩ := hB
    rw [ht] at hP1
    obtain ⟨hP2, hD2⟩ := va_join hP hD isC isR hC hR hn hdis hk1 hF hP1 hD1
    exact kx E ce q9 H1 locs1 hx hE hP2 hD2 hS1 hc hv hcl
  · obtain ⟨hP1, hD1⟩ := hB
    rw [ht] at hP1
    obtain ⟨hw, hr0⟩ := hw
    subst hr0
    obtain ⟨hP2, hD2⟩ := va_join hP hD isC isR hC hR hn hdis hk1 hF hP1 hD1
    exact kk hw H1 locs1 hP2 hD2 hS1
end HC6
