/-! the law: the start of its own methods -/
noncomputable def wPL (D : va_G) (tys : List (ClassId × FieldType)) (ws : va_W) (sz : Nat) (U : State) : Prop := wPX D tys ws sz U ∧ va_Nc "java/lang/IllegalArgumentException" "java/lang/IndexOutOfBoundsException" U
noncomputable def wPLT (D : va_G) (tys : List (ClassId × FieldType)) (ws : va_W) (adK adV : Nat → Nat) (sz : Nat) (U : State) : Prop := wPX D tys ws sz U ∧ TW adK adV (va_A ws sz) U ∧ va_Nc "java/lang/IllegalArgumentException" "java/lang/IndexOutOfBoundsException" U
theorem bl_PL {av : List Value} {D : va_G} {tys : List (ClassId × FieldType)} {ws : va_W} {sz : Nat} : FrameBlind (va_Pc av (wPL D tys ws sz)) := fun _ U g mk q => ⟨q.1, ⟨q.2.1.1.calling, q.2.1.2.calling⟩, va_Nc.moved (u := U) (U := U.calling g mk _) (Vm.Alike.refl U.vm) q.2.2⟩
theorem bl_PLT {av : List Value} {D : va_G} {tys : List (ClassId × FieldType)} {ws : va_W} {adK adV : Nat → Nat} {sz : Nat} : FrameBlind (va_Pc av (wPLT D tys ws adK adV sz)) := fun _ U g mk q => ⟨q.1, ⟨q.2.1.1.calling, q.2.1.2.calling⟩, q.2.2.1.calling, va_Nc.moved (u := U) (U := U.calling g mk _) (Vm.Alike.refl U.vm) q.2.2.2⟩
theorem pr_PL {D : va_G} {tyc : List (ClassId × FieldType)} {wc : va_W} {H : Heap} {locs : List Loc} {A : Nat → Prop} {s : State} {av : List Value} (hPc : va_P D vwCl wc H) (hKc : va_K D vwCl tyc s) (hDc : va_D A wc) (hnw : NW s) (hE : EW A s) (hNc : va_Nc "java/lang/IllegalArgumentException" "java/lang/IndexOutOfBoundsException" s) (hS : va_S A s.heap H locs) (hF : ∀ q, va_A wc H.size q → A q) : ∀ U : State, U.heap = H → s.WarmedH U.vm → va_Pc av (wPL D tyc wc H.size) av.toArray U := fun U hU hW => ⟨rfl, ⟨⟨by rw [hU], by rw [hU]; exact hPc, va_K.moved hW.alike hKc, hDc.weaken (fun _ _ _ _ => trivial), hnw.warm hW⟩, hE.call hS hF hU hW⟩, va_Nc.moved hW.alike hNc⟩
theorem pr_PLT {D : va_G} {tyc : List (ClassId × FieldType)} {wc : va_W} {H : Heap} {locs : List Loc} {A : Nat → Prop} {s : State} {av : List Value} {adK adV : Nat → Nat} (hPc : va_P D vwCl wc H) (hKc : va_K D vwCl tyc s) (hDc : va_D A wc) (hnw : NW s) (hE : EW A s) (hT : TW adK adV A s) (hNc : va_Nc "java/lang/IllegalArgumentException" "java/lang/IndexOutOfBoundsException" s) (hS : va_S A s.heap H locs) (hF : ∀ q, va_A wc H.size q → A q) : ∀ U : State, U.heap = H → s.WarmedH U.vm → va_Pc av (wPLT D tyc wc adK adV H.size) av.toArray U := fun U hU hW => ⟨rfl, ⟨⟨by rw [hU], by rw [hU]; exact hPc, va_K.moved hW.alike hKc, hDc.weaken (fun _ _ _ _ => trivial), hnw.warm hW⟩, hE.call hS hF hU hW⟩, hT.call hS hF hU hW, va_Nc.moved hW.alike hNc⟩
section HC5
variable {p : Program} {l : Launch} {e : Env} {R : Room} {s : State} {m : MethodId} {args : Array Value} {below : List Frame} {meth : Method} {c : Code} {H : Heap} {locs : List Loc} {cells slots : Nat} {Q : State → Prop}
variable {pc mc ms xc : Nat} {rest st : List Value} {ls : Array Slot} {a : Array Value} {A : Nat → Prop} {H0 : Heap} {D : va_G} {ww wc wr w1 : va_W}
theorem vx_callr {S SX : Type} {A0 A1 : Nat → Prop} {free : Addr → Prop} {post : S → Prop} {px : SX → Prop} {B : S → Nat → State → Prop} {BX : String → SX → State → Prop} {AX : Nat → Prop} (hr : vx_Run p l e R s m args below meth c H locs cells slots mc ms (F0 m pc ls st) rest (va_Qr post B A1 a) (vx_X px BX AX) free) (hS : va_S A0 H0 H locs) (hA : ∀ q, q < H.size → A1 q → A0 q) (hf : ∀ q, free q → A0 q) (hAX : ∀ q, q < H.size → AX q → A0 q)
    (kx : ∀ (E : String) (ce : Cell) (q9 : Addr) (u : SX) (t : State) (H1 : Heap) (locs1 : List Loc), t.heap = H1 → s.vm.Alike t.vm → px u → BX E u t → H.size ≤ H1.size → (∀ q : Nat, q < H.size → ¬ AX q → H1[q]? = H[q]?) → va_S A0 H0 H1 locs1 → H1[q9]? = some ce → ce.vm = .none → s.vm.findClass E = some ce.cls → vx_W p l e R s m args below meth c H1 locs1 (cells + mc) (slots + ms) Q (F0 m pc ls rest) q9)
    (kk : ∀ (u : S) (ra : Nat) (t : State) (H1 : Heap) (locs1 : List Loc), t.heap = H1 → s.vm.Alike t.vm → post u → B u ra t → H.size ≤ H1.size → (∀ q : Nat, q < H.size → ¬ A1 q → H1[q]? = H[q]?) → va_S A0 H0 H1 locs1 → W p l e R s m args below meth c H1 locs1 (cells + mc) (slots + ms) Q (F0 m (pc + 3) ls (.ref ra :: rest))) : W p l e R s m args below meth c H locs cells slots Q (F0 m pc ls st) := by
  intro T hT X
  rcases hr T hT X with ⟨v, st₀, t, T', L, h0, X', hL, e1, e2, ⟨⟨u, ra, hv, hp, hb⟩, hF⟩, st⟩ | ⟨q, st₀, t, T', L, E, ce, h0, X', hL, e1, e2, ⟨u, hp, hb, hF⟩, hce, hcv, hcl, st⟩
  · cases hv
    obtain ⟨k1, k2, k3⟩ := vx_keep h0 e1 hS hA hf hL hF
    obtain ⟨t2, a1, b1⟩ := kk u ra t T'.heap (locs ++ L) e1.symm (by rw [← e2]; exact X'.warmed.alike) hp hb k1 k2 k3 T' rfl X'
    exact ⟨t2, st t2 a1, b1⟩
  · obtain ⟨k1, k2, k3⟩ := vx_keep h0 e1 hS hAX hf hL hF
    obtain ⟨t2, a1, b1⟩ := kx E ce q u t T'.heap (locs ++ L) e1.symm (by rw [← e2]; exact X'.warmed.alike) hp hb k1 k2 k3 (by rw [e1]; exact hce) hcv hcl T' rfl X'
    exact ⟨t2, st.trans a1, b1⟩
/-- some object is answered, or an exception leaves -/
theorem hx_r (hr : vx_Run p l e R s m args below meth c H locs cells slots mc ms (F0 m pc ls st) rest (va_Qr (fun (_ : Unit) => xc = 0) (fun _ _ t => wQA D w1 (va_A wc H.size) t) (va_A wc H.size) a) (vx_X (fun (_ : Unit) => ¬ xc = 0) (fun E _ t => E = xcls xc ∧ wQA D w1 (va_A wc H.size) t) (va_A wc H.size)) (va_A wc H.size)) (hP : va_P D vwCl ww H) (hD : va_D A ww) (hS : va_S A H0 H locs) (hA : ∀ q, H0.size ≤ q → A q) (isC isR : List Nat) (hC : isC.map (fun i => ww[i]?) = wc.map some) (hR : isR.map (fun i => ww[i]?) = wr.map some) (hn : va_nd isR = true) (hdis : ∀ i ∈ isR, i ∉ isC)
    (kx : ∀ (E : String) (ce : Cell) (q9 : Addr) (H1 : Heap) (locs1 : List Loc), ¬ xc = 0 → E = xcls xc → va_P D vwCl (wr ++ w1) H1 → va_D A (wr ++ w1) → va_S A H0 H1 locs1 → H1[q9]? = some ce → ce.vm = .none → s.vm.findClass E = some ce.cls → vx_W p l e R s m args below meth c H1 locs1 (cells + mc) (slots + ms) Q (F0 m pc ls rest) q9)
    (kk : xc = 0 → ∀ (ra : Nat) (H1 : Heap) (locs1 : List Loc), va_P D vwCl (wr ++ w1) H1 → va_D A (wr ++ w1) → va_S A H0 H1 locs1 → W p l e R s m args below meth c H1 locs1 (cells + mc) (slots + ms) Q (F0 m (pc + 3) ls (.ref ra :: rest))) : W p l e R s m args below meth c H locs cells slots Q (F0 m pc ls st) := by
  have hF := va_free hD hS hA isC hC
  refine vx_callr hr hS (fun q _ h => hF q h) hF (fun q _ h => hF q h) (fun E ce q9 u t H1 locs1 ht _ hx hB _ hk1 hS1 hc hv hcl => ?_) (fun u ra t H1 locs1 ht _ hw hB _ hk1 hS1 => ?_)
  · obtain ⟨hE, hP1, hD1⟩ := hB
    rw [ht] at hP1
    obtain ⟨hP2, hD2⟩ := va_join hP hD isC isR hC hR hn hdis hk1 hF hP1 hD1
    exact kx E ce q9 H1 locs1 hx hE hP2 hD2 hS1 hc hv hcl
  · obtain ⟨hP1, hD1⟩ := hB
    rw [ht] at hP1
    obtain ⟨hP2, hD2⟩ := va_join hP hD isC isR hC hR hn hdis hk1 hF hP1 hD1
    exact kk hw ra H1 locs1 hP2 hD2 hS1
/-- a method of the law's own: it catches all that it calls -/
theorem hl_i {S : Type} {r0 : Int32} {w1 : S → va_W} (hr : vx_Run p l e R s m args below meth c H locs cells slots mc ms (F0 m pc ls st) rest (va_Qi (fun (r : Int32) (_ : S) => r = r0) (fun u t => wQA D (w1 u) (va_A wc H.size) t) (va_A wc H.size) a) (fun _ _ _ => False) (va_A wc H.size)) (hP : va_P D vwCl ww H) (hD : va_D A ww) (hS : va_S A H0 H locs) (hA : ∀ q, H0.size ≤ q → A q) (isC isR : List Nat) (hC : isC.map (fun i => ww[i]?) = wc.map some) (hR : isR.map (fun i => ww[i]?) = wr.map some) (hn : va_nd isR = true) (hdis : ∀ i ∈ isR, i ∉ isC)
    (kk : ∀ (u : S) (H1 : Heap) (locs1 : List Loc), va_P D vwCl (wr ++ w1 u) H1 → va_D A (wr ++ w1 u) → va_S A H0 H1 locs1 → W p l e R s m args below meth c H1 locs1 (cells + mc) (slots + ms) Q (F0 m (pc + 3) ls (.int r0 :: rest))) : W p l e R s m args below meth c H locs cells slots Q (F0 m pc ls st) := by
  have hF := va_free hD hS hA isC hC
  have hr2 : vx_Run p l e R s m args below meth c H locs cells slots mc ms (F0 m pc ls st) rest (va_Qi (fun (r : Int32) (_ : S) => r = r0) (fun u t => wQA D (w1 u) (va_A wc H.size) t) (va_A wc H.size) a) (vx_X (fun (_ : Unit) => False) (fun _ _ _ => False) (fun _ => False)) (va_A wc H.size) := by
    have e1 : (vx_X (fun (_ : Unit) => False) (fun _ _ _ => False) (fun _ => False) : String → State → State → Prop) = fun _ _ _ => False := by
      funext E st t
      refine propext ⟨fun h => ?_, fun h => h.elim⟩
      obtain ⟨u, hu, -, -⟩ := h
      exact hu
    rw [e1]; exact hr
  refine vx_calli hr2 hS (fun q _ h => hF q h) hF (fun q _ h => h.elim) (fun E ce q9 u t H1 locs1 ht _ hx hB _ hk1 hS1 hc hv hcl => hx.elim) (fun r u t H1 locs1 ht _ hw hB _ hk1 hS1 => ?_)
  obtain ⟨hP1, hD1⟩ := hB
  rw [ht] at hP1
  subst hw
  obtain ⟨hP2, hD2⟩ := va_join hP hD isC isR hC hR hn hdis hk1 hF hP1 hD1
  exact kk u H1 locs1 hP2 hD2 hS1
end HC5
