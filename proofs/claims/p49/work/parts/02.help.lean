/-- what the classes of one nest see of one another -/
def nwL : List Cond := [.fieldLinkNest "Formwheel$Factors" 52 "Formwheel$Roll" "size" "I" "Formwheel",
  .fieldLinkNest "Formwheel$Wheels" 37 "Formwheel$Roll" "size" "I" "Formwheel",
  .fieldLinkNest "Formwheel" 176 "Formwheel$Roll" "size" "I" "Formwheel",
  .fieldLinkNest "Formwheel" 218 "Formwheel$ShiftRow" "taps" "J" "Formwheel",
  .fieldLinkNest "Formwheel" 224 "Formwheel$ShiftRow" "cells" "J" "Formwheel",
  .fieldLinkNest "Formwheel" 141 "Formwheel$Rows" "first" "J" "Formwheel",
  .fieldLinkNest "Formwheel" 134 "Formwheel$Rows" "ofOne" "J" "Formwheel",
  .fieldLinkNest "Formwheel" 138 "Formwheel$Rows" "ofOther" "J" "Formwheel",
  .fieldLinkNest "FormwheelLaw" 13 "FormwheelLaw$Out" "n" "J" "FormwheelLaw",
  .fieldLinkNest "FormwheelLaw" 124 "FormwheelLaw$Out" "s" "Ljava/lang/String;" "FormwheelLaw",
  .methodLinkNest "Formwheel" 29 ⟨"Formwheel$Rows", "<init>", "()V"⟩ "Formwheel",
  .methodLinkNest "Formwheel$Wheels" 15 ⟨"Formwheel", "isBetween", "(III)Z"⟩ "Formwheel",
  .methodLinkNest "FormwheelLaw" 159 ⟨"FormwheelLaw$Out", "<init>", "()V"⟩ "FormwheelLaw"]
/-! helpers: naming, loops with fuel, the words of the nest, calls of the shapes that the program lays -/
def bnd {α β : Type} (e : α) (k : α → β) : β := k e
theorem bnd_h {α β : Type} {e x : α} {k : α → Option β} {r : Option β} (ex : x = e) (h : bnd e k = r) : k x = r := by subst ex; exact h
theorem it_ {c : Prop} [Decidable c] {α : Type} {a b r : α} (hc : c) (h : (if c then a else b) = r) : a = r := by rw [if_pos hc] at h; exact h
theorem if_ {c : Prop} [Decidable c] {α : Type} {a b r : α} (hc : ¬ c) (h : (if c then a else b) = r) : b = r := by rw [if_neg hc] at h; exact h
def chk {β : Type} (c : Prop) [Decidable c] (k : Option β) : Option β := if c then k else none
theorem chk_h {β : Type} {c : Prop} [Decidable c] {k : Option β} {r : β} (h : chk c k = some r) : c ∧ k = some r := by
  unfold chk at h
  by_cases hc : c
  · rw [if_pos hc] at h; exact ⟨hc, h⟩
  · rw [if_neg hc] at h; cases h
def obn {α β : Type} (o : Option α) (k : α → Option β) : Option β := match o with
  | none => none
  | some x => k x
theorem obn_h {α β : Type} {o : Option α} {k : α → Option β} {r : β} (h : obn o k = some r) : ∃ x, o = some x ∧ k x = some r := by
  cases o with
  | none => cases h
  | some x => exact ⟨x, rfl, h⟩
theorem obn_some {α β : Type} (x : α) (k : α → Option β) : obn (some x) k = k x := rfl
def zr (v : Int32) : Option Int32 := if v = 0 ∨ v = 1 then some v else none
theorem zr_h {v r : Int32} (h : zr v = some r) : v = r ∧ narrow .boolean (.int v) = .int v := by
  unfold zr at h
  by_cases hc : v = 0 ∨ v = 1
  · rw [if_pos hc] at h
    refine ⟨Option.some.inj h, ?_⟩
    rcases hc with rfl | rfl
    · exact narrow_b0
    · exact narrow_b1
  · rw [if_neg hc] at h; cases h
def LQ1 {A R : Type} (st : (A → Option R) → A → Option R) : Nat → A → Option R
  | 0, _ => none
  | n + 1, a => st (LQ1 st n) a
theorem LQ1_i {A R : Type} {st : (A → Option R) → A → Option R} {r : R} (M : A → Prop) (hs : ∀ ih : A → Option R, (∀ a, ih a = some r → M a) → ∀ a, st ih a = some r → M a) : ∀ n a, LQ1 st n a = some r → M a := by
  intro n
  induction n with
  | zero => intro a h; cases h
  | succ n ihn => intro a h; exact hs _ ihn a h
def LQ2 {A B R : Type} (st : (A → B → Option R) → A → B → Option R) : Nat → A → B → Option R
  | 0, _, _ => none
  | n + 1, a, b => st (LQ2 st n) a b
theorem LQ2_i {A B R : Type} {st : (A → B → Option R) → A → B → Option R} {r : R} (M : A → B → Prop) (hs : ∀ ih : A → B → Option R, (∀ a b, ih a b = some r → M a b) → ∀ a b, st ih a b = some r → M a b) : ∀ n a b, LQ2 st n a b = some r → M a b := by
  intro n
  induction n with
  | zero => intro a b h; cases h
  | succ n ihn => intro a b h; exact hs _ ihn a b h
def LQ3 {A B C R : Type} (st : (A → B → C → Option R) → A → B → C → Option R) : Nat → A → B → C → Option R
  | 0, _, _, _ => none
  | n + 1, a, b, c => st (LQ3 st n) a b c
theorem LQ3_i {A B C R : Type} {st : (A → B → C → Option R) → A → B → C → Option R} {r : R} (M : A → B → C → Prop) (hs : ∀ ih : A → B → C → Option R, (∀ a b c, ih a b c = some r → M a b c) → ∀ a b c, st ih a b c = some r → M a b c) : ∀ n a b c, LQ3 st n a b c = some r → M a b c := by
  intro n
  induction n with
  | zero => intro a b c h; cases h
  | succ n ihn => intro a b c h; exact hs _ ihn a b c h
def LQ4 {A B C E R : Type} (st : (A → B → C → E → Option R) → A → B → C → E → Option R) : Nat → A → B → C → E → Option R
  | 0, _, _, _, _ => none
  | n + 1, a, b, c, d => st (LQ4 st n) a b c d
theorem LQ4_i {A B C E R : Type} {st : (A → B → C → E → Option R) → A → B → C → E → Option R} {r : R} (M : A → B → C → E → Prop) (hs : ∀ ih : A → B → C → E → Option R, (∀ a b c d, ih a b c d = some r → M a b c d) → ∀ a b c d, st ih a b c d = some r → M a b c d) : ∀ n a b c d, LQ4 st n a b c d = some r → M a b c d := by
  intro n
  induction n with
  | zero => intro a b c d h; cases h
  | succ n ihn => intro a b c d h; exact hs _ ihn a b c d h
def LQ5 {A B C E F R : Type} (st : (A → B → C → E → F → Option R) → A → B → C → E → F → Option R) : Nat → A → B → C → E → F → Option R
  | 0, _, _, _, _, _ => none
  | n + 1, a, b, c, d, e => st (LQ5 st n) a b c d e
theorem LQ5_i {A B C E F R : Type} {st : (A → B → C → E → F → Option R) → A → B → C → E → F → Option R} {r : R} (M : A → B → C → E → F → Prop) (hs : ∀ ih : A → B → C → E → F → Option R, (∀ a b c d e, ih a b c d e = some r → M a b c d e) → ∀ a b c d e, st ih a b c d e = some r → M a b c d e) : ∀ n a b c d e, LQ5 st n a b c d e = some r → M a b c d e := by
  intro n
  induction n with
  | zero => intro a b c d e h; cases h
  | succ n ihn => intro a b c d e h; exact hs _ ihn a b c d e h
def LQ6 {A B C E F G R : Type} (st : (A → B → C → E → F → G → Option R) → A → B → C → E → F → G → Option R) : Nat → A → B → C → E → F → G → Option R
  | 0, _, _, _, _, _, _ => none
  | n + 1, a, b, c, d, e, f => st (LQ6 st n) a b c d e f
theorem LQ6_i {A B C E F G R : Type} {st : (A → B → C → E → F → G → Option R) → A → B → C → E → F → G → Option R} {r : R} (M : A → B → C → E → F → G → Prop) (hs : ∀ ih : A → B → C → E → F → G → Option R, (∀ a b c d e f, ih a b c d e f = some r → M a b c d e f) → ∀ a b c d e f, st ih a b c d e f = some r → M a b c d e f) : ∀ n a b c d e f, LQ6 st n a b c d e f = some r → M a b c d e f := by
  intro n
  induction n with
  | zero => intro a b c d e f h; cases h
  | succ n ihn => intro a b c d e f h; exact hs _ ihn a b c d e f h
theorem nwL_on : ∀ w ∈ nwL, w.onTables = true := by decide +kernel
theorem nwL_k : ∀ w ∈ nwL, (∃ (a : String) (i : Nat) (b n d h : String), w = .fieldLinkNest a i b n d h) ∨ (∃ (a : String) (i : Nat) (x : MethodName) (h : String), w = .methodLinkNest a i x h) := by
  unfold nwL
  simp only [List.mem_cons, List.not_mem_nil, or_false, forall_eq_or_imp, forall_eq]
  refine ⟨?_, ?_, ?_, ?_, ?_, ?_, ?_, ?_, ?_, ?_, ?_, ?_, ?_⟩ <;> first | exact Or.inl ⟨_, _, _, _, _, _, rfl⟩ | exact Or.inr ⟨_, _, _, _, rfl⟩
def NW (U : State) : Prop := ∀ w ∈ nwL, va_Nw w U
theorem NW.same {u U : State} (h : u.vm = U.vm) (q : NW u) : NW U := fun w hw => va_Nw.same (nwL_on w hw) h (q w hw)
theorem NW.warm {s U : State} (hW : s.WarmedH U.vm) (q : NW s) : NW U := fun w hw => by
  have h := q w hw
  rcases nwL_k w hw with ⟨a, i, b, n, d, hh, rfl⟩ | ⟨a, i, x, hh, rfl⟩
  · exact va_Nw.warmF hW h
  · exact va_Nw.warmM hW h
theorem NW.calling {U : State} {g : JFrame} {mk : MethodId} {a : Array Value} (q : NW U) : NW (U.calling g mk a) := NW.same (u := U) rfl q
theorem NW.use {w : Cond} {s : State} {A : Array Value} (q : NW s) (hw : w ∈ nwL) : w.before A s = true := va_Nw.use (nwL_on w hw) (q w hw)
/-- the start of a method that reads: its world, the classes, the nest's words -/
def wPK (D : va_G) (tys : List (ClassId × FieldType)) (ws : va_W) (U : State) : Prop := va_P D vwCl ws U.heap ∧ va_K D vwCl tys U ∧ NW U
/-- the start of a method that writes -/
def wPD (D : va_G) (tys : List (ClassId × FieldType)) (ws : va_W) (sz : Nat) (U : State) : Prop := U.heap.size = sz ∧ va_P D vwCl ws U.heap ∧ va_K D vwCl tys U ∧ va_D (fun _ => True) ws ∧ NW U
/-- the end of a method that writes -/
def wQD (D : va_G) (ws w1 : va_W) (sz : Nat) (t : State) : Prop := va_P D vwCl w1 t.heap ∧ va_D (va_A ws sz) w1
theorem wPK.calling {D : va_G} {tys : List (ClassId × FieldType)} {ws : va_W} {U : State} {g : JFrame} {mk : MethodId} {a : Array Value} (q : wPK D tys ws U) : wPK D tys ws (U.calling g mk a) := ⟨q.1, va_K.moved (u := U) (U := U.calling g mk a) (Vm.Alike.refl U.vm) q.2.1, q.2.2.calling⟩
theorem wPD.calling {D : va_G} {tys : List (ClassId × FieldType)} {ws : va_W} {sz : Nat} {U : State} {g : JFrame} {mk : MethodId} {a : Array Value} (q : wPD D tys ws sz U) : wPD D tys ws sz (U.calling g mk a) := ⟨q.1, q.2.1, va_K.moved (u := U) (U := U.calling g mk a) (Vm.Alike.refl U.vm) q.2.2.1, q.2.2.2.1, q.2.2.2.2.calling⟩
theorem bl_NW {av : List Value} : FrameBlind (va_Pc av NW) := fun _ _ _ _ q => ⟨q.1, q.2.calling⟩
theorem bl_PK {av : List Value} {D : va_G} {tys : List (ClassId × FieldType)} {ws : va_W} : FrameBlind (va_Pc av (wPK D tys ws)) := fun _ _ _ _ q => ⟨q.1, q.2.calling⟩
theorem bl_PD {av : List Value} {D : va_G} {tys : List (ClassId × FieldType)} {ws : va_W} {sz : Nat} : FrameBlind (va_Pc av (wPD D tys ws sz)) := fun _ _ _ _ q => ⟨q.1, q.2.calling⟩
theorem no_q {P : Loc → Prop} : ∀ q ∈ ([] : List Loc), P q := fun q h => absurd h List.not_mem_nil
section HC
variable {p : Program} {l : Launch} {e : Env} {R : Room} {s : State} {m : MethodId} {args : Array Value} {below : List Frame} {meth : Method} {c : Code} {H : Heap} {locs : List Loc} {cells slots : Nat} {Q : State → Prop}
variable {y : MethodName} {bytes cc : ByteArray} {maxL nL n index pc mc ms : Nat} {ret : Option FieldType} {ws Ts : List Cond} {rm : Room} {own C host : String} {b : Nat} {As rest st : List Value} {ls : Array Slot} {r : Value} {A A1 : Nat → Prop} {H0 : Heap} {D : va_G} {tys tyc : List (ClassId × FieldType)} {ww wc wr w1 : va_W} {free : Addr → Prop}
theorem va_Run.c {g : JFrame} {Qa : State → Outcome → State → Prop} (hr : va_Run p l e R s m args below meth c H locs cells slots mc ms g rest Qa free) : CallRun p l e R s m args below meth c H locs cells slots mc ms g rest Qa free := fun T hT X => by
  obtain ⟨v, st0, t, T', L, h0, X', hL, e1, -, hq, stt⟩ := hr T hT X
  exact ⟨v, st0, t, T', L, h0, X', hL, e1, hq, stt⟩
/-- a static method of numbers alone -/
theorem pz_callS (S : CallFix p m c cc nL s args Ts own) (hM : Met l y ws rm (va_Pc As NW) (k2_QcV r) 0 0 (fun _ => False)) (cw : CallB R s args own index y bytes maxL ret ws rm 0 0 n ∧ (Cond.static y).before args s = true) (hnw : NW s) (hn : As.length = n) (hsize : ls.size = nL) (hstack : st = As.reverse ++ rest) (hW : (rest.map fun v => v.category).sum ≤ 8) (hdg : decode cc pc = .ok (.invokestatic index, 3)) (hf : cells ≤ R.cells ∧ slots ≤ R.slots)
    (k : W p l e R s m args below meth c H locs cells slots Q (F0 m (pc + 3) ls (r :: rest))) : W p l e R s m args below meth c H locs cells slots Q (F0 m pc ls st) :=
  W.callV (W.runS S hM cw ⟨bl_NW, fun U _ hW => ⟨rfl, hnw.warm hW⟩⟩ rfl hn hsize hstack (lv_room hW) hdg hf) k
theorem pz_callSN (S : CallFix p m c cc nL s args Ts own) (hM : Met l y ws rm (va_Pc As NW) (k2_QcV r) 0 0 (fun _ => False)) (cw : va_CN R s args own index y host bytes maxL ret ws rm 0 0 n ∧ (Cond.static y).before args s = true ∧ True) (hnw : NW s) (hn : As.length = n) (hsize : ls.size = nL) (hstack : st = As.reverse ++ rest) (hW : (rest.map fun v => v.category).sum ≤ 8) (hdg : decode cc pc = .ok (.invokestatic index, 3)) (hf : cells ≤ R.cells ∧ slots ≤ R.slots)
    (k : W p l e R s m args below meth c H locs cells slots Q (F0 m (pc + 3) ls (r :: rest))) : W p l e R s m args below meth c H locs cells slots Q (F0 m pc ls st) :=
  W.callV (va_runSN S hM cw ⟨bl_NW, fun U _ hW => ⟨rfl, hnw.warm hW⟩⟩ rfl hn hsize hstack (lv_room hW) hdg hf).c k
/-- a static method that reads a world -/
theorem rd_callS (S : CallFix p m c cc nL s args Ts own) (hM : Met l y ws rm (va_Pc As (wPK D tyc wc)) (k2_QcV r) 0 0 (fun _ => False)) (cw : CallB R s args own index y bytes maxL ret ws rm 0 0 n ∧ (Cond.static y).before args s = true) (hnw : NW s) (hPc : va_P D vwCl wc H) (hKc : va_K D vwCl tyc s) (hn : As.length = n) (hsize : ls.size = nL) (hstack : st = As.reverse ++ rest) (hW : (rest.map fun v => v.category).sum ≤ 8) (hdg : decode cc pc = .ok (.invokestatic index, 3)) (hf : cells ≤ R.cells ∧ slots ≤ R.slots)
    (k : W p l e R s m args below meth c H locs cells slots Q (F0 m (pc + 3) ls (r :: rest))) : W p l e R s m args below meth c H locs cells slots Q (F0 m pc ls st) :=
  W.callV (W.runS S hM cw ⟨bl_PK, fun U hU hW => ⟨rfl, by rw [hU]; exact hPc, va_K.moved hW.alike hKc, hnw.warm hW⟩⟩ rfl hn hsize hstack (lv_room hW) hdg hf) k
/-- a method of an object that reads a world -/
theorem rd_callV (S : CallFix p m c cc nL s args Ts own) (hM : Met l y ws rm (va_Pc (.ref b :: As) (wPK D tyc wc)) (k2_QcV r) 0 0 (fun _ => False)) (cw : CallW R s args own C index y bytes maxL ret ws rm 0 0 n) (hnw : NW s) (hPc : va_P D vwCl wc H) (hKc : va_K D vwCl tyc s) (hrec : ∃ cell : Cell, H[b]? = some cell ∧ cell.vm.isStatics = false ∧ s.vm.findClass C = some cell.cls) (hn : As.length = n) (hsize : ls.size = nL) (hstack : st = As.reverse ++ .ref b :: rest) (hW : (rest.map fun v => v.category).sum ≤ 8) (hdg : decode cc pc = .ok (.invokevirtual index, 3)) (hf : cells ≤ R.cells ∧ slots ≤ R.slots)
    (k : W p l e R s m args below meth c H locs cells slots Q (F0 m (pc + 3) ls (r :: rest))) : W p l e R s m args below meth c H locs cells slots Q (F0 m pc ls st) :=
  W.callV (W.runV S hM cw ⟨bl_PK, hrec, fun U hU hW => ⟨rfl, by rw [hU]; exact hPc, va_K.moved hW.alike hKc, hnw.warm hW⟩⟩ rfl hn hsize hstack (lv_room hW) hdg hf) k
end HC
