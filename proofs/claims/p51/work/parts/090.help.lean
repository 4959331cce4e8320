/-- what the classes of one nest see of one another -/
noncomputable def nwL : List Cond := [.fieldLinkNest "Formwheel$Factors" 52 "Formwheel$Roll" "size" "I" "Formwheel",
  .fieldLinkNest "Formwheel$Wheels" 37 "Formwheel$Roll" "size" "I" "Formwheel",
  .fieldLinkNest "Formwheel" 176 "Formwheel$Roll" "size" "I" "Formwheel",
  .fieldLinkNest "Formwheel" 218 "Formwheel$ShiftRow" "taps" "J" "Formwheel",
  .fieldLinkNest "Formwheel" 224 "Formwheel$ShiftRow" "cells" "J" "Formwheel",
  .fieldLinkNest "Formwheel" 141 "Formwheel$Rows" "first" "J" "Formwheel",
  .fieldLinkNest "Formwheel" 134 "Formwheel$Rows" "ofOne" "J" "Formwheel",
  .fieldLinkNest "Formwheel" 138 "Formwheel$Rows" "ofOther" "J" "Formwheel",
  .fieldLinkNest "FormwheelLaw" 13 "FormwheelLaw$Out" "n" "J" "FormwheelLaw",
  .fieldLinkNest "FormwheelLaw" 124 "FormwheelLaw$Out" "s" "Ljava/lang/String;" "FormwheelLaw",
  .methodLinkNest "Formwheel" 29 ⟨"Formwheel$Rows", "<init>", "()V"⟩ "Formwheel",
  .methodLinkNest "Formwheel$Wheels" 15 ⟨"Formwheel", "isBetween", "(III)Z"⟩ "Formwheel",
  .methodLinkNest "FormwheelLaw" 159 ⟨"FormwheelLaw$Out", "<init>", "()V"⟩ "FormwheelLaw"]
/-! helpers: naming, loops with fuel, the words of the nest, calls of the shapes that the program lays -/
noncomputable def bnd {α β : Type} (e : α) (k : α → β) : β := k e
theorem bnd_h {α β : Type} {e x : α} {k : α → Option β} {r : Option β} (ex : x = e) (h : bnd e k = r) : k x = r := by subst ex; exact h
theorem it_ {c : Prop} [Decidable c] {α : Type} {a b r : α} (hc : c) (h : (if c then a else b) = r) : a = r := by rw [if_pos hc] at h; exact h
theorem if_ {c : Prop} [Decidable c] {α : Type} {a b r : α} (hc : ¬ c) (h : (if c then a else b) = r) : b = r := by rw [if_neg hc] at h; exact h
noncomputable def chk {β : Type} (c : Prop) [Decidable c] (k : Option β) : Option β := if c then k else none
theorem chk_h {β : Type} {c : Prop} [Decidable c] {k : Option β} {r : β} (h : chk c k = some r) : c ∧ k = some r := by
  unfold chk at h
  by_cases hc : c
  · rw [if_pos hc] at h; exact ⟨hc, h⟩
  · rw [if_neg hc] at h; cases h
noncomputable def obn {α β : Type} (o : Option α) (k : α → Option β) : Option β := match o with
  | none => none
  | some x => k x
theorem obn_h {α β : Type} {o : Option α} {k : α → Option β} {r : β} (h : obn o k = some r) : ∃ x, o = some x ∧ k x = some r := by
  cases o with
  | none => cases h
  | some x => exact ⟨x, rfl, h⟩
theorem obn_some {α β : Type} (x : α) (k : α → Option β) : obn (some x) k = k x := rfl
noncomputable def zr (v : Int32) : Option Int32 := if v = 0 ∨ v = 1 then some v else none
theorem zr_h {v r : Int32} (h : zr v = some r) : v = r ∧ narrow .boolean (.int v) = .int v := by
  unfold zr at h
  by_cases hc : v = 0 ∨ v = 1
  · rw [if_pos hc] at h
    refine ⟨Option.some.inj h, ?_⟩
    rcases hc with rfl | rfl
    · exact narrow_b0
    · exact narrow_b1
  · rw [if_neg hc] at h; cases h
noncomputable def LQ1 {A1 R : Type} (st : (A1 → Option R) → A1 → Option R) : Nat → A1 → Option R
  | 0, _ => none
  | n + 1, a1 => st (LQ1 st n) a1
theorem LQ1_k0 {A1 R : Type} {S : (A1 → Option R) → A1 → Option R} {r : R} (M : A1 → Prop) (hs : ∀ ih : A1 → Option R, (∀ a1, ih a1 = some r → M a1) → ∀ a1, S ih a1 = some r → M a1) : ∀ n a1, LQ1 S n a1 = some r → M a1 := by
  intro n
  induction n with
  | zero => intro a1 h; cases h
  | succ n ihn => intro a1 h; exact hs _ ihn a1 h
theorem LQ1_k1 {A1 R : Type} {K1 : Type} {S : K1 → (A1 → Option R) → A1 → Option R} {k1 : K1} {r : R} (M : A1 → Prop) (hs : ∀ q1 : K1, q1 = k1 → ∀ ih : A1 → Option R, (∀ a1, ih a1 = some r → M a1) → ∀ a1, S q1 ih a1 = some r → M a1) : ∀ n a1, LQ1 (S k1) n a1 = some r → M a1 := by
  intro n
  induction n with
  | zero => intro a1 h; cases h
  | succ n ihn => intro a1 h; exact hs _ rfl _ ihn a1 h
theorem LQ1_k2 {A1 R : Type} {K1 K2 : Type} {S : K1 → K2 → (A1 → Option R) → A1 → Option R} {k1 : K1} {k2 : K2} {r : R} (M : A1 → Prop) (hs : ∀ q1 : K1, q1 = k1 → ∀ q2 : K2, q2 = k2 → ∀ ih : A1 → Option R, (∀ a1, ih a1 = some r → M a1) → ∀ a1, S q1 q2 ih a1 = some r → M a1) : ∀ n a1, LQ1 (S k1 k2) n a1 = some r → M a1 := by
  intro n
  induction n with
  | zero => intro a1 h; cases h
  | succ n ihn => intro a1 h; exact hs _ rfl _ rfl _ ihn a1 h
theorem LQ1_k3 {A1 R : Type} {K1 K2 K3 : Type} {S : K1 → K2 → K3 → (A1 → Option R) → A1 → Option R} {k1 : K1} {k2 : K2} {k3 : K3} {r : R} (M : A1 → Prop) (hs : ∀ q1 : K1, q1 = k1 → ∀ q2 : K2, q2 = k2 → ∀ q3 : K3, q3 = k3 → ∀ ih : A1 → Option R, (∀ a1, ih a1 = some r → M a1) → ∀ a1, S q1 q2 q3 ih a1 = some r → M a1) : ∀ n a1, LQ1 (S k1 k2 k3) n a1 = some r → M a1 := by
  intro n
  induction n with
  | zero => intro a1 h; cases h
  | succ n ihn => intro a1 h; exact hs _ rfl _ rfl _ rfl _ ihn a1 h
noncomputable def LQ2 {A1 A2 R : Type} (st : (A1 → A2 → Option R) → A1 → A2 → Option R) : Nat → A1 → A2 → Option R
  | 0, _, _ => none
  | n + 1, a1, a2 => st (LQ2 st n) a1 a2
theorem LQ2_k0 {A1 A2 R : Type} {S : (A1 → A2 → Option R) → A1 → A2 → Option R} {r : R} (M : A1 → A2 → Prop) (hs : ∀ ih : A1 → A2 → Option R, (∀ a1 a2, ih a1 a2 = some r → M a1 a2) → ∀ a1 a2, S ih a1 a2 = some r → M a1 a2) : ∀ n a1 a2, LQ2 S n a1 a2 = some r → M a1 a2 := by
  intro n
  induction n with
  | zero => intro a1 a2 h; cases h
  | succ n ihn => intro a1 a2 h; exact hs _ ihn a1 a2 h
theorem LQ2_k1 {A1 A2 R : Type} {K1 : Type} {S : K1 → (A1 → A2 → Option R) → A1 → A2 → Option R} {k1 : K1} {r : R} (M : A1 → A2 → Prop) (hs : ∀ q1 : K1, q1 = k1 → ∀ ih : A1 → A2 → Option R, (∀ a1 a2, ih a1 a2 = some r → M a1 a2) → ∀ a1 a2, S q1 ih a1 a2 = some r → M a1 a2) : ∀ n a1 a2, LQ2 (S k1) n a1 a2 = some r → M a1 a2 := by
  intro n
  induction n with
  | zero => intro a1 a2 h; cases h
  | succ n ihn => intro a1 a2 h; exact hs _ rfl _ ihn a1 a2 h
theorem LQ2_k2 {A1 A2 R : Type} {K1 K2 : Type} {S : K1 → K2 → (A1 → A2 → Option R) → A1 → A2 → Option R} {k1 : K1} {k2 : K2} {r : R} (M : A1 → A2 → Prop) (hs : ∀ q1 : K1, q1 = k1 → ∀ q2 : K2, q2 = k2 → ∀ ih : A1 → A2 → Option R, (∀ a1 a2, ih a1 a2 = some r → M a1 a2) → ∀ a1 a2, S q1 q2 ih a1 a2 = some r → M a1 a2) : ∀ n a1 a2, LQ2 (S k1 k2) n a1 a2 = some r → M a1 a2 := by
  intro n
  induction n with
  | zero => intro a1 a2 h; cases h
  | succ n ihn => intro a1 a2 h; exact hs _ rfl _ rfl _ ihn a1 a2 h
theorem LQ2_k3 {A1 A2 R : Type} {K1 K2 K3 : Type} {S : K1 → K2 → K3 → (A1 → A2 → Option R) → A1 → A2 → Option R} {k1 : K1} {k2 : K2} {k3 : K3} {r : R} (M : A1 → A2 → Prop) (hs : ∀ q1 : K1, q1 = k1 → ∀ q2 : K2, q2 = k2 → ∀ q3 : K3, q3 = k3 → ∀ ih : A1 → A2 → Option R, (∀ a1 a2, ih a1 a2 = some r → M a1 a2) → ∀ a1 a2, S q1 q2 q3 ih a1 a2 = some r → M a1 a2) : ∀ n a1 a2, LQ2 (S k1 k2 k3) n a1 a2 = some r → M a1 a2 := by
  intro n
  induction n with
  | zero => intro a1 a2 h; cases h
  | succ n ihn => intro a1 a2 h; exact hs _ rfl _ rfl _ rfl _ ihn a1 a2 h
noncomputable def LQ3 {A1 A2 A3 R : Type} (st : (A1 → A2 → A3 → Option R) → A1 → A2 → A3 → Option R) : Nat → A1 → A2 → A3 → Option R
  | 0, _, _, _ => none
  | n + 1, a1, a2, a3 => st (LQ3 st n) a1 a2 a3
theorem LQ3_k0 {A1 A2 A3 R : Type} {S : (A1 → A2 → A3 → Option R) → A1 → A2 → A3 → Option R} {r : R} (M : A1 → A2 → A3 → Prop) (hs : ∀ ih : A1 → A2 → A3 → Option R, (∀ a1 a2 a3, ih a1 a2 a3 = some r → M a1 a2 a3) → ∀ a1 a2 a3, S ih a1 a2 a3 = some r → M a1 a2 a3) : ∀ n a1 a2 a3, LQ3 S n a1 a2 a3 = some r → M a1 a2 a3 := by
  intro n
  induction n with
  | zero => intro a1 a2 a3 h; cases h
  | succ n ihn => intro a1 a2 a3 h; exact hs _ ihn a1 a2 a3 h
theorem LQ3_k1 {A1 A2 A3 R : Type} {K1 : Type} {S : K1 → (A1 → A2 → A3 → Option R) → A1 → A2 → A3 → Option R} {k1 : K1} {r : R} (M : A1 → A2 → A3 → Prop) (hs : ∀ q1 : K1, q1 = k1 → ∀ ih : A1 → A2 → A3 → Option R, (∀ a1 a2 a3, ih a1 a2 a3 = some r → M a1 a2 a3) → ∀ a1 a2 a3, S q1 ih a1 a2 a3 = some r → M a1 a2 a3) : ∀ n a1 a2 a3, LQ3 (S k1) n a1 a2 a3 = some r → M a1 a2 a3 := by
  intro n
  induction n with
  | zero => intro a1 a2 a3 h; cases h
  | succ n ihn => intro a1 a2 a3 h; exact hs _ rfl _ ihn a1 a2 a3 h
theorem LQ3_k2 {A1 A2 A3 R : Type} {K1 K2 : Type} {S : K1 → K2 → (A1 → A2 → A3 → Option R) → A1 → A2 → A3 → Option R} {k1 : K1} {k2 : K2} {r : R} (M : A1 → A2 → A3 → Prop) (hs : ∀ q1 : K1, q1 = k1 → ∀ q2 : K2, q2 = k2 → ∀ ih : A1 → A2 → A3 → Option R, (∀ a1 a2 a3, ih a1 a2 a3 = some r → M a1 a2 a3) → ∀ a1 a2 a3, S q1 q2 ih a1 a2 a3 = some r → M a1 a2 a3) : ∀ n a1 a2 a3, LQ3 (S k1 k2) n a1 a2 a3 = some r → M a1 a2 a3 := by
  intro n
  induction n with
  | zero => intro a1 a2 a3 h; cases h
  | succ n ihn => intro a1 a2 a3 h; exact hs _ rfl _ rfl _ ihn a1 a2 a3 h
theorem LQ3_k3 {A1 A2 A3 R : Type} {K1 K2 K3 : Type} {S : K1 → K2 → K3 → (A1 → A2 → A3 → Option R) → A1 → A2 → A3 → Option R} {k1 : K1} {k2 : K2} {k3 : K3} {r : R} (M : A1 → A2 → A3 → Prop) (hs : ∀ q1 : K1, q1 = k1 → ∀ q2 : K2, q2 = k2 → ∀ q3 : K3, q3 = k3 → ∀ ih : A1 → A2 → A3 → Option R, (∀ a1 a2 a3, ih a1 a2 a3 = some r → M a1 a2 a3) → ∀ a1 a2 a3, S q1 q2 q3 ih a1 a2 a3 = some r → M a1 a2 a3) : ∀ n a1 a2 a3, LQ3 (S k1 k2 k3) n a1 a2 a3 = some r → M a1 a2 a3 := by
  intro n
  induction n with
  | zero => intro a1 a2 a3 h; cases h
  | succ n ihn => intro a1 a2 a3 h; exact hs _ rfl _ rfl _ rfl _ ihn a1 a2 a3 h
noncomputable def LQ4 {A1 A2 A3 A4 R : Type} (st : (A1 → A2 → A3 → A4 → Option R) → A1 → A2 → A3 → A4 → Option R) : Nat → A1 → A2 → A3 → A4 → Option R
  | 0, _, _, _, _ => none
  | n + 1, a1, a2, a3, a4 => st (LQ4 st n) a1 a2 a3 a4
theorem LQ4_k0 {A1 A2 A3 A4 R : Type} {S : (A1 → A2 → A3 → A4 → Option R) → A1 → A2 → A3 → A4 → Option R} {r : R} (M : A1 → A2 → A3 → A4 → Prop) (hs : ∀ ih : A1 → A2 → A3 → A4 → Option R, (∀ a1 a2 a3 a4, ih a1 a2 a3 a4 = some r → M a1 a2 a3 a4) → ∀ a1 a2 a3 a4, S ih a1 a2 a3 a4 = some r → M a1 a2 a3 a4) : ∀ n a1 a2 a3 a4, LQ4 S n a1 a2 a3 a4 = some r → M a1 a2 a3 a4 := by
  intro n
  induction n with
  | zero => intro a1 a2 a3 a4 h; cases h
  | succ n ihn => intro a1 a2 a3 a4 h; exact hs _ ihn a1 a2 a3 a4 h
theorem LQ4_k1 {A1 A2 A3 A4 R : Type} {K1 : Type} {S : K1 → (A1 → A2 → A3 → A4 → Option R) → A1 → A2 → A3 → A4 → Option R} {k1 : K1} {r : R} (M : A1 → A2 → A3 → A4 → Prop) (hs : ∀ q1 : K1, q1 = k1 → ∀ ih : A1 → A2 → A3 → A4 → Option R, (∀ a1 a2 a3 a4, ih a1 a2 a3 a4 = some r → M a1 a2 a3 a4) → ∀ a1 a2 a3 a4, S q1 ih a1 a2 a3 a4 = some r → M a1 a2 a3 a4) : ∀ n a1 a2 a3 a4, LQ4 (S k1) n a1 a2 a3 a4 = some r → M a1 a2 a3 a4 := by
  intro n
  induction n with
  | zero => intro a1 a2 a3 a4 h; cases h
  | succ n ihn => intro a1 a2 a3 a4 h; exact hs _ rfl _ ihn a1 a2 a3 a4 h
theorem LQ4_k2 {A1 A2 A3 A4 R : Type} {K1 K2 : Type} {S : K1 → K2 → (A1 → A2 → A3 → A4 → Option R) → A1 → A2 → A3 → A4 → Option R} {k1 : K1} {k2 : K2} {r : R} (M : A1 → A2 → A3 → A4 → Prop) (hs : ∀ q1 : K1, q1 = k1 → ∀ q2 : K2, q2 = k2 → ∀ ih : A1 → A2 → A3 → A4 → Option R, (∀ a1 a2 a3 a4, ih a1 a2 a3 a4 = some r → M a1 a2 a3 a4) → ∀ a1 a2 a3 a4, S q1 q2 ih a1 a2 a3 a4 = some r → M a1 a2 a3 a4) : ∀ n a1 a2 a3 a4, LQ4 (S k1 k2) n a1 a2 a3 a4 = some r → M a1 a2 a3 a4 := by
  intro n
  induction n with
  | zero => intro a1 a2 a3 a4 h; cases h
  | succ n ihn => intro a1 a2 a3 a4 h; exact hs _ rfl _ rfl _ ihn a1 a2 a3 a4 h
theorem LQ4_k3 {A1 A2 A3 A4 R : Type} {K1 K2 K3 : Type} {S : K1 → K2 → K3 → (A1 → A2 → A3 → A4 → Option R) → A1 → A2 → A3 → A4 → Option R} {k1 : K1} {k2 : K2} {k3 : K3} {r : R} (M : A1 → A2 → A3 → A4 → Prop) (hs : ∀ q1 : K1, q1 = k1 → ∀ q2 : K2, q2 = k2 → ∀ q3 : K3, q3 = k3 → ∀ ih : A1 → A2 → A3 → A4 → Option R, (∀ a1 a2 a3 a4, ih a1 a2 a3 a4 = some r → M a1 a2 a3 a4) → ∀ a1 a2 a3 a4, S q1 q2 q3 ih a1 a2 a3 a4 = some r → M a1 a2 a3 a4) : ∀ n a1 a2 a3 a4, LQ4 (S k1 k2 k3) n a1 a2 a3 a4 = some r → M a1 a2 a3 a4 := by
  intro n
  induction n with
  | zero => intro a1 a2 a3 a4 h; cases h
  | succ n ihn => intro a1 a2 a3 a4 h; exact hs _ rfl _ rfl _ rfl _ ihn a1 a2 a3 a4 h
noncomputable def LQ5 {A1 A2 A3 A4 A5 R : Type} (st : (A1 → A2 → A3 → A4 → A5 → Option R) → A1 → A2 → A3 → A4 → A5 → Option R) : Nat → A1 → A2 → A3 → A4 → A5 → Option R
  | 0, _, _, _, _, _ => none
  | n + 1, a1, a2, a3, a4, a5 => st (LQ5 st n) a1 a2 a3 a4 a5
theorem LQ5_k0 {A1 A2 A3 A4 A5 R : Type} {S : (A1 → A2 → A3 → A4 → A5 → Option R) → A1 → A2 → A3 → A4 → A5 → Option R} {r : R} (M : A1 → A2 → A3 → A4 → A5 → Prop) (hs : ∀ ih : A1 → A2 → A3 → A4 → A5 → Option R, (∀ a1 a2 a3 a4 a5, ih a1 a2 a3 a4 a5 = some r → M a1 a2 a3 a4 a5) → ∀ a1 a2 a3 a4 a5, S ih a1 a2 a3 a4 a5 = some r → M a1 a2 a3 a4 a5) : ∀ n a1 a2 a3 a4 a5, LQ5 S n a1 a2 a3 a4 a5 = some r → M a1 a2 a3 a4 a5 := by
  intro n
  induction n with
  | zero => intro a1 a2 a3 a4 a5 h; cases h
  | succ n ihn => intro a1 a2 a3 a4 a5 h; exact hs _ ihn a1 a2 a3 a4 a5 h
theorem LQ5_k1 {A1 A2 A3 A4 A5 R : Type} {K1 : Type} {S : K1 → (A1 → A2 → A3 → A4 → A5 → Option R) → A1 → A2 → A3 → A4 → A5 → Option R} {k1 : K1} {r : R} (M : A1 → A2 → A3 → A4 → A5 → Prop) (hs : ∀ q1 : K1, q1 = k1 → ∀ ih : A1 → A2 → A3 → A4 → A5 → Option R, (∀ a1 a2 a3 a4 a5, ih a1 a2 a3 a4 a5 = some r → M a1 a2 a3 a4 a5) → ∀ a1 a2 a3 a4 a5, S q1 ih a1 a2 a3 a4 a5 = some r → M a1 a2 a3 a4 a5) : ∀ n a1 a2 a3 a4 a5, LQ5 (S k1) n a1 a2 a3 a4 a5 = some r → M a1 a2 a3 a4 a5 := by
  intro n
  induction n with
  | zero => intro a1 a2 a3 a4 a5 h; cases h
  | succ n ihn => intro a1 a2 a3 a4 a5 h; exact hs _ rfl _ ihn a1 a2 a3 a4 a5 h
theorem LQ5_k2 {A1 A2 A3 A4 A5 R : Type} {K1 K2 : Type} {S : K1 → K2 → (A1 → A2 → A3 → A4 → A5 → Option R) → A1 → A2 → A3 → A4 → A5 → Option R} {k1 : K1} {k2 : K2} {r : R} (M : A1 → A2 → A3 → A4 → A5 → Prop) (hs : ∀ q1 : K1, q1 = k1 → ∀ q2 : K2, q2 = k2 → ∀ ih : A1 → A2 → A3 → A4 → A5 → Option R, (∀ a1 a2 a3 a4 a5, ih a1 a2 a3 a4 a5 = some r → M a1 a2 a3 a4 a5) → ∀ a1 a2 a3 a4 a5, S q1 q2 ih a1 a2 a3 a4 a5 = some r → M a1 a2 a3 a4 a5) : ∀ n a1 a2 a3 a4 a5, LQ5 (S k1 k2) n a1 a2 a3 a4 a5 = some r → M a1 a2 a3 a4 a5 := by
  intro n
  induction n with
  | zero => intro a1 a2 a3 a4 a5 h; cases h
  | succ n ihn => intro a1 a2 a3 a4 a5 h; exact hs _ rfl _ rfl _ ihn a1 a2 a3 a4 a5 h
theorem LQ5_k3 {A1 A2 A3 A4 A5 R : Type} {K1 K2 K3 : Type} {S : K1 → K2 → K3 → (A1 → A2 → A3 → A4 → A5 → Option R) → A1 → A2 → A3 → A4 → A5 → Option R} {k1 : K1} {k2 : K2} {k3 : K3} {r : R} (M : A1 → A2 → A3 → A4 → A5 → Prop) (hs : ∀ q1 : K1, q1 = k1 → ∀ q2 : K2, q2 = k2 → ∀ q3 : K3, q3 = k3 → ∀ ih : A1 → A2 → A3 → A4 → A5 → Option R, (∀ a1 a2 a3 a4 a5, ih a1 a2 a3 a4 a5 = some r → M a1 a2 a3 a4 a5) → ∀ a1 a2 a3 a4 a5, S q1 q2 q3 ih a1 a2 a3 a4 a5 = some r → M a1 a2 a3 a4 a5) : ∀ n a1 a2 a3 a4 a5, LQ5 (S k1 k2 k3) n a1 a2 a3 a4 a5 = some r → M a1 a2 a3 a4 a5 := by
  intro n
  induction n with
  | zero => intro a1 a2 a3 a4 a5 h; cases h
  | succ n ihn => intro a1 a2 a3 a4 a5 h; exact hs _ rfl _ rfl _ rfl _ ihn a1 a2 a3 a4 a5 h
noncomputable def LQ6 {A1 A2 A3 A4 A5 A6 R : Type} (st : (A1 → A2 → A3 → A4 → A5 → A6 → Option R) → A1 → A2 → A3 → A4 → A5 → A6 → Option R) : Nat → A1 → A2 → A3 → A4 → A5 → A6 → Option R
  | 0, _, _, _, _, _, _ => none
  | n + 1, a1, a2, a3, a4, a5, a6 => st (LQ6 st n) a1 a2 a3 a4 a5 a6
theorem LQ6_k0 {A1 A2 A3 A4 A5 A6 R : Type} {S : (A1 → A2 → A3 → A4 → A5 → A6 → Option R) → A1 → A2 → A3 → A4 → A5 → A6 → Option R} {r : R} (M : A1 → A2 → A3 → A4 → A5 → A6 → Prop) (hs : ∀ ih : A1 → A2 → A3 → A4 → A5 → A6 → Option R, (∀ a1 a2 a3 a4 a5 a6, ih a1 a2 a3 a4 a5 a6 = some r → M a1 a2 a3 a4 a5 a6) → ∀ a1 a2 a3 a4 a5 a6, S ih a1 a2 a3 a4 a5 a6 = some r → M a1 a2 a3 a4 a5 a6) : ∀ n a1 a2 a3 a4 a5 a6, LQ6 S n a1 a2 a3 a4 a5 a6 = some r → M a1 a2 a3 a4 a5 a6 := by
  intro n
  induction n with
  | zero => intro a1 a2 a3 a4 a5 a6 h; cases h
  | succ n ihn => intro a1 a2 a3 a4 a5 a6 h; exact hs _ ihn a1 a2 a3 a4 a5 a6 h
theorem LQ6_k1 {A1 A2 A3 A4 A5 A6 R : Type} {K1 : Type} {S : K1 → (A1 → A2 → A3 → A4 → A5 → A6 → Option R) → A1 → A2 → A3 → A4 → A5 → A6 → Option R} {k1 : K1} {r : R} (M : A1 → A2 → A3 → A4 → A5 → A6 → Prop) (hs : ∀ q1 : K1, q1 = k1 → ∀ ih : A1 → A2 → A3 → A4 → A5 → A6 → Option R, (∀ a1 a2 a3 a4 a5 a6, ih a1 a2 a3 a4 a5 a6 = some r → M a1 a2 a3 a4 a5 a6) → ∀ a1 a2 a3 a4 a5 a6, S q1 ih a1 a2 a3 a4 a5 a6 = some r → M a1 a2 a3 a4 a5 a6) : ∀ n a1 a2 a3 a4 a5 a6, LQ6 (S k1) n a1 a2 a3 a4 a5 a6 = some r → M a1 a2 a3 a4 a5 a6 := by
  intro n
  induction n with
  | zero => intro a1 a2 a3 a4 a5 a6 h; cases h
  | succ n ihn => intro a1 a2 a3 a4 a5 a6 h; exact hs _ rfl _ ihn a1 a2 a3 a4 a5 a6 h
theorem LQ6_k2 {A1 A2 A3 A4 A5 A6 R : Type} {K1 K2 : Type} {S : K1 → K2 → (A1 → A2 → A3 → A4 → A5 → A6 → Option R) → A1 → A2 → A3 → A4 → A5 → A6 → Option R} {k1 : K1} {k2 : K2} {r : R} (M : A1 → A2 → A3 → A4 → A5 → A6 → Prop) (hs : ∀ q1 : K1, q1 = k1 → ∀ q2 : K2, q2 = k2 → ∀ ih : A1 → A2 → A3 → A4 → A5 → A6 → Option R, (∀ a1 a2 a3 a4 a5 a6, ih a1 a2 a3 a4 a5 a6 = some r → M a1 a2 a3 a4 a5 a6) → ∀ a1 a2 a3 a4 a5 a6, S q1 q2 ih a1 a2 a3 a4 a5 a6 = some r → M a1 a2 a3 a4 a5 a6) : ∀ n a1 a2 a3 a4 a5 a6, LQ6 (S k1 k2) n a1 a2 a3 a4 a5 a6 = some r → M a1 a2 a3 a4 a5 a6 := by
  intro n
  induction n with
  | zero => intro a1 a2 a3 a4 a5 a6 h; cases h
  | succ n ihn => intro a1 a2 a3 a4 a5 a6 h; exact hs _ rfl _ rfl _ ihn a1 a2 a3 a4 a5 a6 h
theorem LQ6_k3 {A1 A2 A3 A4 A5 A6 R : Type} {K1 K2 K3 : Type} {S : K1 → K2 → K3 → (A1 → A2 → A3 → A4 → A5 → A6 → Option R) → A1 → A2 → A3 → A4 → A5 → A6 → Option R} {k1 : K1} {k2 : K2} {k3 : K3} {r : R} (M : A1 → A2 → A3 → A4 → A5 → A6 → Prop) (hs : ∀ q1 : K1, q1 = k1 → ∀ q2 : K2, q2 = k2 → ∀ q3 : K3, q3 = k3 → ∀ ih : A1 → A2 → A3 → A4 → A5 → A6 → Option R, (∀ a1 a2 a3 a4 a5 a6, ih a1 a2 a3 a4 a5 a6 = some r → M a1 a2 a3 a4 a5 a6) → ∀ a1 a2 a3 a4 a5 a6, S q1 q2 q3 ih a1 a2 a3 a4 a5 a6 = some r → M a1 a2 a3 a4 a5 a6) : ∀ n a1 a2 a3 a4 a5 a6, LQ6 (S k1 k2 k3) n a1 a2 a3 a4 a5 a6 = some r → M a1 a2 a3 a4 a5 a6 := by
  intro n
  induction n with
  | zero => intro a1 a2 a3 a4 a5 a6 h; cases h
  | succ n ihn => intro a1 a2 a3 a4 a5 a6 h; exact hs _ rfl _ rfl _ rfl _ ihn a1 a2 a3 a4 a5 a6 h
noncomputable def LQ7 {A1 A2 A3 A4 A5 A6 A7 R : Type} (st : (A1 → A2 → A3 → A4 → A5 → A6 → A7 → Option R) → A1 → A2 → A3 → A4 → A5 → A6 → A7 → Option R) : Nat → A1 → A2 → A3 → A4 → A5 → A6 → A7 → Option R
  | 0, _, _, _, _, _, _, _ => none
  | n + 1, a1, a2, a3, a4, a5, a6, a7 => st (LQ7 st n) a1 a2 a3 a4 a5 a6 a7
theorem LQ7_k0 {A1 A2 A3 A4 A5 A6 A7 R : Type} {S : (A1 → A2 → A3 → A4 → A5 → A6 → A7 → Option R) → A1 → A2 → A3 → A4 → A5 → A6 → A7 → Option R} {r : R} (M : A1 → A2 → A3 → A4 → A5 → A6 → A7 → Prop) (hs : ∀ ih : A1 → A2 → A3 → A4 → A5 → A6 → A7 → Option R, (∀ a1 a2 a3 a4 a5 a6 a7, ih a1 a2 a3 a4 a5 a6 a7 = some r → M a1 a2 a3 a4 a5 a6 a7) → ∀ a1 a2 a3 a4 a5 a6 a7, S ih a1 a2 a3 a4 a5 a6 a7 = some r → M a1 a2 a3 a4 a5 a6 a7) : ∀ n a1 a2 a3 a4 a5 a6 a7, LQ7 S n a1 a2 a3 a4 a5 a6 a7 = some r → M a1 a2 a3 a4 a5 a6 a7 := by
  intro n
  induction n with
  | zero => intro a1 a2 a3 a4 a5 a6 a7 h; cases h
  | succ n ihn => intro a1 a2 a3 a4 a5 a6 a7 h; exact hs _ ihn a1 a2 a3 a4 a5 a6 a7 h
theorem LQ7_k1 {A1 A2 A3 A4 A5 A6 A7 R : Type} {K1 : Type} {S : K1 → (A1 → A2 → A3 → A4 → A5 → A6 → A7 → Option R) → A1 → A2 → A3 → A4 → A5 → A6 → A7 → Option R} {k1 : K1} {r : R} (M : A1 → A2 → A3 → A4 → A5 → A6 → A7 → Prop) (hs : ∀ q1 : K1, q1 = k1 → ∀ ih : A1 → A2 → A3 → A4 → A5 → A6 → A7 → Option R, (∀ a1 a2 a3 a4 a5 a6 a7, ih a1 a2 a3 a4 a5 a6 a7 = some r → M a1 a2 a3 a4 a5 a6 a7) → ∀ a1 a2 a3 a4 a5 a6 a7, S q1 ih a1 a2 a3 a4 a5 a6 a7 = some r → M a1 a2 a3 a4 a5 a6 a7) : ∀ n a1 a2 a3 a4 a5 a6 a7, LQ7 (S k1) n a1 a2 a3 a4 a5 a6 a7 = some r → M a1 a2 a3 a4 a5 a6 a7 := by
  intro n
  induction n with
  | zero => intro a1 a2 a3 a4 a5 a6 a7 h; cases h
  | succ n ihn => intro a1 a2 a3 a4 a5 a6 a7 h; exact hs _ rfl _ ihn a1 a2 a3 a4 a5 a6 a7 h
theorem LQ7_k2 {A1 A2 A3 A4 A5 A6 A7 R : Type} {K1 K2 : Type} {S : K1 → K2 → (A1 → A2 → A3 → A4 → A5 → A6 → A7 → Option R) → A1 → A2 → A3 → A4 → A5 → A6 → A7 → Option R} {k1 : K1} {k2 : K2} {r : R} (M : A1 → A2 → A3 → A4 → A5 → A6 → A7 → Prop) (hs : ∀ q1 : K1, q1 = k1 → ∀ q2 : K2, q2 = k2 → ∀ ih : A1 → A2 → A3 → A4 → A5 → A6 → A7 → Option R, (∀ a1 a2 a3 a4 a5 a6 a7, ih a1 a2 a3 a4 a5 a6 a7 = some r → M a1 a2 a3 a4 a5 a6 a7) → ∀ a1 a2 a3 a4 a5 a6 a7, S q1 q2 ih a1 a2 a3 a4 a5 a6 a7 = some r → M a1 a2 a3 a4 a5 a6 a7) : ∀ n a1 a2 a3 a4 a5 a6 a7, LQ7 (S k1 k2) n a1 a2 a3 a4 a5 a6 a7 = some r → M a1 a2 a3 a4 a5 a6 a7 := by
  intro n
  induction n with
  | zero => intro a1 a2 a3 a4 a5 a6 a7 h; cases h
  | succ n ihn => intro a1 a2 a3 a4 a5 a6 a7 h; exact hs _ rfl _ rfl _ ihn a1 a2 a3 a4 a5 a6 a7 h
theorem LQ7_k3 {A1 A2 A3 A4 A5 A6 A7 R : Type} {K1 K2 K3 : Type} {S : K1 → K2 → K3 → (A1 → A2 → A3 → A4 → A5 → A6 → A7 → Option R) → A1 → A2 → A3 → A4 → A5 → A6 → A7 → Option R} {k1 : K1} {k2 : K2} {k3 : K3} {r : R} (M : A1 → A2 → A3 → A4 → A5 → A6 → A7 → Prop) (hs : ∀ q1 : K1, q1 = k1 → ∀ q2 : K2, q2 = k2 → ∀ q3 : K3, q3 = k3 → ∀ ih : A1 → A2 → A3 → A4 → A5 → A6 → A7 → Option R, (∀ a1 a2 a3 a4 a5 a6 a7, ih a1 a2 a3 a4 a5 a6 a7 = some r → M a1 a2 a3 a4 a5 a6 a7) → ∀ a1 a2 a3 a4 a5 a6 a7, S q1 q2 q3 ih a1 a2 a3 a4 a5 a6 a7 = some r → M a1 a2 a3 a4 a5 a6 a7) : ∀ n a1 a2 a3 a4 a5 a6 a7, LQ7 (S k1 k2 k3) n a1 a2 a3 a4 a5 a6 a7 = some r → M a1 a2 a3 a4 a5 a6 a7 := by
  intro n
  induction n with
  | zero => intro a1 a2 a3 a4 a5 a6 a7 h; cases h
  | succ n ihn => intro a1 a2 a3 a4 a5 a6 a7 h; exact hs _ rfl _ rfl _ rfl _ ihn a1 a2 a3 a4 a5 a6 a7 h
noncomputable def LQ8 {A1 A2 A3 A4 A5 A6 A7 A8 R : Type} (st : (A1 → A2 → A3 → A4 → A5 → A6 → A7 → A8 → Option R) → A1 → A2 → A3 → A4 → A5 → A6 → A7 → A8 → Option R) : Nat → A1 → A2 → A3 → A4 → A5 → A6 → A7 → A8 → Option R
  | 0, _, _, _, _, _, _, _, _ => none
  | n + 1, a1, a2, a3, a4, a5, a6, a7, a8 => st (LQ8 st n) a1 a2 a3 a4 a5 a6 a7 a8
theorem LQ8_k0 {A1 A2 A3 A4 A5 A6 A7 A8 R : Type} {S : (A1 → A2 → A3 → A4 → A5 → A6 → A7 → A8 → Option R) → A1 → A2 → A3 → A4 → A5 → A6 → A7 → A8 → Option R} {r : R} (M : A1 → A2 → A3 → A4 → A5 → A6 → A7 → A8 → Prop) (hs : ∀ ih : A1 → A2 → A3 → A4 → A5 → A6 → A7 → A8 → Option R, (∀ a1 a2 a3 a4 a5 a6 a7 a8, ih a1 a2 a3 a4 a5 a6 a7 a8 = some r → M a1 a2 a3 a4 a5 a6 a7 a8) → ∀ a1 a2 a3 a4 a5 a6 a7 a8, S ih a1 a2 a3 a4 a5 a6 a7 a8 = some r → M a1 a2 a3 a4 a5 a6 a7 a8) : ∀ n a1 a2 a3 a4 a5 a6 a7 a8, LQ8 S n a1 a2 a3 a4 a5 a6 a7 a8 = some r → M a1 a2 a3 a4 a5 a6 a7 a8 := by
  intro n
  induction n with
  | zero => intro a1 a2 a3 a4 a5 a6 a7 a8 h; cases h
  | succ n ihn => intro a1 a2 a3 a4 a5 a6 a7 a8 h; exact hs _ ihn a1 a2 a3 a4 a5 a6 a7 a8 h
theorem LQ8_k1 {A1 A2 A3 A4 A5 A6 A7 A8 R : Type} {K1 : Type} {S : K1 → (A1 → A2 → A3 → A4 → A5 → A6 → A7 → A8 → Option R) → A1 → A2 → A3 → A4 → A5 → A6 → A7 → A8 → Option R} {k1 : K1} {r : R} (M : A1 → A2 → A3 → A4 → A5 → A6 → A7 → A8 → Prop) (hs : ∀ q1 : K1, q1 = k1 → ∀ ih : A1 → A2 → A3 → A4 → A5 → A6 → A7 → A8 → Option R, (∀ a1 a2 a3 a4 a5 a6 a7 a8, ih a1 a2 a3 a4 a5 a6 a7 a8 = some r → M a1 a2 a3 a4 a5 a6 a7 a8) → ∀ a1 a2 a3 a4 a5 a6 a7 a8, S q1 ih a1 a2 a3 a4 a5 a6 a7 a8 = some r → M a1 a2 a3 a4 a5 a6 a7 a8) : ∀ n a1 a2 a3 a4 a5 a6 a7 a8, LQ8 (S k1) n a1 a2 a3 a4 a5 a6 a7 a8 = some r → M a1 a2 a3 a4 a5 a6 a7 a8 := by
  intro n
  induction n with
  | zero => intro a1 a2 a3 a4 a5 a6 a7 a8 h; cases h
  | succ n ihn => intro a1 a2 a3 a4 a5 a6 a7 a8 h; exact hs _ rfl _ ihn a1 a2 a3 a4 a5 a6 a7 a8 h
theorem LQ8_k2 {A1 A2 A3 A4 A5 A6 A7 A8 R : Type} {K1 K2 : Type} {S : K1 → K2 → (A1 → A2 → A3 → A4 → A5 → A6 → A7 → A8 → Option R) → A1 → A2 → A3 → A4 → A5 → A6 → A7 → A8 → Option R} {k1 : K1} {k2 : K2} {r : R} (M : A1 → A2 → A3 → A4 → A5 → A6 → A7 → A8 → Prop) (hs : ∀ q1 : K1, q1 = k1 → ∀ q2 : K2, q2 = k2 → ∀ ih : A1 → A2 → A3 → A4 → A5 → A6 → A7 → A8 → Option R, (∀ a1 a2 a3 a4 a5 a6 a7 a8, ih a1 a2 a3 a4 a5 a6 a7 a8 = some r → M a1 a2 a3 a4 a5 a6 a7 a8) → ∀ a1 a2 a3 a4 a5 a6 a7 a8, S q1 q2 ih a1 a2 a3 a4 a5 a6 a7 a8 = some r → M a1 a2 a3 a4 a5 a6 a7 a8) : ∀ n a1 a2 a3 a4 a5 a6 a7 a8, LQ8 (S k1 k2) n a1 a2 a3 a4 a5 a6 a7 a8 = some r → M a1 a2 a3 a4 a5 a6 a7 a8 := by
  intro n
  induction n with
  | zero => intro a1 a2 a3 a4 a5 a6 a7 a8 h; cases h
  | succ n ihn => intro a1 a2 a3 a4 a5 a6 a7 a8 h; exact hs _ rfl _ rfl _ ihn a1 a2 a3 a4 a5 a6 a7 a8 h
theorem LQ8_k3 {A1 A2 A3 A4 A5 A6 A7 A8 R : Type} {K1 K2 K3 : Type} {S : K1 → K2 → K3 → (A1 → A2 → A3 → A4 → A5 → A6 → A7 → A8 → Option R) → A1 → A2 → A3 → A4 → A5 → A6 → A7 → A8 → Option R} {k1 : K1} {k2 : K2} {k3 : K3} {r : R} (M : A1 → A2 → A3 → A4 → A5 → A6 → A7 → A8 → Prop) (hs : ∀ q1 : K1, q1 = k1 → ∀ q2 : K2, q2 = k2 → ∀ q3 : K3, q3 = k3 → ∀ ih : A1 → A2 → A3 → A4 → A5 → A6 → A7 → A8 → Option R, (∀ a1 a2 a3 a4 a5 a6 a7 a8, ih a1 a2 a3 a4 a5 a6 a7 a8 = some r → M a1 a2 a3 a4 a5 a6 a7 a8) → ∀ a1 a2 a3 a4 a5 a6 a7 a8, S q1 q2 q3 ih a1 a2 a3 a4 a5 a6 a7 a8 = some r → M a1 a2 a3 a4 a5 a6 a7 a8) : ∀ n a1 a2 a3 a4 a5 a6 a7 a8, LQ8 (S k1 k2 k3) n a1 a2 a3 a4 a5 a6 a7 a8 = some r → M a1 a2 a3 a4 a5 a6 a7 a8 := by
  intro n
  induction n with
  | zero => intro a1 a2 a3 a4 a5 a6 a7 a8 h; cases h
  | succ n ihn => intro a1 a2 a3 a4 a5 a6 a7 a8 h; exact hs _ rfl _ rfl _ rfl _ ihn a1 a2 a3 a4 a5 a6 a7 a8 h
noncomputable def LQ9 {A1 A2 A3 A4 A5 A6 A7 A8 A9 R : Type} (st : (A1 → A2 → A3 → A4 → A5 → A6 → A7 → A8 → A9 → Option R) → A1 → A2 → A3 → A4 → A5 → A6 → A7 → A8 → A9 → Option R) : Nat → A1 → A2 → A3 → A4 → A5 → A6 → A7 → A8 → A9 → Option R
  | 0, _, _, _, _, _, _, _, _, _ => none
  | n + 1, a1, a2, a3, a4, a5, a6, a7, a8, a9 => st (LQ9 st n) a1 a2 a3 a4 a5 a6 a7 a8 a9
theorem LQ9_k0 {A1 A2 A3 A4 A5 A6 A7 A8 A9 R : Type} {S : (A1 → A2 → A3 → A4 → A5 → A6 → A7 → A8 → A9 → Option R) → A1 → A2 → A3 → A4 → A5 → A6 → A7 → A8 → A9 → Option R} {r : R} (M : A1 → A2 → A3 → A4 → A5 → A6 → A7 → A8 → A9 → Prop) (hs : ∀ ih : A1 → A2 → A3 → A4 → A5 → A6 → A7 → A8 → A9 → Option R, (∀ a1 a2 a3 a4 a5 a6 a7 a8 a9, ih a1 a2 a3 a4 a5 a6 a7 a8 a9 = some r → M a1 a2 a3 a4 a5 a6 a7 a8 a9) → ∀ a1 a2 a3 a4 a5 a6 a7 a8 a9, S ih a1 a2 a3 a4 a5 a6 a7 a8 a9 = some r → M a1 a2 a3 a4 a5 a6 a7 a8 a9) : ∀ n a1 a2 a3 a4 a5 a6 a7 a8 a9, LQ9 S n a1 a2 a3 a4 a5 a6 a7 a8 a9 = some r → M a1 a2 a3 a4 a5 a6 a7 a8 a9 := by
  intro n
  induction n with
  | zero => intro a1 a2 a3 a4 a5 a6 a7 a8 a9 h; cases h
  | succ n ihn => intro a1 a2 a3 a4 a5 a6 a7 a8 a9 h; exact hs _ ihn a1 a2 a3 a4 a5 a6 a7 a8 a9 h
theorem LQ9_k1 {A1 A2 A3 A4 A5 A6 A7 A8 A9 R : Type} {K1 : Type} {S : K1 → (A1 → A2 → A3 → A4 → A5 → A6 → A7 → A8 → A9 → Option R) → A1 → A2 → A3 → A4 → A5 → A6 → A7 → A8 → A9 → Option R} {k1 : K1} {r : R} (M : A1 → A2 → A3 → A4 → A5 → A6 → A7 → A8 → A9 → Prop) (hs : ∀ q1 : K1, q1 = k1 → ∀ ih : A1 → A2 → A3 → A4 → A5 → A6 → A7 → A8 → A9 → Option R, (∀ a1 a2 a3 a4 a5 a6 a7 a8 a9, ih a1 a2 a3 a4 a5 a6 a7 a8 a9 = some r → M a1 a2 a3 a4 a5 a6 a7 a8 a9) → ∀ a1 a2 a3 a4 a5 a6 a7 a8 a9, S q1 ih a1 a2 a3 a4 a5 a6 a7 a8 a9 = some r → M a1 a2 a3 a4 a5 a6 a7 a8 a9) : ∀ n a1 a2 a3 a4 a5 a6 a7 a8 a9, LQ9 (S k1) n a1 a2 a3 a4 a5 a6 a7 a8 a9 = some r → M a1 a2 a3 a4 a5 a6 a7 a8 a9 := by
  intro n
  induction n with
  | zero => intro a1 a2 a3 a4 a5 a6 a7 a8 a9 h; cases h
  | succ n ihn => intro a1 a2 a3 a4 a5 a6 a7 a8 a9 h; exact hs _ rfl _ ihn a1 a2 a3 a4 a5 a6 a7 a8 a9 h
theorem LQ9_k2 {A1 A2 A3 A4 A5 A6 A7 A8 A9 R : Type} {K1 K2 : Type} {S : K1 → K2 → (A1 → A2 → A3 → A4 → A5 → A6 → A7 → A8 → A9 → Option R) → A1 → A2 → A3 → A4 → A5 → A6 → A7 → A8 → A9 → Option R} {k1 : K1} {k2 : K2} {r : R} (M : A1 → A2 → A3 → A4 → A5 → A6 → A7 → A8 → A9 → Prop) (hs : ∀ q1 : K1, q1 = k1 → ∀ q2 : K2, q2 = k2 → ∀ ih : A1 → A2 → A3 → A4 → A5 → A6 → A7 → A8 → A9 → Option R, (∀ a1 a2 a3 a4 a5 a6 a7 a8 a9, ih a1 a2 a3 a4 a5 a6 a7 a8 a9 = some r → M a1 a2 a3 a4 a5 a6 a7 a8 a9) → ∀ a1 a2 a3 a4 a5 a6 a7 a8 a9, S q1 q2 ih a1 a2 a3 a4 a5 a6 a7 a8 a9 = some r → M a1 a2 a3 a4 a5 a6 a7 a8 a9) : ∀ n a1 a2 a3 a4 a5 a6 a7 a8 a9, LQ9 (S k1 k2) n a1 a2 a3 a4 a5 a6 a7 a8 a9 = some r → M a1 a2 a3 a4 a5 a6 a7 a8 a9 := by
  intro n
  induction n with
  | zero => intro a1 a2 a3 a4 a5 a6 a7 a8 a9 h; cases h
  | succ n ihn => intro a1 a2 a3 a4 a5 a6 a7 a8 a9 h; exact hs _ rfl _ rfl _ ihn a1 a2 a3 a4 a5 a6 a7 a8 a9 h
theorem LQ9_k3 {A1 A2 A3 A4 A5 A6 A7 A8 A9 R : Type} {K1 K2 K3 : Type} {S : K1 → K2 → K3 → (A1 → A2 → A3 → A4 → A5 → A6 → A7 → A8 → A9 → Option R) → A1 → A2 → A3 → A4 → A5 → A6 → A7 → A8 → A9 → Option R} {k1 : K1} {k2 : K2} {k3 : K3} {r : R} (M : A1 → A2 → A3 → A4 → A5 → A6 → A7 → A8 → A9 → Prop) (hs : ∀ q1 : K1, q1 = k1 → ∀ q2 : K2, q2 = k2 → ∀ q3 : K3, q3 = k3 → ∀ ih : A1 → A2 → A3 → A4 → A5 → A6 → A7 → A8 → A9 → Option R, (∀ a1 a2 a3 a4 a5 a6 a7 a8 a9, ih a1 a2 a3 a4 a5 a6 a7 a8 a9 = some r → M a1 a2 a3 a4 a5 a6 a7 a8 a9) → ∀ a1 a2 a3 a4 a5 a6 a7 a8 a9, S q1 q2 q3 ih a1 a2 a3 a4 a5 a6 a7 a8 a9 = some r → M a1 a2 a3 a4 a5 a6 a7 a8 a9) : ∀ n a1 a2 a3 a4 a5 a6 a7 a8 a9, LQ9 (S k1 k2 k3) n a1 a2 a3 a4 a5 a6 a7 a8 a9 = some r → M a1 a2 a3 a4 a5 a6 a7 a8 a9 := by
  intro n
  induction n with
  | zero => intro a1 a2 a3 a4 a5 a6 a7 a8 a9 h; cases h
  | succ n ihn => intro a1 a2 a3 a4 a5 a6 a7 a8 a9 h; exact hs _ rfl _ rfl _ rfl _ ihn a1 a2 a3 a4 a5 a6 a7 a8 a9 h
noncomputable def LQ10 {A1 A2 A3 A4 A5 A6 A7 A8 A9 A10 R : Type} (st : (A1 → A2 → A3 → A4 → A5 → A6 → A7 → A8 → A9 → A10 → Option R) → A1 → A2 → A3 → A4 → A5 → A6 → A7 → A8 → A9 → A10 → Option R) : Nat → A1 → A2 → A3 → A4 → A5 → A6 → A7 → A8 → A9 → A10 → Option R
  | 0, _, _, _, _, _, _, _, _, _, _ => none
  | n + 1, a1, a2, a3, a4, a5, a6, a7, a8, a9, a10 => st (LQ10 st n) a1 a2 a3 a4 a5 a6 a7 a8 a9 a10
theorem LQ10_k0 {A1 A2 A3 A4 A5 A6 A7 A8 A9 A10 R : Type} {S : (A1 → A2 → A3 → A4 → A5 → A6 → A7 → A8 → A9 → A10 → Option R) → A1 → A2 → A3 → A4 → A5 → A6 → A7 → A8 → A9 → A10 → Option R} {r : R} (M : A1 → A2 → A3 → A4 → A5 → A6 → A7 → A8 → A9 → A10 → Prop) (hs : ∀ ih : A1 → A2 → A3 → A4 → A5 → A6 → A7 → A8 → A9 → A10 → Option R, (∀ a1 a2 a3 a4 a5 a6 a7 a8 a9 a10, ih a1 a2 a3 a4 a5 a6 a7 a8 a9 a10 = some r → M a1 a2 a3 a4 a5 a6 a7 a8 a9 a10) → ∀ a1 a2 a3 a4 a5 a6 a7 a8 a9 a10, S ih a1 a2 a3 a4 a5 a6 a7 a8 a9 a10 = some r → M a1 a2 a3 a4 a5 a6 a7 a8 a9 a10) : ∀ n a1 a2 a3 a4 a5 a6 a7 a8 a9 a10, LQ10 S n a1 a2 a3 a4 a5 a6 a7 a8 a9 a10 = some r → M a1 a2 a3 a4 a5 a6 a7 a8 a9 a10 := by
  intro n
  induction n with
  | zero => intro a1 a2 a3 a4 a5 a6 a7 a8 a9 a10 h; cases h
  | succ n ihn => intro a1 a2 a3 a4 a5 a6 a7 a8 a9 a10 h; exact hs _ ihn a1 a2 a3 a4 a5 a6 a7 a8 a9 a10 h
theorem LQ10_k1 {A1 A2 A3 A4 A5 A6 A7 A8 A9 A10 R : Type} {K1 : Type} {S : K1 → (A1 → A2 → A3 → A4 → A5 → A6 → A7 → A8 → A9 → A10 → Option R) → A1 → A2 → A3 → A4 → A5 → A6 → A7 → A8 → A9 → A10 → Option R} {k1 : K1} {r : R} (M : A1 → A2 → A3 → A4 → A5 → A6 → A7 → A8 → A9 → A10 → Prop) (hs : ∀ q1 : K1, q1 = k1 → ∀ ih : A1 → A2 → A3 → A4 → A5 → A6 → A7 → A8 → A9 → A10 → Option R, (∀ a1 a2 a3 a4 a5 a6 a7 a8 a9 a10, ih a1 a2 a3 a4 a5 a6 a7 a8 a9 a10 = some r → M a1 a2 a3 a4 a5 a6 a7 a8 a9 a10) → ∀ a1 a2 a3 a4 a5 a6 a7 a8 a9 a10, S q1 ih a1 a2 a3 a4 a5 a6 a7 a8 a9 a10 = some r → M a1 a2 a3 a4 a5 a6 a7 a8 a9 a10) : ∀ n a1 a2 a3 a4 a5 a6 a7 a8 a9 a10, LQ10 (S k1) n a1 a2 a3 a4 a5 a6 a7 a8 a9 a10 = some r → M a1 a2 a3 a4 a5 a6 a7 a8 a9 a10 := by
  intro n
  induction n with
  | zero => intro a1 a2 a3 a4 a5 a6 a7 a8 a9 a10 h; cases h
  | succ n ihn => intro a1 a2 a3 a4 a5 a6 a7 a8 a9 a10 h; exact hs _ rfl _ ihn a1 a2 a3 a4 a5 a6 a7 a8 a9 a10 h
theorem LQ10_k2 {A1 A2 A3 A4 A5 A6 A7 A8 A9 A10 R : Type} {K1 K2 : Type} {S : K1 → K2 → (A1 → A2 → A3 → A4 → A5 → A6 → A7 → A8 → A9 → A10 → Option R) → A1 → A2 → A3 → A4 → A5 → A6 → A7 → A8 → A9 → A10 → Option R} {k1 : K1} {k2 : K2} {r : R} (M : A1 → A2 → A3 → A4 → A5 → A6 → A7 → A8 → A9 → A10 → Prop) (hs : ∀ q1 : K1, q1 = k1 → ∀ q2 : K2, q2 = k2 → ∀ ih : A1 → A2 → A3 → A4 → A5 → A6 → A7 → A8 → A9 → A10 → Option R, (∀ a1 a2 a3 a4 a5 a6 a7 a8 a9 a10, ih a1 a2 a3 a4 a5 a6 a7 a8 a9 a10 = some r → M a1 a2 a3 a4 a5 a6 a7 a8 a9 a10) → ∀ a1 a2 a3 a4 a5 a6 a7 a8 a9 a10, S q1 q2 ih a1 a2 a3 a4 a5 a6 a7 a8 a9 a10 = some r → M a1 a2 a3 a4 a5 a6 a7 a8 a9 a10) : ∀ n a1 a2 a3 a4 a5 a6 a7 a8 a9 a10, LQ10 (S k1 k2) n a1 a2 a3 a4 a5 a6 a7 a8 a9 a10 = some r → M a1 a2 a3 a4 a5 a6 a7 a8 a9 a10 := by
  intro n
  induction n with
  | zero => intro a1 a2 a3 a4 a5 a6 a7 a8 a9 a10 h; cases h
  | succ n ihn => intro a1 a2 a3 a4 a5 a6 a7 a8 a9 a10 h; exact hs _ rfl _ rfl _ ihn a1 a2 a3 a4 a5 a6 a7 a8 a9 a10 h
theorem LQ10_k3 {A1 A2 A3 A4 A5 A6 A7 A8 A9 A10 R : Type} {K1 K2 K3 : Type} {S : K1 → K2 → K3 → (A1 → A2 → A3 → A4 → A5 → A6 → A7 → A8 → A9 → A10 → Option R) → A1 → A2 → A3 → A4 → A5 → A6 → A7 → A8 → A9 → A10 → Option R} {k1 : K1} {k2 : K2} {k3 : K3} {r : R} (M : A1 → A2 → A3 → A4 → A5 → A6 → A7 → A8 → A9 → A10 → Prop) (hs : ∀ q1 : K1, q1 = k1 → ∀ q2 : K2, q2 = k2 → ∀ q3 : K3, q3 = k3 → ∀ ih : A1 → A2 → A3 → A4 → A5 → A6 → A7 → A8 → A9 → A10 → Option R, (∀ a1 a2 a3 a4 a5 a6 a7 a8 a9 a10, ih a1 a2 a3 a4 a5 a6 a7 a8 a9 a10 = some r → M a1 a2 a3 a4 a5 a6 a7 a8 a9 a10) → ∀ a1 a2 a3 a4 a5 a6 a7 a8 a9 a10, S q1 q2 q3 ih a1 a2 a3 a4 a5 a6 a7 a8 a9 a10 = some r → M a1 a2 a3 a4 a5 a6 a7 a8 a9 a10) : ∀ n a1 a2 a3 a4 a5 a6 a7 a8 a9 a10, LQ10 (S k1 k2 k3) n a1 a2 a3 a4 a5 a6 a7 a8 a9 a10 = some r → M a1 a2 a3 a4 a5 a6 a7 a8 a9 a10 := by
  intro n
  induction n with
  | zero => intro a1 a2 a3 a4 a5 a6 a7 a8 a9 a10 h; cases h
  | succ n ihn => intro a1 a2 a3 a4 a5 a6 a7 a8 a9 a10 h; exact hs _ rfl _ rfl _ rfl _ ihn a1 a2 a3 a4 a5 a6 a7 a8 a9 a10 h
noncomputable def LQ11 {A1 A2 A3 A4 A5 A6 A7 A8 A9 A10 A11 R : Type} (st : (A1 → A2 → A3 → A4 → A5 → A6 → A7 → A8 → A9 → A10 → A11 → Option R) → A1 → A2 → A3 → A4 → A5 → A6 → A7 → A8 → A9 → A10 → A11 → Option R) : Nat → A1 → A2 → A3 → A4 → A5 → A6 → A7 → A8 → A9 → A10 → A11 → Option R
  | 0, _, _, _, _, _, _, _, _, _, _, _ => none
  | n + 1, a1, a2, a3, a4, a5, a6, a7, a8, a9, a10, a11 => st (LQ11 st n) a1 a2 a3 a4 a5 a6 a7 a8 a9 a10 a11
theorem LQ11_k0 {A1 A2 A3 A4 A5 A6 A7 A8 A9 A10 A11 R : Type} {S : (A1 → A2 → A3 → A4 → A5 → A6 → A7 → A8 → A9 → A10 → A11 → Option R) → A1 → A2 → A3 → A4 → A5 → A6 → A7 → A8 → A9 → A10 → A11 → Option R} {r : R} (M : A1 → A2 → A3 → A4 → A5 → A6 → A7 → A8 → A9 → A10 → A11 → Prop) (hs : ∀ ih : A1 → A2 → A3 → A4 → A5 → A6 → A7 → A8 → A9 → A10 → A11 → Option R, (∀ a1 a2 a3 a4 a5 a6 a7 a8 a9 a10 a11, ih a1 a2 a3 a4 a5 a6 a7 a8 a9 a10 a11 = some r → M a1 a2 a3 a4 a5 a6 a7 a8 a9 a10 a11) → ∀ a1 a2 a3 a4 a5 a6 a7 a8 a9 a10 a11, S ih a1 a2 a3 a4 a5 a6 a7 a8 a9 a10 a11 = some r → M a1 a2 a3 a4 a5 a6 a7 a8 a9 a10 a11) : ∀ n a1 a2 a3 a4 a5 a6 a7 a8 a9 a10 a11, LQ11 S n a1 a2 a3 a4 a5 a6 a7 a8 a9 a10 a11 = some r → M a1 a2 a3 a4 a5 a6 a7 a8 a9 a10 a11 := by
  intro n
  induction n with
  | zero => intro a1 a2 a3 a4 a5 a6 a7 a8 a9 a10 a11 h; cases h
  | succ n ihn => intro a1 a2 a3 a4 a5 a6 a7 a8 a9 a10 a11 h; exact hs _ ihn a1 a2 a3 a4 a5 a6 a7 a8 a9 a10 a11 h
theorem LQ11_k1 {A1 A2 A3 A4 A5 A6 A7 A8 A9 A10 A11 R : Type} {K1 : Type} {S : K1 → (A1 → A2 → A3 → A4 → A5 → A6 → A7 → A8 → A9 → A10 → A11 → Option R) → A1 → A2 → A3 → A4 → A5 → A6 → A7 → A8 → A9 → A10 → A11 → Option R} {k1 : K1} {r : R} (M : A1 → A2 → A3 → A4 → A5 → A6 → A7 → A8 → A9 → A10 → A11 → Prop) (hs : ∀ q1 : K1, q1 = k1 → ∀ ih : A1 → A2 → A3 → A4 → A5 → A6 → A7 → A8 → A9 → A10 → A11 → Option R, (∀ a1 a2 a3 a4 a5 a6 a7 a8 a9 a10 a11, ih a1 a2 a3 a4 a5 a6 a7 a8 a9 a10 a11 = some r → M a1 a2 a3 a4 a5 a6 a7 a8 a9 a10 a11) → ∀ a1 a2 a3 a4 a5 a6 a7 a8 a9 a10 a11, S q1 ih a1 a2 a3 a4 a5 a6 a7 a8 a9 a10 a11 = some r → M a1 a2 a3 a4 a5 a6 a7 a8 a9 a10 a11) : ∀ n a1 a2 a3 a4 a5 a6 a7 a8 a9 a10 a11, LQ11 (S k1) n a1 a2 a3 a4 a5 a6 a7 a8 a9 a10 a11 = some r → M a1 a2 a3 a4 a5 a6 a7 a8 a9 a10 a11 := by
  intro n
  induction n with
  | zero => intro a1 a2 a3 a4 a5 a6 a7 a8 a9 a10 a11 h; cases h
  | succ n ihn => intro a1 a2 a3 a4 a5 a6 a7 a8 a9 a10 a11 h; exact hs _ rfl _ ihn a1 a2 a3 a4 a5 a6 a7 a8 a9 a10 a11 h
theorem LQ11_k2 {A1 A2 A3 A4 A5 A6 A7 A8 A9 A10 A11 R : Type} {K1 K2 : Type} {S : K1 → K2 → (A1 → A2 → A3 → A4 → A5 → A6 → A7 → A8 → A9 → A10 → A11 → Option R) → A1 → A2 → A3 → A4 → A5 → A6 → A7 → A8 → A9 → A10 → A11 → Option R} {k1 : K1} {k2 : K2} {r : R} (M : A1 → A2 → A3 → A4 → A5 → A6 → A7 → A8 → A9 → A10 → A11 → Prop) (hs : ∀ q1 : K1, q1 = k1 → ∀ q2 : K2, q2 = k2 → ∀ ih : A1 → A2 → A3 → A4 → A5 → A6 → A7 → A8 → A9 → A10 → A11 → Option R, (∀ a1 a2 a3 a4 a5 a6 a7 a8 a9 a10 a11, ih a1 a2 a3 a4 a5 a6 a7 a8 a9 a10 a11 = some r → M a1 a2 a3 a4 a5 a6 a7 a8 a9 a10 a11) → ∀ a1 a2 a3 a4 a5 a6 a7 a8 a9 a10 a11, S q1 q2 ih a1 a2 a3 a4 a5 a6 a7 a8 a9 a10 a11 = some r → M a1 a2 a3 a4 a5 a6 a7 a8 a9 a10 a11) : ∀ n a1 a2 a3 a4 a5 a6 a7 a8 a9 a10 a11, LQ11 (S k1 k2) n a1 a2 a3 a4 a5 a6 a7 a8 a9 a10 a11 = some r → M a1 a2 a3 a4 a5 a6 a7 a8 a9 a10 a11 := by
  intro n
  induction n with
  | zero => intro a1 a2 a3 a4 a5 a6 a7 a8 a9 a10 a11 h; cases h
  | succ n ihn => intro a1 a2 a3 a4 a5 a6 a7 a8 a9 a10 a11 h; exact hs _ rfl _ rfl _ ihn a1 a2 a3 a4 a5 a6 a7 a8 a9 a10 a11 h
theorem LQ11_k3 {A1 A2 A3 A4 A5 A6 A7 A8 A9 A10 A11 R : Type} {K1 K2 K3 : Type} {S : K1 → K2 → K3 → (A1 → A2 → A3 → A4 → A5 → A6 → A7 → A8 → A9 → A10 → A11 → Option R) → A1 → A2 → A3 → A4 → A5 → A6 → A7 → A8 → A9 → A10 → A11 → Option R} {k1 : K1} {k2 : K2} {k3 : K3} {r : R} (M : A1 → A2 → A3 → A4 → A5 → A6 → A7 → A8 → A9 → A10 → A11 → Prop) (hs : ∀ q1 : K1, q1 = k1 → ∀ q2 : K2, q2 = k2 → ∀ q3 : K3, q3 = k3 → ∀ ih : A1 → A2 → A3 → A4 → A5 → A6 → A7 → A8 → A9 → A10 → A11 → Option R, (∀ a1 a2 a3 a4 a5 a6 a7 a8 a9 a10 a11, ih a1 a2 a3 a4 a5 a6 a7 a8 a9 a10 a11 = some r → M a1 a2 a3 a4 a5 a6 a7 a8 a9 a10 a11) → ∀ a1 a2 a3 a4 a5 a6 a7 a8 a9 a10 a11, S q1 q2 q3 ih a1 a2 a3 a4 a5 a6 a7 a8 a9 a10 a11 = some r → M a1 a2 a3 a4 a5 a6 a7 a8 a9 a10 a11) : ∀ n a1 a2 a3 a4 a5 a6 a7 a8 a9 a10 a11, LQ11 (S k1 k2 k3) n a1 a2 a3 a4 a5 a6 a7 a8 a9 a10 a11 = some r → M a1 a2 a3 a4 a5 a6 a7 a8 a9 a10 a11 := by
  intro n
  induction n with
  | zero => intro a1 a2 a3 a4 a5 a6 a7 a8 a9 a10 a11 h; cases h
  | succ n ihn => intro a1 a2 a3 a4 a5 a6 a7 a8 a9 a10 a11 h; exact hs _ rfl _ rfl _ rfl _ ihn a1 a2 a3 a4 a5 a6 a7 a8 a9 a10 a11 h
noncomputable def LQ12 {A1 A2 A3 A4 A5 A6 A7 A8 A9 A10 A11 A12 R : Type} (st : (A1 → A2 → A3 → A4 → A5 → A6 → A7 → A8 → A9 → A10 → A11 → A12 → Option R) → A1 → A2 → A3 → A4 → A5 → A6 → A7 → A8 → A9 → A10 → A11 → A12 → Option R) : Nat → A1 → A2 → A3 → A4 → A5 → A6 → A7 → A8 → A9 → A10 → A11 → A12 → Option R
  | 0, _, _, _, _, _, _, _, _, _, _, _, _ => none
  | n + 1, a1, a2, a3, a4, a5, a6, a7, a8, a9, a10, a11, a12 => st (LQ12 st n) a1 a2 a3 a4 a5 a6 a7 a8 a9 a10 a11 a12
theorem LQ12_k0 {A1 A2 A3 A4 A5 A6 A7 A8 A9 A10 A11 A12 R : Type} {S : (A1 → A2 → A3 → A4 → A5 → A6 → A7 → A8 → A9 → A10 → A11 → A12 → Option R) → A1 → A2 → A3 → A4 → A5 → A6 → A7 → A8 → A9 → A10 → A11 → A12 → Option R} {r : R} (M : A1 → A2 → A3 → A4 → A5 → A6 → A7 → A8 → A9 → A10 → A11 → A12 → Prop) (hs : ∀ ih : A1 → A2 → A3 → A4 → A5 → A6 → A7 → A8 → A9 → A10 → A11 → A12 → Option R, (∀ a1 a2 a3 a4 a5 a6 a7 a8 a9 a10 a11 a12, ih a1 a2 a3 a4 a5 a6 a7 a8 a9 a10 a11 a12 = some r → M a1 a2 a3 a4 a5 a6 a7 a8 a9 a10 a11 a12) → ∀ a1 a2 a3 a4 a5 a6 a7 a8 a9 a10 a11 a12, S ih a1 a2 a3 a4 a5 a6 a7 a8 a9 a10 a11 a12 = some r → M a1 a2 a3 a4 a5 a6 a7 a8 a9 a10 a11 a12) : ∀ n a1 a2 a3 a4 a5 a6 a7 a8 a9 a10 a11 a12, LQ12 S n a1 a2 a3 a4 a5 a6 a7 a8 a9 a10 a11 a12 = some r → M a1 a2 a3 a4 a5 a6 a7 a8 a9 a10 a11 a12 := by
  intro n
  induction n with
  | zero => intro a1 a2 a3 a4 a5 a6 a7 a8 a9 a10 a11 a12 h; cases h
  | succ n ihn => intro a1 a2 a3 a4 a5 a6 a7 a8 a9 a10 a11 a12 h; exact hs _ ihn a1 a2 a3 a4 a5 a6 a7 a8 a9 a10 a11 a12 h
theorem LQ12_k1 {A1 A2 A3 A4 A5 A6 A7 A8 A9 A10 A11 A12 R : Type} {K1 : Type} {S : K1 → (A1 → A2 → A3 → A4 → A5 → A6 → A7 → A8 → A9 → A10 → A11 → A12 → Option R) → A1 → A2 → A3 → A4 → A5 → A6 → A7 → A8 → A9 → A10 → A11 → A12 → Option R} {k1 : K1} {r : R} (M : A1 → A2 → A3 → A4 → A5 → A6 → A7 → A8 → A9 → A10 → A11 → A12 → Prop) (hs : ∀ q1 : K1, q1 = k1 → ∀ ih : A1 → A2 → A3 → A4 → A5 → A6 → A7 → A8 → A9 → A10 → A11 → A12 → Option R, (∀ a1 a2 a3 a4 a5 a6 a7 a8 a9 a10 a11 a12, ih a1 a2 a3 a4 a5 a6 a7 a8 a9 a10 a11 a12 = some r → M a1 a2 a3 a4 a5 a6 a7 a8 a9 a10 a11 a12) → ∀ a1 a2 a3 a4 a5 a6 a7 a8 a9 a10 a11 a12, S q1 ih a1 a2 a3 a4 a5 a6 a7 a8 a9 a10 a11 a12 = some r → M a1 a2 a3 a4 a5 a6 a7 a8 a9 a10 a11 a12) : ∀ n a1 a2 a3 a4 a5 a6 a7 a8 a9 a10 a11 a12, LQ12 (S k1) n a1 a2 a3 a4 a5 a6 a7 a8 a9 a10 a11 a12 = some r → M a1 a2 a3 a4 a5 a6 a7 a8 a9 a10 a11 a12 := by
  intro n
  induction n with
  | zero => intro a1 a2 a3 a4 a5 a6 a7 a8 a9 a10 a11 a12 h; cases h
  | succ n ihn => intro a1 a2 a3 a4 a5 a6 a7 a8 a9 a10 a11 a12 h; exact hs _ rfl _ ihn a1 a2 a3 a4 a5 a6 a7 a8 a9 a10 a11 a12 h
theorem LQ12_k2 {A1 A2 A3 A4 A5 A6 A7 A8 A9 A10 A11 A12 R : Type} {K1 K2 : Type} {S : K1 → K2 → (A1 → A2 → A3 → A4 → A5 → A6 → A7 → A8 → A9 → A10 → A11 → A12 → Option R) → A1 → A2 → A3 → A4 → A5 → A6 → A7 → A8 → A9 → A10 → A11 → A12 → Option R} {k1 : K1} {k2 : K2} {r : R} (M : A1 → A2 → A3 → A4 → A5 → A6 → A7 → A8 → A9 → A10 → A11 → A12 → Prop) (hs : ∀ q1 : K1, q1 = k1 → ∀ q2 : K2, q2 = k2 → ∀ ih : A1 → A2 → A3 → A4 → A5 → A6 → A7 → A8 → A9 → A10 → A11 → A12 → Option R, (∀ a1 a2 a3 a4 a5 a6 a7 a8 a9 a10 a11 a12, ih a1 a2 a3 a4 a5 a6 a7 a8 a9 a10 a11 a12 = some r → M a1 a2 a3 a4 a5 a6 a7 a8 a9 a10 a11 a12) → ∀ a1 a2 a3 a4 a5 a6 a7 a8 a9 a10 a11 a12, S q1 q2 ih a1 a2 a3 a4 a5 a6 a7 a8 a9 a10 a11 a12 = some r → M a1 a2 a3 a4 a5 a6 a7 a8 a9 a10 a11 a12) : ∀ n a1 a2 a3 a4 a5 a6 a7 a8 a9 a10 a11 a12, LQ12 (S k1 k2) n a1 a2 a3 a4 a5 a6 a7 a8 a9 a10 a11 a12 = some r → M a1 a2 a3 a4 a5 a6 a7 a8 a9 a10 a11 a12 := by
  intro n
  induction n with
  | zero => intro a1 a2 a3 a4 a5 a6 a7 a8 a9 a10 a11 a12 h; cases h
  | succ n ihn => intro a1 a2 a3 a4 a5 a6 a7 a8 a9 a10 a11 a12 h; exact hs _ rfl _ rfl _ ihn a1 a2 a3 a4 a5 a6 a7 a8 a9 a10 a11 a12 h
theorem LQ12_k3 {A1 A2 A3 A4 A5 A6 A7 A8 A9 A10 A11 A12 R : Type} {K1 K2 K3 : Type} {S : K1 → K2 → K3 → (A1 → A2 → A3 → A4 → A5 → A6 → A7 → A8 → A9 → A10 → A11 → A12 → Option R) → A1 → A2 → A3 → A4 → A5 → A6 → A7 → A8 → A9 → A10 → A11 → A12 → Option R} {k1 : K1} {k2 : K2} {k3 : K3} {r : R} (M : A1 → A2 → A3 → A4 → A5 → A6 → A7 → A8 → A9 → A10 → A11 → A12 → Prop) (hs : ∀ q1 : K1, q1 = k1 → ∀ q2 : K2, q2 = k2 → ∀ q3 : K3, q3 = k3 → ∀ ih : A1 → A2 → A3 → A4 → A5 → A6 → A7 → A8 → A9 → A10 → A11 → A12 → Option R, (∀ a1 a2 a3 a4 a5 a6 a7 a8 a9 a10 a11 a12, ih a1 a2 a3 a4 a5 a6 a7 a8 a9 a10 a11 a12 = some r → M a1 a2 a3 a4 a5 a6 a7 a8 a9 a10 a11 a12) → ∀ a1 a2 a3 a4 a5 a6 a7 a8 a9 a10 a11 a12, S q1 q2 q3 ih a1 a2 a3 a4 a5 a6 a7 a8 a9 a10 a11 a12 = some r → M a1 a2 a3 a4 a5 a6 a7 a8 a9 a10 a11 a12) : ∀ n a1 a2 a3 a4 a5 a6 a7 a8 a9 a10 a11 a12, LQ12 (S k1 k2 k3) n a1 a2 a3 a4 a5 a6 a7 a8 a9 a10 a11 a12 = some r → M a1 a2 a3 a4 a5 a6 a7 a8 a9 a10 a11 a12 := by
  intro n
  induction n with
  | zero => intro a1 a2 a3 a4 a5 a6 a7 a8 a9 a10 a11 a12 h; cases h
  | succ n ihn => intro a1 a2 a3 a4 a5 a6 a7 a8 a9 a10 a11 a12 h; exact hs _ rfl _ rfl _ rfl _ ihn a1 a2 a3 a4 a5 a6 a7 a8 a9 a10 a11 a12 h
noncomputable def LQ13 {A1 A2 A3 A4 A5 A6 A7 A8 A9 A10 A11 A12 A13 R : Type} (st : (A1 → A2 → A3 → A4 → A5 → A6 → A7 → A8 → A9 → A10 → A11 → A12 → A13 → Option R) → A1 → A2 → A3 → A4 → A5 → A6 → A7 → A8 → A9 → A10 → A11 → A12 → A13 → Option R) : Nat → A1 → A2 → A3 → A4 → A5 → A6 → A7 → A8 → A9 → A10 → A11 → A12 → A13 → Option R
  | 0, _, _, _, _, _, _, _, _, _, _, _, _, _ => none
  | n + 1, a1, a2, a3, a4, a5, a6, a7, a8, a9, a10, a11, a12, a13 => st (LQ13 st n) a1 a2 a3 a4 a5 a6 a7 a8 a9 a10 a11 a12 a13
theorem LQ13_k0 {A1 A2 A3 A4 A5 A6 A7 A8 A9 A10 A11 A12 A13 R : Type} {S : (A1 → A2 → A3 → A4 → A5 → A6 → A7 → A8 → A9 → A10 → A11 → A12 → A13 → Option R) → A1 → A2 → A3 → A4 → A5 → A6 → A7 → A8 → A9 → A10 → A11 → A12 → A13 → Option R} {r : R} (M : A1 → A2 → A3 → A4 → A5 → A6 → A7 → A8 → A9 → A10 → A11 → A12 → A13 → Prop) (hs : ∀ ih : A1 → A2 → A3 → A4 → A5 → A6 → A7 → A8 → A9 → A10 → A11 → A12 → A13 → Option R, (∀ a1 a2 a3 a4 a5 a6 a7 a8 a9 a10 a11 a12 a13, ih a1 a2 a3 a4 a5 a6 a7 a8 a9 a10 a11 a12 a13 = some r → M a1 a2 a3 a4 a5 a6 a7 a8 a9 a10 a11 a12 a13) → ∀ a1 a2 a3 a4 a5 a6 a7 a8 a9 a10 a11 a12 a13, S ih a1 a2 a3 a4 a5 a6 a7 a8 a9 a10 a11 a12 a13 = some r → M a1 a2 a3 a4 a5 a6 a7 a8 a9 a10 a11 a12 a13) : ∀ n a1 a2 a3 a4 a5 a6 a7 a8 a9 a10 a11 a12 a13, LQ13 S n a1 a2 a3 a4 a5 a6 a7 a8 a9 a10 a11 a12 a13 = some r → M a1 a2 a3 a4 a5 a6 a7 a8 a9 a10 a11 a12 a13 := by
  intro n
  induction n with
  | zero => intro a1 a2 a3 a4 a5 a6 a7 a8 a9 a10 a11 a12 a13 h; cases h
  | succ n ihn => intro a1 a2 a3 a4 a5 a6 a7 a8 a9 a10 a11 a12 a13 h; exact hs _ ihn a1 a2 a3 a4 a5 a6 a7 a8 a9 a10 a11 a12 a13 h
theorem LQ13_k1 {A1 A2 A3 A4 A5 A6 A7 A8 A9 A10 A11 A12 A13 R : Type} {K1 : Type} {S : K1 → (A1 → A2 → A3 → A4 → A5 → A6 → A7 → A8 → A9 → A10 → A11 → A12 → A13 → Option R) → A1 → A2 → A3 → A4 → A5 → A6 → A7 → A8 → A9 → A10 → A11 → A12 → A13 → Option R} {k1 : K1} {r : R} (M : A1 → A2 → A3 → A4 → A5 → A6 → A7 → A8 → A9 → A10 → A11 → A12 → A13 → Prop) (hs : ∀ q1 : K1, q1 = k1 → ∀ ih : A1 → A2 → A3 → A4 → A5 → A6 → A7 → A8 → A9 → A10 → A11 → A12 → A13 → Option R, (∀ a1 a2 a3 a4 a5 a6 a7 a8 a9 a10 a11 a12 a13, ih a1 a2 a3 a4 a5 a6 a7 a8 a9 a10 a11 a12 a13 = some r → M a1 a2 a3 a4 a5 a6 a7 a8 a9 a10 a11 a12 a13) → ∀ a1 a2 a3 a4 a5 a6 a7 a8 a9 a10 a11 a12 a13, S q1 ih a1 a2 a3 a4 a5 a6 a7 a8 a9 a10 a11 a12 a13 = some r → M a1 a2 a3 a4 a5 a6 a7 a8 a9 a10 a11 a12 a13) : ∀ n a1 a2 a3 a4 a5 a6 a7 a8 a9 a10 a11 a12 a13, LQ13 (S k1) n a1 a2 a3 a4 a5 a6 a7 a8 a9 a10 a11 a12 a13 = some r → M a1 a2 a3 a4 a5 a6 a7 a8 a9 a10 a11 a12 a13 := by
  intro n
  induction n with
  | zero => intro a1 a2 a3 a4 a5 a6 a7 a8 a9 a10 a11 a12 a13 h; cases h
  | succ n ihn => intro a1 a2 a3 a4 a5 a6 a7 a8 a9 a10 a11 a12 a13 h; exact hs _ rfl _ ihn a1 a2 a3 a4 a5 a6 a7 a8 a9 a10 a11 a12 a13 h
theorem LQ13_k2 {A1 A2 A3 A4 A5 A6 A7 A8 A9 A10 A11 A12 A13 R : Type} {K1 K2 : Type} {S : K1 → K2 → (A1 → A2 → A3 → A4 → A5 → A6 → A7 → A8 → A9 → A10 → A11 → A12 → A13 → Option R) → A1 → A2 → A3 → A4 → A5 → A6 → A7 → A8 → A9 → A10 → A11 → A12 → A13 → Option R} {k1 : K1} {k2 : K2} {r : R} (M : A1 → A2 → A3 → A4 → A5 → A6 → A7 → A8 → A9 → A10 → A11 → A12 → A13 → Prop) (hs : ∀ q1 : K1, q1 = k1 → ∀ q2 : K2, q2 = k2 → ∀ ih : A1 → A2 → A3 → A4 → A5 → A6 → A7 → A8 → A9 → A10 → A11 → A12 → A13 → Option R, (∀ a1 a2 a3 a4 a5 a6 a7 a8 a9 a10 a11 a12 a13, ih a1 a2 a3 a4 a5 a6 a7 a8 a9 a10 a11 a12 a13 = some r → M a1 a2 a3 a4 a5 a6 a7 a8 a9 a10 a11 a12 a13) → ∀ a1 a2 a3 a4 a5 a6 a7 a8 a9 a10 a11 a12 a13, S q1 q2 ih a1 a2 a3 a4 a5 a6 a7 a8 a9 a10 a11 a12 a13 = some r → M a1 a2 a3 a4 a5 a6 a7 a8 a9 a10 a11 a12 a13) : ∀ n a1 a2 a3 a4 a5 a6 a7 a8 a9 a10 a11 a12 a13, LQ13 (S k1 k2) n a1 a2 a3 a4 a5 a6 a7 a8 a9 a10 a11 a12 a13 = some r → M a1 a2 a3 a4 a5 a6 a7 a8 a9 a10 a11 a12 a13 := by
  intro n
  induction n with
  | zero => intro a1 a2 a3 a4 a5 a6 a7 a8 a9 a10 a11 a12 a13 h; cases h
  | succ n ihn => intro a1 a2 a3 a4 a5 a6 a7 a8 a9 a10 a11 a12 a13 h; exact hs _ rfl _ rfl _ ihn a1 a2 a3 a4 a5 a6 a7 a8 a9 a10 a11 a12 a13 h
theorem LQ13_k3 {A1 A2 A3 A4 A5 A6 A7 A8 A9 A10 A11 A12 A13 R : Type} {K1 K2 K3 : Type} {S : K1 → K2 → K3 → (A1 → A2 → A3 → A4 → A5 → A6 → A7 → A8 → A9 → A10 → A11 → A12 → A13 → Option R) → A1 → A2 → A3 → A4 → A5 → A6 → A7 → A8 → A9 → A10 → A11 → A12 → A13 → Option R} {k1 : K1} {k2 : K2} {k3 : K3} {r : R} (M : A1 → A2 → A3 → A4 → A5 → A6 → A7 → A8 → A9 → A10 → A11 → A12 → A13 → Prop) (hs : ∀ q1 : K1, q1 = k1 → ∀ q2 : K2, q2 = k2 → ∀ q3 : K3, q3 = k3 → ∀ ih : A1 → A2 → A3 → A4 → A5 → A6 → A7 → A8 → A9 → A10 → A11 → A12 → A13 → Option R, (∀ a1 a2 a3 a4 a5 a6 a7 a8 a9 a10 a11 a12 a13, ih a1 a2 a3 a4 a5 a6 a7 a8 a9 a10 a11 a12 a13 = some r → M a1 a2 a3 a4 a5 a6 a7 a8 a9 a10 a11 a12 a13) → ∀ a1 a2 a3 a4 a5 a6 a7 a8 a9 a10 a11 a12 a13, S q1 q2 q3 ih a1 a2 a3 a4 a5 a6 a7 a8 a9 a10 a11 a12 a13 = some r → M a1 a2 a3 a4 a5 a6 a7 a8 a9 a10 a11 a12 a13) : ∀ n a1 a2 a3 a4 a5 a6 a7 a8 a9 a10 a11 a12 a13, LQ13 (S k1 k2 k3) n a1 a2 a3 a4 a5 a6 a7 a8 a9 a10 a11 a12 a13 = some r → M a1 a2 a3 a4 a5 a6 a7 a8 a9 a10 a11 a12 a13 := by
  intro n
  induction n with
  | zero => intro a1 a2 a3 a4 a5 a6 a7 a8 a9 a10 a11 a12 a13 h; cases h
  | succ n ihn => intro a1 a2 a3 a4 a5 a6 a7 a8 a9 a10 a11 a12 a13 h; exact hs _ rfl _ rfl _ rfl _ ihn a1 a2 a3 a4 a5 a6 a7 a8 a9 a10 a11 a12 a13 h
noncomputable def LQ14 {A1 A2 A3 A4 A5 A6 A7 A8 A9 A10 A11 A12 A13 A14 R : Type} (st : (A1 → A2 → A3 → A4 → A5 → A6 → A7 → A8 → A9 → A10 → A11 → A12 → A13 → A14 → Option R) → A1 → A2 → A3 → A4 → A5 → A6 → A7 → A8 → A9 → A10 → A11 → A12 → A13 → A14 → Option R) : Nat → A1 → A2 → A3 → A4 → A5 → A6 → A7 → A8 → A9 → A10 → A11 → A12 → A13 → A14 → Option R
  | 0, _, _, _, _, _, _, _, _, _, _, _, _, _, _ => none
  | n + 1, a1, a2, a3, a4, a5, a6, a7, a8, a9, a10, a11, a12, a13, a14 => st (LQ14 st n) a1 a2 a3 a4 a5 a6 a7 a8 a9 a10 a11 a12 a13 a14
theorem LQ14_k0 {A1 A2 A3 A4 A5 A6 A7 A8 A9 A10 A11 A12 A13 A14 R : Type} {S : (A1 → A2 → A3 → A4 → A5 → A6 → A7 → A8 → A9 → A10 → A11 → A12 → A13 → A14 → Option R) → A1 → A2 → A3 → A4 → A5 → A6 → A7 → A8 → A9 → A10 → A11 → A12 → A13 → A14 → Option R} {r : R} (M : A1 → A2 → A3 → A4 → A5 → A6 → A7 → A8 → A9 → A10 → A11 → A12 → A13 → A14 → Prop) (hs : ∀ ih : A1 → A2 → A3 → A4 → A5 → A6 → A7 → A8 → A9 → A10 → A11 → A12 → A13 → A14 → Option R, (∀ a1 a2 a3 a4 a5 a6 a7 a8 a9 a10 a11 a12 a13 a14, ih a1 a2 a3 a4 a5 a6 a7 a8 a9 a10 a11 a12 a13 a14 = some r → M a1 a2 a3 a4 a5 a6 a7 a8 a9 a10 a11 a12 a13 a14) → ∀ a1 a2 a3 a4 a5 a6 a7 a8 a9 a10 a11 a12 a13 a14, S ih a1 a2 a3 a4 a5 a6 a7 a8 a9 a10 a11 a12 a13 a14 = some r → M a1 a2 a3 a4 a5 a6 a7 a8 a9 a10 a11 a12 a13 a14) : ∀ n a1 a2 a3 a4 a5 a6 a7 a8 a9 a10 a11 a12 a13 a14, LQ14 S n a1 a2 a3 a4 a5 a6 a7 a8 a9 a10 a11 a12 a13 a14 = some r → M a1 a2 a3 a4 a5 a6 a7 a8 a9 a10 a11 a12 a13 a14 := by
  intro n
  induction n with
  | zero => intro a1 a2 a3 a4 a5 a6 a7 a8 a9 a10 a11 a12 a13 a14 h; cases h
  | succ n ihn => intro a1 a2 a3 a4 a5 a6 a7 a8 a9 a10 a11 a12 a13 a14 h; exact hs _ ihn a1 a2 a3 a4 a5 a6 a7 a8 a9 a10 a11 a12 a13 a14 h
theorem LQ14_k1 {A1 A2 A3 A4 A5 A6 A7 A8 A9 A10 A11 A12 A13 A14 R : Type} {K1 : Type} {S : K1 → (A1 → A2 → A3 → A4 → A5 → A6 → A7 → A8 → A9 → A10 → A11 → A12 → A13 → A14 → Option R) → A1 → A2 → A3 → A4 → A5 → A6 → A7 → A8 → A9 → A10 → A11 → A12 → A13 → A14 → Option R} {k1 : K1} {r : R} (M : A1 → A2 → A3 → A4 → A5 → A6 → A7 → A8 → A9 → A10 → A11 → A12 → A13 → A14 → Prop) (hs : ∀ q1 : K1, q1 = k1 → ∀ ih : A1 → A2 → A3 → A4 → A5 → A6 → A7 → A8 → A9 → A10 → A11 → A12 → A13 → A14 → Option R, (∀ a1 a2 a3 a4 a5 a6 a7 a8 a9 a10 a11 a12 a13 a14, ih a1 a2 a3 a4 a5 a6 a7 a8 a9 a10 a11 a12 a13 a14 = some r → M a1 a2 a3 a4 a5 a6 a7 a8 a9 a10 a11 a12 a13 a14) → ∀ a1 a2 a3 a4 a5 a6 a7 a8 a9 a10 a11 a12 a13 a14, S q1 ih a1 a2 a3 a4 a5 a6 a7 a8 a9 a10 a11 a12 a13 a14 = some r → M a1 a2 a3 a4 a5 a6 a7 a8 a9 a10 a11 a12 a13 a14) : ∀ n a1 a2 a3 a4 a5 a6 a7 a8 a9 a10 a11 a12 a13 a14, LQ14 (S k1) n a1 a2 a3 a4 a5 a6 a7 a8 a9 a10 a11 a12 a13 a14 = some r → M a1 a2 a3 a4 a5 a6 a7 a8 a9 a10 a11 a12 a13 a14 := by
  intro n
  induction n with
  | zero => intro a1 a2 a3 a4 a5 a6 a7 a8 a9 a10 a11 a12 a13 a14 h; cases h
  | succ n ihn => intro a1 a2 a3 a4 a5 a6 a7 a8 a9 a10 a11 a12 a13 a14 h; exact hs _ rfl _ ihn a1 a2 a3 a4 a5 a6 a7 a8 a9 a10 a11 a12 a13 a14 h
theorem LQ14_k2 {A1 A2 A3 A4 A5 A6 A7 A8 A9 A10 A11 A12 A13 A14 R : Type} {K1 K2 : Type} {S : K1 → K2 → (A1 → A2 → A3 → A4 → A5 → A6 → A7 → A8 → A9 → A10 → A11 → A12 → A13 → A14 → Option R) → A1 → A2 → A3 → A4 → A5 → A6 → A7 → A8 → A9 → A10 → A11 → A12 → A13 → A14 → Option R} {k1 : K1} {k2 : K2} {r : R} (M : A1 → A2 → A3 → A4 → A5 → A6 → A7 → A8 → A9 → A10 → A11 → A12 → A13 → A14 → Prop) (hs : ∀ q1 : K1, q1 = k1 → ∀ q2 : K2, q2 = k2 → ∀ ih : A1 → A2 → A3 → A4 → A5 → A6 → A7 → A8 → A9 → A10 → A11 → A12 → A13 → A14 → Option R, (∀ a1 a2 a3 a4 a5 a6 a7 a8 a9 a10 a11 a12 a13 a14, ih a1 a2 a3 a4 a5 a6 a7 a8 a9 a10 a11 a12 a13 a14 = some r → M a1 a2 a3 a4 a5 a6 a7 a8 a9 a10 a11 a12 a13 a14) → ∀ a1 a2 a3 a4 a5 a6 a7 a8 a9 a10 a11 a12 a13 a14, S q1 q2 ih a1 a2 a3 a4 a5 a6 a7 a8 a9 a10 a11 a12 a13 a14 = some r → M a1 a2 a3 a4 a5 a6 a7 a8 a9 a10 a11 a12 a13 a14) : ∀ n a1 a2 a3 a4 a5 a6 a7 a8 a9 a10 a11 a12 a13 a14, LQ14 (S k1 k2) n a1 a2 a3 a4 a5 a6 a7 a8 a9 a10 a11 a12 a13 a14 = some r → M a1 a2 a3 a4 a5 a6 a7 a8 a9 a10 a11 a12 a13 a14 := by
  intro n
  induction n with
  | zero => intro a1 a2 a3 a4 a5 a6 a7 a8 a9 a10 a11 a12 a13 a14 h; cases h
  | succ n ihn => intro a1 a2 a3 a4 a5 a6 a7 a8 a9 a10 a11 a12 a13 a14 h; exact hs _ rfl _ rfl _ ihn a1 a2 a3 a4 a5 a6 a7 a8 a9 a10 a11 a12 a13 a14 h
theorem LQ14_k3 {A1 A2 A3 A4 A5 A6 A7 A8 A9 A10 A11 A12 A13 A14 R : Type} {K1 K2 K3 : Type} {S : K1 → K2 → K3 → (A1 → A2 → A3 → A4 → A5 → A6 → A7 → A8 → A9 → A10 → A11 → A12 → A13 → A14 → Option R) → A1 → A2 → A3 → A4 → A5 → A6 → A7 → A8 → A9 → A10 → A11 → A12 → A13 → A14 → Option R} {k1 : K1} {k2 : K2} {k3 : K3} {r : R} (M : A1 → A2 → A3 → A4 → A5 → A6 → A7 → A8 → A9 → A10 → A11 → A12 → A13 → A14 → Prop) (hs : ∀ q1 : K1, q1 = k1 → ∀ q2 : K2, q2 = k2 → ∀ q3 : K3, q3 = k3 → ∀ ih : A1 → A2 → A3 → A4 → A5 → A6 → A7 → A8 → A9 → A10 → A11 → A12 → A13 → A14 → Option R, (∀ a1 a2 a3 a4 a5 a6 a7 a8 a9 a10 a11 a12 a13 a14, ih a1 a2 a3 a4 a5 a6 a7 a8 a9 a10 a11 a12 a13 a14 = some r → M a1 a2 a3 a4 a5 a6 a7 a8 a9 a10 a11 a12 a13 a14) → ∀ a1 a2 a3 a4 a5 a6 a7 a8 a9 a10 a11 a12 a13 a14, S q1 q2 q3 ih a1 a2 a3 a4 a5 a6 a7 a8 a9 a10 a11 a12 a13 a14 = some r → M a1 a2 a3 a4 a5 a6 a7 a8 a9 a10 a11 a12 a13 a14) : ∀ n a1 a2 a3 a4 a5 a6 a7 a8 a9 a10 a11 a12 a13 a14, LQ14 (S k1 k2 k3) n a1 a2 a3 a4 a5 a6 a7 a8 a9 a10 a11 a12 a13 a14 = some r → M a1 a2 a3 a4 a5 a6 a7 a8 a9 a10 a11 a12 a13 a14 := by
  intro n
  induction n with
  | zero => intro a1 a2 a3 a4 a5 a6 a7 a8 a9 a10 a11 a12 a13 a14 h; cases h
  | succ n ihn => intro a1 a2 a3 a4 a5 a6 a7 a8 a9 a10 a11 a12 a13 a14 h; exact hs _ rfl _ rfl _ rfl _ ihn a1 a2 a3 a4 a5 a6 a7 a8 a9 a10 a11 a12 a13 a14 h
noncomputable def LQ15 {A1 A2 A3 A4 A5 A6 A7 A8 A9 A10 A11 A12 A13 A14 A15 R : Type} (st : (A1 → A2 → A3 → A4 → A5 → A6 → A7 → A8 → A9 → A10 → A11 → A12 → A13 → A14 → A15 → Option R) → A1 → A2 → A3 → A4 → A5 → A6 → A7 → A8 → A9 → A10 → A11 → A12 → A13 → A14 → A15 → Option R) : Nat → A1 → A2 → A3 → A4 → A5 → A6 → A7 → A8 → A9 → A10 → A11 → A12 → A13 → A14 → A15 → Option R
  | 0, _, _, _, _, _, _, _, _, _, _, _, _, _, _, _ => none
  | n + 1, a1, a2, a3, a4, a5, a6, a7, a8, a9, a10, a11, a12, a13, a14, a15 => st (LQ15 st n) a1 a2 a3 a4 a5 a6 a7 a8 a9 a10 a11 a12 a13 a14 a15
theorem LQ15_k0 {A1 A2 A3 A4 A5 A6 A7 A8 A9 A10 A11 A12 A13 A14 A15 R : Type} {S : (A1 → A2 → A3 → A4 → A5 → A6 → A7 → A8 → A9 → A10 → A11 → A12 → A13 → A14 → A15 → Option R) → A1 → A2 → A3 → A4 → A5 → A6 → A7 → A8 → A9 → A10 → A11 → A12 → A13 → A14 → A15 → Option R} {r : R} (M : A1 → A2 → A3 → A4 → A5 → A6 → A7 → A8 → A9 → A10 → A11 → A12 → A13 → A14 → A15 → Prop) (hs : ∀ ih : A1 → A2 → A3 → A4 → A5 → A6 → A7 → A8 → A9 → A10 → A11 → A12 → A13 → A14 → A15 → Option R, (∀ a1 a2 a3 a4 a5 a6 a7 a8 a9 a10 a11 a12 a13 a14 a15, ih a1 a2 a3 a4 a5 a6 a7 a8 a9 a10 a11 a12 a13 a14 a15 = some r → M a1 a2 a3 a4 a5 a6 a7 a8 a9 a10 a11 a12 a13 a14 a15) → ∀ a1 a2 a3 a4 a5 a6 a7 a8 a9 a10 a11 a12 a13 a14 a15, S ih a1 a2 a3 a4 a5 a6 a7 a8 a9 a10 a11 a12 a13 a14 a15 = some r → M a1 a2 a3 a4 a5 a6 a7 a8 a9 a10 a11 a12 a13 a14 a15) : ∀ n a1 a2 a3 a4 a5 a6 a7 a8 a9 a10 a11 a12 a13 a14 a15, LQ15 S n a1 a2 a3 a4 a5 a6 a7 a8 a9 a10 a11 a12 a13 a14 a15 = some r → M a1 a2 a3 a4 a5 a6 a7 a8 a9 a10 a11 a12 a13 a14 a15 := by
  intro n
  induction n with
  | zero => intro a1 a2 a3 a4 a5 a6 a7 a8 a9 a10 a11 a12 a13 a14 a15 h; cases h
  | succ n ihn => intro a1 a2 a3 a4 a5 a6 a7 a8 a9 a10 a11 a12 a13 a14 a15 h; exact hs _ ihn a1 a2 a3 a4 a5 a6 a7 a8 a9 a10 a11 a12 a13 a14 a15 h
theorem LQ15_k1 {A1 A2 A3 A4 A5 A6 A7 A8 A9 A10 A11 A12 A13 A14 A15 R : Type} {K1 : Type} {S : K1 → (A1 → A2 → A3 → A4 → A5 → A6 → A7 → A8 → A9 → A10 → A11 → A12 → A13 → A14 → A15 → Option R) → A1 → A2 → A3 → A4 → A5 → A6 → A7 → A8 → A9 → A10 → A11 → A12 → A13 → A14 → A15 → Option R} {k1 : K1} {r : R} (M : A1 → A2 → A3 → A4 → A5 → A6 → A7 → A8 → A9 → A10 → A11 → A12 → A13 → A14 → A15 → Prop) (hs : ∀ q1 : K1, q1 = k1 → ∀ ih : A1 → A2 → A3 → A4 → A5 → A6 → A7 → A8 → A9 → A10 → A11 → A12 → A13 → A14 → A15 → Option R, (∀ a1 a2 a3 a4 a5 a6 a7 a8 a9 a10 a11 a12 a13 a14 a15, ih a1 a2 a3 a4 a5 a6 a7 a8 a9 a10 a11 a12 a13 a14 a15 = some r → M a1 a2 a3 a4 a5 a6 a7 a8 a9 a10 a11 a12 a13 a14 a15) → ∀ a1 a2 a3 a4 a5 a6 a7 a8 a9 a10 a11 a12 a13 a14 a15, S q1 ih a1 a2 a3 a4 a5 a6 a7 a8 a9 a10 a11 a12 a13 a14 a15 = some r → M a1 a2 a3 a4 a5 a6 a7 a8 a9 a10 a11 a12 a13 a14 a15) : ∀ n a1 a2 a3 a4 a5 a6 a7 a8 a9 a10 a11 a12 a13 a14 a15, LQ15 (S k1) n a1 a2 a3 a4 a5 a6 a7 a8 a9 a10 a11 a12 a13 a14 a15 = some r → M a1 a2 a3 a4 a5 a6 a7 a8 a9 a10 a11 a12 a13 a14 a15 := by
  intro n
  induction n with
  | zero => intro a1 a2 a3 a4 a5 a6 a7 a8 a9 a10 a11 a12 a13 a14 a15 h; cases h
  | succ n ihn => intro a1 a2 a3 a4 a5 a6 a7 a8 a9 a10 a11 a12 a13 a14 a15 h; exact hs _ rfl _ ihn a1 a2 a3 a4 a5 a6 a7 a8 a9 a10 a11 a12 a13 a14 a15 h
theorem LQ15_k2 {A1 A2 A3 A4 A5 A6 A7 A8 A9 A10 A11 A12 A13 A14 A15 R : Type} {K1 K2 : Type} {S : K1 → K2 → (A1 → A2 → A3 → A4 → A5 → A6 → A7 → A8 → A9 → A10 → A11 → A12 → A13 → A14 → A15 → Option R) → A1 → A2 → A3 → A4 → A5 → A6 → A7 → A8 → A9 → A10 → A11 → A12 → A13 → A14 → A15 → Option R} {k1 : K1} {k2 : K2} {r : R} (M : A1 → A2 → A3 → A4 → A5 → A6 → A7 → A8 → A9 → A10 → A11 → A12 → A13 → A14 → A15 → Prop) (hs : ∀ q1 : K1, q1 = k1 → ∀ q2 : K2, q2 = k2 → ∀ ih : A1 → A2 → A3 → A4 → A5 → A6 → A7 → A8 → A9 → A10 → A11 → A12 → A13 → A14 → A15 → Option R, (∀ a1 a2 a3 a4 a5 a6 a7 a8 a9 a10 a11 a12 a13 a14 a15, ih a1 a2 a3 a4 a5 a6 a7 a8 a9 a10 a11 a12 a13 a14 a15 = some r → M a1 a2 a3 a4 a5 a6 a7 a8 a9 a10 a11 a12 a13 a14 a15) → ∀ a1 a2 a3 a4 a5 a6 a7 a8 a9 a10 a11 a12 a13 a14 a15, S q1 q2 ih a1 a2 a3 a4 a5 a6 a7 a8 a9 a10 a11 a12 a13 a14 a15 = some r → M a1 a2 a3 a4 a5 a6 a7 a8 a9 a10 a11 a12 a13 a14 a15) : ∀ n a1 a2 a3 a4 a5 a6 a7 a8 a9 a10 a11 a12 a13 a14 a15, LQ15 (S k1 k2) n a1 a2 a3 a4 a5 a6 a7 a8 a9 a10 a11 a12 a13 a14 a15 = some r → M a1 a2 a3 a4 a5 a6 a7 a8 a9 a10 a11 a12 a13 a14 a15 := by
  intro n
  induction n with
  | zero => intro a1 a2 a3 a4 a5 a6 a7 a8 a9 a10 a11 a12 a13 a14 a15 h; cases h
  | succ n ihn => intro a1 a2 a3 a4 a5 a6 a7 a8 a9 a10 a11 a12 a13 a14 a15 h; exact hs _ rfl _ rfl _ ihn a1 a2 a3 a4 a5 a6 a7 a8 a9 a10 a11 a12 a13 a14 a15 h
theorem LQ15_k3 {A1 A2 A3 A4 A5 A6 A7 A8 A9 A10 A11 A12 A13 A14 A15 R : Type} {K1 K2 K3 : Type} {S : K1 → K2 → K3 → (A1 → A2 → A3 → A4 → A5 → A6 → A7 → A8 → A9 → A10 → A11 → A12 → A13 → A14 → A15 → Option R) → A1 → A2 → A3 → A4 → A5 → A6 → A7 → A8 → A9 → A10 → A11 → A12 → A13 → A14 → A15 → Option R} {k1 : K1} {k2 : K2} {k3 : K3} {r : R} (M : A1 → A2 → A3 → A4 → A5 → A6 → A7 → A8 → A9 → A10 → A11 → A12 → A13 → A14 → A15 → Prop) (hs : ∀ q1 : K1, q1 = k1 → ∀ q2 : K2, q2 = k2 → ∀ q3 : K3, q3 = k3 → ∀ ih : A1 → A2 → A3 → A4 → A5 → A6 → A7 → A8 → A9 → A10 → A11 → A12 → A13 → A14 → A15 → Option R, (∀ a1 a2 a3 a4 a5 a6 a7 a8 a9 a10 a11 a12 a13 a14 a15, ih a1 a2 a3 a4 a5 a6 a7 a8 a9 a10 a11 a12 a13 a14 a15 = some r → M a1 a2 a3 a4 a5 a6 a7 a8 a9 a10 a11 a12 a13 a14 a15) → ∀ a1 a2 a3 a4 a5 a6 a7 a8 a9 a10 a11 a12 a13 a14 a15, S q1 q2 q3 ih a1 a2 a3 a4 a5 a6 a7 a8 a9 a10 a11 a12 a13 a14 a15 = some r → M a1 a2 a3 a4 a5 a6 a7 a8 a9 a10 a11 a12 a13 a14 a15) : ∀ n a1 a2 a3 a4 a5 a6 a7 a8 a9 a10 a11 a12 a13 a14 a15, LQ15 (S k1 k2 k3) n a1 a2 a3 a4 a5 a6 a7 a8 a9 a10 a11 a12 a13 a14 a15 = some r → M a1 a2 a3 a4 a5 a6 a7 a8 a9 a10 a11 a12 a13 a14 a15 := by
  intro n
  induction n with
  | zero => intro a1 a2 a3 a4 a5 a6 a7 a8 a9 a10 a11 a12 a13 a14 a15 h; cases h
  | succ n ihn => intro a1 a2 a3 a4 a5 a6 a7 a8 a9 a10 a11 a12 a13 a14 a15 h; exact hs _ rfl _ rfl _ rfl _ ihn a1 a2 a3 a4 a5 a6 a7 a8 a9 a10 a11 a12 a13 a14 a15 h
noncomputable def LQ16 {A1 A2 A3 A4 A5 A6 A7 A8 A9 A10 A11 A12 A13 A14 A15 A16 R : Type} (st : (A1 → A2 → A3 → A4 → A5 → A6 → A7 → A8 → A9 → A10 → A11 → A12 → A13 → A14 → A15 → A16 → Option R) → A1 → A2 → A3 → A4 → A5 → A6 → A7 → A8 → A9 → A10 → A11 → A12 → A13 → A14 → A15 → A16 → Option R) : Nat → A1 → A2 → A3 → A4 → A5 → A6 → A7 → A8 → A9 → A10 → A11 → A12 → A13 → A14 → A15 → A16 → Option R
  | 0, _, _, _, _, _, _, _, _, _, _, _, _, _, _, _, _ => none
  | n + 1, a1, a2, a3, a4, a5, a6, a7, a8, a9, a10, a11, a12, a13, a14, a15, a16 => st (LQ16 st n) a1 a2 a3 a4 a5 a6 a7 a8 a9 a10 a11 a12 a13 a14 a15 a16
theorem LQ16_k0 {A1 A2 A3 A4 A5 A6 A7 A8 A9 A10 A11 A12 A13 A14 A15 A16 R : Type} {S : (A1 → A2 → A3 → A4 → A5 → A6 → A7 → A8 → A9 → A10 → A11 → A12 → A13 → A14 → A15 → A16 → Option R) → A1 → A2 → A3 → A4 → A5 → A6 → A7 → A8 → A9 → A10 → A11 → A12 → A13 → A14 → A15 → A16 → Option R} {r : R} (M : A1 → A2 → A3 → A4 → A5 → A6 → A7 → A8 → A9 → A10 → A11 → A12 → A13 → A14 → A15 → A16 → Prop) (hs : ∀ ih : A1 → A2 → A3 → A4 → A5 → A6 → A7 → A8 → A9 → A10 → A11 → A12 → A13 → A14 → A15 → A16 → Option R, (∀ a1 a2 a3 a4 a5 a6 a7 a8 a9 a10 a11 a12 a13 a14 a15 a16, ih a1 a2 a3 a4 a5 a6 a7 a8 a9 a10 a11 a12 a13 a14 a15 a16 = some r → M a1 a2 a3 a4 a5 a6 a7 a8 a9 a10 a11 a12 a13 a14 a15 a16) → ∀ a1 a2 a3 a4 a5 a6 a7 a8 a9 a10 a11 a12 a13 a14 a15 a16, S ih a1 a2 a3 a4 a5 a6 a7 a8 a9 a10 a11 a12 a13 a14 a15 a16 = some r → M a1 a2 a3 a4 a5 a6 a7 a8 a9 a10 a11 a12 a13 a14 a15 a16) : ∀ n a1 a2 a3 a4 a5 a6 a7 a8 a9 a10 a11 a12 a13 a14 a15 a16, LQ16 S n a1 a2 a3 a4 a5 a6 a7 a8 a9 a10 a11 a12 a13 a14 a15 a16 = some r → M a1 a2 a3 a4 a5 a6 a7 a8 a9 a10 a11 a12 a13 a14 a15 a16 := by
  intro n
  induction n with
  | zero => intro a1 a2 a3 a4 a5 a6 a7 a8 a9 a10 a11 a12 a13 a14 a15 a16 h; cases h
  | succ n ihn => intro a1 a2 a3 a4 a5 a6 a7 a8 a9 a10 a11 a12 a13 a14 a15 a16 h; exact hs _ ihn a1 a2 a3 a4 a5 a6 a7 a8 a9 a10 a11 a12 a13 a14 a15 a16 h
theorem LQ16_k1 {A1 A2 A3 A4 A5 A6 A7 A8 A9 A10 A11 A12 A13 A14 A15 A16 R : Type} {K1 : Type} {S : K1 → (A1 → A2 → A3 → A4 → A5 → A6 → A7 → A8 → A9 → A10 → A11 → A12 → A13 → A14 → A15 → A16 → Option R) → A1 → A2 → A3 → A4 → A5 → A6 → A7 → A8 → A9 → A10 → A11 → A12 → A13 → A14 → A15 → A16 → Option R} {k1 : K1} {r : R} (M : A1 → A2 → A3 → A4 → A5 → A6 → A7 → A8 → A9 → A10 → A11 → A12 → A13 → A14 → A15 → A16 → Prop) (hs : ∀ q1 : K1, q1 = k1 → ∀ ih : A1 → A2 → A3 → A4 → A5 → A6 → A7 → A8 → A9 → A10 → A11 → A12 → A13 → A14 → A15 → A16 → Option R, (∀ a1 a2 a3 a4 a5 a6 a7 a8 a9 a10 a11 a12 a13 a14 a15 a16, ih a1 a2 a3 a4 a5 a6 a7 a8 a9 a10 a11 a12 a13 a14 a15 a16 = some r → M a1 a2 a3 a4 a5 a6 a7 a8 a9 a10 a11 a12 a13 a14 a15 a16) → ∀ a1 a2 a3 a4 a5 a6 a7 a8 a9 a10 a11 a12 a13 a14 a15 a16, S q1 ih a1 a2 a3 a4 a5 a6 a7 a8 a9 a10 a11 a12 a13 a14 a15 a16 = some r → M a1 a2 a3 a4 a5 a6 a7 a8 a9 a10 a11 a12 a13 a14 a15 a16) : ∀ n a1 a2 a3 a4 a5 a6 a7 a8 a9 a10 a11 a12 a13 a14 a15 a16, LQ16 (S k1) n a1 a2 a3 a4 a5 a6 a7 a8 a9 a10 a11 a12 a13 a14 a15 a16 = some r → M a1 a2 a3 a4 a5 a6 a7 a8 a9 a10 a11 a12 a13 a14 a15 a16 := by
  intro n
  induction n with
  | zero => intro a1 a2 a3 a4 a5 a6 a7 a8 a9 a10 a11 a12 a13 a14 a15 a16 h; cases h
  | succ n ihn => intro a1 a2 a3 a4 a5 a6 a7 a8 a9 a10 a11 a12 a13 a14 a15 a16 h; exact hs _ rfl _ ihn a1 a2 a3 a4 a5 a6 a7 a8 a9 a10 a11 a12 a13 a14 a15 a16 h
theorem LQ16_k2 {A1 A2 A3 A4 A5 A6 A7 A8 A9 A10 A11 A12 A13 A14 A15 A16 R : Type} {K1 K2 : Type} {S : K1 → K2 → (A1 → A2 → A3 → A4 → A5 → A6 → A7 → A8 → A9 → A10 → A11 → A12 → A13 → A14 → A15 → A16 → Option R) → A1 → A2 → A3 → A4 → A5 → A6 → A7 → A8 → A9 → A10 → A11 → A12 → A13 → A14 → A15 → A16 → Option R} {k1 : K1} {k2 : K2} {r : R} (M : A1 → A2 → A3 → A4 → A5 → A6 → A7 → A8 → A9 → A10 → A11 → A12 → A13 → A14 → A15 → A16 → Prop) (hs : ∀ q1 : K1, q1 = k1 → ∀ q2 : K2, q2 = k2 → ∀ ih : A1 → A2 → A3 → A4 → A5 → A6 → A7 → A8 → A9 → A10 → A11 → A12 → A13 → A14 → A15 → A16 → Option R, (∀ a1 a2 a3 a4 a5 a6 a7 a8 a9 a10 a11 a12 a13 a14 a15 a16, ih a1 a2 a3 a4 a5 a6 a7 a8 a9 a10 a11 a12 a13 a14 a15 a16 = some r → M a1 a2 a3 a4 a5 a6 a7 a8 a9 a10 a11 a12 a13 a14 a15 a16) → ∀ a1 a2 a3 a4 a5 a6 a7 a8 a9 a10 a11 a12 a13 a14 a15 a16, S q1 q2 ih a1 a2 a3 a4 a5 a6 a7 a8 a9 a10 a11 a12 a13 a14 a15 a16 = some r → M a1 a2 a3 a4 a5 a6 a7 a8 a9 a10 a11 a12 a13 a14 a15 a16) : ∀ n a1 a2 a3 a4 a5 a6 a7 a8 a9 a10 a11 a12 a13 a14 a15 a16, LQ16 (S k1 k2) n a1 a2 a3 a4 a5 a6 a7 a8 a9 a10 a11 a12 a13 a14 a15 a16 = some r → M a1 a2 a3 a4 a5 a6 a7 a8 a9 a10 a11 a12 a13 a14 a15 a16 := by
  intro n
  induction n with
  | zero => intro a1 a2 a3 a4 a5 a6 a7 a8 a9 a10 a11 a12 a13 a14 a15 a16 h; cases h
  | succ n ihn => intro a1 a2 a3 a4 a5 a6 a7 a8 a9 a10 a11 a12 a13 a14 a15 a16 h; exact hs _ rfl _ rfl _ ihn a1 a2 a3 a4 a5 a6 a7 a8 a9 a10 a11 a12 a13 a14 a15 a16 h
theorem LQ16_k3 {A1 A2 A3 A4 A5 A6 A7 A8 A9 A10 A11 A12 A13 A14 A15 A16 R : Type} {K1 K2 K3 : Type} {S : K1 → K2 → K3 → (A1 → A2 → A3 → A4 → A5 → A6 → A7 → A8 → A9 → A10 → A11 → A12 → A13 → A14 → A15 → A16 → Option R) → A1 → A2 → A3 → A4 → A5 → A6 → A7 → A8 → A9 → A10 → A11 → A12 → A13 → A14 → A15 → A16 → Option R} {k1 : K1} {k2 : K2} {k3 : K3} {r : R} (M : A1 → A2 → A3 → A4 → A5 → A6 → A7 → A8 → A9 → A10 → A11 → A12 → A13 → A14 → A15 → A16 → Prop) (hs : ∀ q1 : K1, q1 = k1 → ∀ q2 : K2, q2 = k2 → ∀ q3 : K3, q3 = k3 → ∀ ih : A1 → A2 → A3 → A4 → A5 → A6 → A7 → A8 → A9 → A10 → A11 → A12 → A13 → A14 → A15 → A16 → Option R, (∀ a1 a2 a3 a4 a5 a6 a7 a8 a9 a10 a11 a12 a13 a14 a15 a16, ih a1 a2 a3 a4 a5 a6 a7 a8 a9 a10 a11 a12 a13 a14 a15 a16 = some r → M a1 a2 a3 a4 a5 a6 a7 a8 a9 a10 a11 a12 a13 a14 a15 a16) → ∀ a1 a2 a3 a4 a5 a6 a7 a8 a9 a10 a11 a12 a13 a14 a15 a16, S q1 q2 q3 ih a1 a2 a3 a4 a5 a6 a7 a8 a9 a10 a11 a12 a13 a14 a15 a16 = some r → M a1 a2 a3 a4 a5 a6 a7 a8 a9 a10 a11 a12 a13 a14 a15 a16) : ∀ n a1 a2 a3 a4 a5 a6 a7 a8 a9 a10 a11 a12 a13 a14 a15 a16, LQ16 (S k1 k2 k3) n a1 a2 a3 a4 a5 a6 a7 a8 a9 a10 a11 a12 a13 a14 a15 a16 = some r → M a1 a2 a3 a4 a5 a6 a7 a8 a9 a10 a11 a12 a13 a14 a15 a16 := by
  intro n
  induction n with
  | zero => intro a1 a2 a3 a4 a5 a6 a7 a8 a9 a10 a11 a12 a13 a14 a15 a16 h; cases h
  | succ n ihn => intro a1 a2 a3 a4 a5 a6 a7 a8 a9 a10 a11 a12 a13 a14 a15 a16 h; exact hs _ rfl _ rfl _ rfl _ ihn a1 a2 a3 a4 a5 a6 a7 a8 a9 a10 a11 a12 a13 a14 a15 a16 h
noncomputable def obn2 {T1 T2 β : Type} (o : Option (T1 × T2)) (k : T1 → T2 → Option β) : Option β := match o with
  | none => none
  | some (x1, x2) => k x1 x2
theorem obn2_h {T1 T2 β : Type} {o : Option (T1 × T2)} {k : T1 → T2 → Option β} {r : β} (h : obn2 o k = some r) : ∃ x1 x2, o = some (x1, x2) ∧ k x1 x2 = some r := by
  cases o with
  | none => cases h
  | some q => obtain ⟨x1, x2⟩ := q; exact ⟨x1, x2, rfl, h⟩
theorem obn2_some {T1 T2 β : Type} (k : T1 → T2 → Option β) (x1 : T1) (x2 : T2) : obn2 (some (x1, x2)) k = k x1 x2 := rfl
theorem tup2 {T1 T2 : Type} {x1 y1 : T1} {x2 y2 : T2} (h : some (x1, x2) = some (y1, y2)) : x1 = y1 ∧ x2 = y2 := by cases h; exact ⟨rfl, rfl⟩
noncomputable def obn3 {T1 T2 T3 β : Type} (o : Option (T1 × T2 × T3)) (k : T1 → T2 → T3 → Option β) : Option β := match o with
  | none => none
  | some (x1, x2, x3) => k x1 x2 x3
theorem obn3_h {T1 T2 T3 β : Type} {o : Option (T1 × T2 × T3)} {k : T1 → T2 → T3 → Option β} {r : β} (h : obn3 o k = some r) : ∃ x1 x2 x3, o = some (x1, x2, x3) ∧ k x1 x2 x3 = some r := by
  cases o with
  | none => cases h
  | some q => obtain ⟨x1, x2, x3⟩ := q; exact ⟨x1, x2, x3, rfl, h⟩
theorem obn3_some {T1 T2 T3 β : Type} (k : T1 → T2 → T3 → Option β) (x1 : T1) (x2 : T2) (x3 : T3) : obn3 (some (x1, x2, x3)) k = k x1 x2 x3 := rfl
theorem tup3 {T1 T2 T3 : Type} {x1 y1 : T1} {x2 y2 : T2} {x3 y3 : T3} (h : some (x1, x2, x3) = some (y1, y2, y3)) : x1 = y1 ∧ x2 = y2 ∧ x3 = y3 := by cases h; exact ⟨rfl, rfl, rfl⟩
noncomputable def obn4 {T1 T2 T3 T4 β : Type} (o : Option (T1 × T2 × T3 × T4)) (k : T1 → T2 → T3 → T4 → Option β) : Option β := match o with
  | none => none
  | some (x1, x2, x3, x4) => k x1 x2 x3 x4
theorem obn4_h {T1 T2 T3 T4 β : Type} {o : Option (T1 × T2 × T3 × T4)} {k : T1 → T2 → T3 → T4 → Option β} {r : β} (h : obn4 o k = some r) : ∃ x1 x2 x3 x4, o = some (x1, x2, x3, x4) ∧ k x1 x2 x3 x4 = some r := by
  cases o with
  | none => cases h
  | some q => obtain ⟨x1, x2, x3, x4⟩ := q; exact ⟨x1, x2, x3, x4, rfl, h⟩
theorem obn4_some {T1 T2 T3 T4 β : Type} (k : T1 → T2 → T3 → T4 → Option β) (x1 : T1) (x2 : T2) (x3 : T3) (x4 : T4) : obn4 (some (x1, x2, x3, x4)) k = k x1 x2 x3 x4 := rfl
theorem tup4 {T1 T2 T3 T4 : Type} {x1 y1 : T1} {x2 y2 : T2} {x3 y3 : T3} {x4 y4 : T4} (h : some (x1, x2, x3, x4) = some (y1, y2, y3, y4)) : x1 = y1 ∧ x2 = y2 ∧ x3 = y3 ∧ x4 = y4 := by cases h; exact ⟨rfl, rfl, rfl, rfl⟩
noncomputable def obn5 {T1 T2 T3 T4 T5 β : Type} (o : Option (T1 × T2 × T3 × T4 × T5)) (k : T1 → T2 → T3 → T4 → T5 → Option β) : Option β := match o with
  | none => none
  | some (x1, x2, x3, x4, x5) => k x1 x2 x3 x4 x5
theorem obn5_h {T1 T2 T3 T4 T5 β : Type} {o : Option (T1 × T2 × T3 × T4 × T5)} {k : T1 → T2 → T3 → T4 → T5 → Option β} {r : β} (h : obn5 o k = some r) : ∃ x1 x2 x3 x4 x5, o = some (x1, x2, x3, x4, x5) ∧ k x1 x2 x3 x4 x5 = some r := by
  cases o with
  | none => cases h
  | some q => obtain ⟨x1, x2, x3, x4, x5⟩ := q; exact ⟨x1, x2, x3, x4, x5, rfl, h⟩
theorem obn5_some {T1 T2 T3 T4 T5 β : Type} (k : T1 → T2 → T3 → T4 → T5 → Option β) (x1 : T1) (x2 : T2) (x3 : T3) (x4 : T4) (x5 : T5) : obn5 (some (x1, x2, x3, x4, x5)) k = k x1 x2 x3 x4 x5 := rfl
theorem tup5 {T1 T2 T3 T4 T5 : Type} {x1 y1 : T1} {x2 y2 : T2} {x3 y3 : T3} {x4 y4 : T4} {x5 y5 : T5} (h : some (x1, x2, x3, x4, x5) = some (y1, y2, y3, y4, y5)) : x1 = y1 ∧ x2 = y2 ∧ x3 = y3 ∧ x4 = y4 ∧ x5 = y5 := by cases h; exact ⟨rfl, rfl, rfl, rfl, rfl⟩
noncomputable def obn6 {T1 T2 T3 T4 T5 T6 β : Type} (o : Option (T1 × T2 × T3 × T4 × T5 × T6)) (k : T1 → T2 → T3 → T4 → T5 → T6 → Option β) : Option β := match o with
  | none => none
  | some (x1, x2, x3, x4, x5, x6) => k x1 x2 x3 x4 x5 x6
theorem obn6_h {T1 T2 T3 T4 T5 T6 β : Type} {o : Option (T1 × T2 × T3 × T4 × T5 × T6)} {k : T1 → T2 → T3 → T4 → T5 → T6 → Option β} {r : β} (h : obn6 o k = some r) : ∃ x1 x2 x3 x4 x5 x6, o = some (x1, x2, x3, x4, x5, x6) ∧ k x1 x2 x3 x4 x5 x6 = some r := by
  cases o with
  | none => cases h
  | some q => obtain ⟨x1, x2, x3, x4, x5, x6⟩ := q; exact ⟨x1, x2, x3, x4, x5, x6, rfl, h⟩
theorem obn6_some {T1 T2 T3 T4 T5 T6 β : Type} (k : T1 → T2 → T3 → T4 → T5 → T6 → Option β) (x1 : T1) (x2 : T2) (x3 : T3) (x4 : T4) (x5 : T5) (x6 : T6) : obn6 (some (x1, x2, x3, x4, x5, x6)) k = k x1 x2 x3 x4 x5 x6 := rfl
theorem tup6 {T1 T2 T3 T4 T5 T6 : Type} {x1 y1 : T1} {x2 y2 : T2} {x3 y3 : T3} {x4 y4 : T4} {x5 y5 : T5} {x6 y6 : T6} (h : some (x1, x2, x3, x4, x5, x6) = some (y1, y2, y3, y4, y5, y6)) : x1 = y1 ∧ x2 = y2 ∧ x3 = y3 ∧ x4 = y4 ∧ x5 = y5 ∧ x6 = y6 := by cases h; exact ⟨rfl, rfl, rfl, rfl, rfl, rfl⟩
noncomputable def obn7 {T1 T2 T3 T4 T5 T6 T7 β : Type} (o : Option (T1 × T2 × T3 × T4 × T5 × T6 × T7)) (k : T1 → T2 → T3 → T4 → T5 → T6 → T7 → Option β) : Option β := match o with
  | none => none
  | some (x1, x2, x3, x4, x5, x6, x7) => k x1 x2 x3 x4 x5 x6 x7
theorem obn7_h {T1 T2 T3 T4 T5 T6 T7 β : Type} {o : Option (T1 × T2 × T3 × T4 × T5 × T6 × T7)} {k : T1 → T2 → T3 → T4 → T5 → T6 → T7 → Option β} {r : β} (h : obn7 o k = some r) : ∃ x1 x2 x3 x4 x5 x6 x7, o = some (x1, x2, x3, x4, x5, x6, x7) ∧ k x1 x2 x3 x4 x5 x6 x7 = some r := by
  cases o with
  | none => cases h
  | some q => obtain ⟨x1, x2, x3, x4, x5, x6, x7⟩ := q; exact ⟨x1, x2, x3, x4, x5, x6, x7, rfl, h⟩
theorem obn7_some {T1 T2 T3 T4 T5 T6 T7 β : Type} (k : T1 → T2 → T3 → T4 → T5 → T6 → T7 → Option β) (x1 : T1) (x2 : T2) (x3 : T3) (x4 : T4) (x5 : T5) (x6 : T6) (x7 : T7) : obn7 (some (x1, x2, x3, x4, x5, x6, x7)) k = k x1 x2 x3 x4 x5 x6 x7 := rfl
theorem tup7 {T1 T2 T3 T4 T5 T6 T7 : Type} {x1 y1 : T1} {x2 y2 : T2} {x3 y3 : T3} {x4 y4 : T4} {x5 y5 : T5} {x6 y6 : T6} {x7 y7 : T7} (h : some (x1, x2, x3, x4, x5, x6, x7) = some (y1, y2, y3, y4, y5, y6, y7)) : x1 = y1 ∧ x2 = y2 ∧ x3 = y3 ∧ x4 = y4 ∧ x5 = y5 ∧ x6 = y6 ∧ x7 = y7 := by cases h; exact ⟨rfl, rfl, rfl, rfl, rfl, rfl, rfl⟩
noncomputable def obn8 {T1 T2 T3 T4 T5 T6 T7 T8 β : Type} (o : Option (T1 × T2 × T3 × T4 × T5 × T6 × T7 × T8)) (k : T1 → T2 → T3 → T4 → T5 → T6 → T7 → T8 → Option β) : Option β := match o with
  | none => none
  | some (x1, x2, x3, x4, x5, x6, x7, x8) => k x1 x2 x3 x4 x5 x6 x7 x8
theorem obn8_h {T1 T2 T3 T4 T5 T6 T7 T8 β : Type} {o : Option (T1 × T2 × T3 × T4 × T5 × T6 × T7 × T8)} {k : T1 → T2 → T3 → T4 → T5 → T6 → T7 → T8 → Option β} {r : β} (h : obn8 o k = some r) : ∃ x1 x2 x3 x4 x5 x6 x7 x8, o = some (x1, x2, x3, x4, x5, x6, x7, x8) ∧ k x1 x2 x3 x4 x5 x6 x7 x8 = some r := by
  cases o with
  | none => cases h
  | some q => obtain ⟨x1, x2, x3, x4, x5, x6, x7, x8⟩ := q; exact ⟨x1, x2, x3, x4, x5, x6, x7, x8, rfl, h⟩
theorem obn8_some {T1 T2 T3 T4 T5 T6 T7 T8 β : Type} (k : T1 → T2 → T3 → T4 → T5 → T6 → T7 → T8 → Option β) (x1 : T1) (x2 : T2) (x3 : T3) (x4 : T4) (x5 : T5) (x6 : T6) (x7 : T7) (x8 : T8) : obn8 (some (x1, x2, x3, x4, x5, x6, x7, x8)) k = k x1 x2 x3 x4 x5 x6 x7 x8 := rfl
theorem tup8 {T1 T2 T3 T4 T5 T6 T7 T8 : Type} {x1 y1 : T1} {x2 y2 : T2} {x3 y3 : T3} {x4 y4 : T4} {x5 y5 : T5} {x6 y6 : T6} {x7 y7 : T7} {x8 y8 : T8} (h : some (x1, x2, x3, x4, x5, x6, x7, x8) = some (y1, y2, y3, y4, y5, y6, y7, y8)) : x1 = y1 ∧ x2 = y2 ∧ x3 = y3 ∧ x4 = y4 ∧ x5 = y5 ∧ x6 = y6 ∧ x7 = y7 ∧ x8 = y8 := by cases h; exact ⟨rfl, rfl, rfl, rfl, rfl, rfl, rfl, rfl⟩
noncomputable def obn9 {T1 T2 T3 T4 T5 T6 T7 T8 T9 β : Type} (o : Option (T1 × T2 × T3 × T4 × T5 × T6 × T7 × T8 × T9)) (k : T1 → T2 → T3 → T4 → T5 → T6 → T7 → T8 → T9 → Option β) : Option β := match o with
  | none => none
  | some (x1, x2, x3, x4, x5, x6, x7, x8, x9) => k x1 x2 x3 x4 x5 x6 x7 x8 x9
theorem obn9_h {T1 T2 T3 T4 T5 T6 T7 T8 T9 β : Type} {o : Option (T1 × T2 × T3 × T4 × T5 × T6 × T7 × T8 × T9)} {k : T1 → T2 → T3 → T4 → T5 → T6 → T7 → T8 → T9 → Option β} {r : β} (h : obn9 o k = some r) : ∃ x1 x2 x3 x4 x5 x6 x7 x8 x9, o = some (x1, x2, x3, x4, x5, x6, x7, x8, x9) ∧ k x1 x2 x3 x4 x5 x6 x7 x8 x9 = some r := by
  cases o with
  | none => cases h
  | some q => obtain ⟨x1, x2, x3, x4, x5, x6, x7, x8, x9⟩ := q; exact ⟨x1, x2, x3, x4, x5, x6, x7, x8, x9, rfl, h⟩
theorem obn9_some {T1 T2 T3 T4 T5 T6 T7 T8 T9 β : Type} (k : T1 → T2 → T3 → T4 → T5 → T6 → T7 → T8 → T9 → Option β) (x1 : T1) (x2 : T2) (x3 : T3) (x4 : T4) (x5 : T5) (x6 : T6) (x7 : T7) (x8 : T8) (x9 : T9) : obn9 (some (x1, x2, x3, x4, x5, x6, x7, x8, x9)) k = k x1 x2 x3 x4 x5 x6 x7 x8 x9 := rfl
theorem tup9 {T1 T2 T3 T4 T5 T6 T7 T8 T9 : Type} {x1 y1 : T1} {x2 y2 : T2} {x3 y3 : T3} {x4 y4 : T4} {x5 y5 : T5} {x6 y6 : T6} {x7 y7 : T7} {x8 y8 : T8} {x9 y9 : T9} (h : some (x1, x2, x3, x4, x5, x6, x7, x8, x9) = some (y1, y2, y3, y4, y5, y6, y7, y8, y9)) : x1 = y1 ∧ x2 = y2 ∧ x3 = y3 ∧ x4 = y4 ∧ x5 = y5 ∧ x6 = y6 ∧ x7 = y7 ∧ x8 = y8 ∧ x9 = y9 := by cases h; exact ⟨rfl, rfl, rfl, rfl, rfl, rfl, rfl, rfl, rfl⟩
noncomputable def obn10 {T1 T2 T3 T4 T5 T6 T7 T8 T9 T10 β : Type} (o : Option (T1 × T2 × T3 × T4 × T5 × T6 × T7 × T8 × T9 × T10)) (k : T1 → T2 → T3 → T4 → T5 → T6 → T7 → T8 → T9 → T10 → Option β) : Option β := match o with
  | none => none
  | some (x1, x2, x3, x4, x5, x6, x7, x8, x9, x10) => k x1 x2 x3 x4 x5 x6 x7 x8 x9 x10
theorem obn10_h {T1 T2 T3 T4 T5 T6 T7 T8 T9 T10 β : Type} {o : Option (T1 × T2 × T3 × T4 × T5 × T6 × T7 × T8 × T9 × T10)} {k : T1 → T2 → T3 → T4 → T5 → T6 → T7 → T8 → T9 → T10 → Option β} {r : β} (h : obn10 o k = some r) : ∃ x1 x2 x3 x4 x5 x6 x7 x8 x9 x10, o = some (x1, x2, x3, x4, x5, x6, x7, x8, x9, x10) ∧ k x1 x2 x3 x4 x5 x6 x7 x8 x9 x10 = some r := by
  cases o with
  | none => cases h
  | some q => obtain ⟨x1, x2, x3, x4, x5, x6, x7, x8, x9, x10⟩ := q; exact ⟨x1, x2, x3, x4, x5, x6, x7, x8, x9, x10, rfl, h⟩
theorem obn10_some {T1 T2 T3 T4 T5 T6 T7 T8 T9 T10 β : Type} (k : T1 → T2 → T3 → T4 → T5 → T6 → T7 → T8 → T9 → T10 → Option β) (x1 : T1) (x2 : T2) (x3 : T3) (x4 : T4) (x5 : T5) (x6 : T6) (x7 : T7) (x8 : T8) (x9 : T9) (x10 : T10) : obn10 (some (x1, x2, x3, x4, x5, x6, x7, x8, x9, x10)) k = k x1 x2 x3 x4 x5 x6 x7 x8 x9 x10 := rfl
theorem tup10 {T1 T2 T3 T4 T5 T6 T7 T8 T9 T10 : Type} {x1 y1 : T1} {x2 y2 : T2} {x3 y3 : T3} {x4 y4 : T4} {x5 y5 : T5} {x6 y6 : T6} {x7 y7 : T7} {x8 y8 : T8} {x9 y9 : T9} {x10 y10 : T10} (h : some (x1, x2, x3, x4, x5, x6, x7, x8, x9, x10) = some (y1, y2, y3, y4, y5, y6, y7, y8, y9, y10)) : x1 = y1 ∧ x2 = y2 ∧ x3 = y3 ∧ x4 = y4 ∧ x5 = y5 ∧ x6 = y6 ∧ x7 = y7 ∧ x8 = y8 ∧ x9 = y9 ∧ x10 = y10 := by cases h; exact ⟨rfl, rfl, rfl, rfl, rfl, rfl, rfl, rfl, rfl, rfl⟩
noncomputable def obn11 {T1 T2 T3 T4 T5 T6 T7 T8 T9 T10 T11 β : Type} (o : Option (T1 × T2 × T3 × T4 × T5 × T6 × T7 × T8 × T9 × T10 × T11)) (k : T1 → T2 → T3 → T4 → T5 → T6 → T7 → T8 → T9 → T10 → T11 → Option β) : Option β := match o with
  | none => none
  | some (x1, x2, x3, x4, x5, x6, x7, x8, x9, x10, x11) => k x1 x2 x3 x4 x5 x6 x7 x8 x9 x10 x11
theorem obn11_h {T1 T2 T3 T4 T5 T6 T7 T8 T9 T10 T11 β : Type} {o : Option (T1 × T2 × T3 × T4 × T5 × T6 × T7 × T8 × T9 × T10 × T11)} {k : T1 → T2 → T3 → T4 → T5 → T6 → T7 → T8 → T9 → T10 → T11 → Option β} {r : β} (h : obn11 o k = some r) : ∃ x1 x2 x3 x4 x5 x6 x7 x8 x9 x10 x11, o = some (x1, x2, x3, x4, x5, x6, x7, x8, x9, x10, x11) ∧ k x1 x2 x3 x4 x5 x6 x7 x8 x9 x10 x11 = some r := by
  cases o with
  | none => cases h
  | some q => obtain ⟨x1, x2, x3, x4, x5, x6, x7, x8, x9, x10, x11⟩ := q; exact ⟨x1, x2, x3, x4, x5, x6, x7, x8, x9, x10, x11, rfl, h⟩
theorem obn11_some {T1 T2 T3 T4 T5 T6 T7 T8 T9 T10 T11 β : Type} (k : T1 → T2 → T3 → T4 → T5 → T6 → T7 → T8 → T9 → T10 → T11 → Option β) (x1 : T1) (x2 : T2) (x3 : T3) (x4 : T4) (x5 : T5) (x6 : T6) (x7 : T7) (x8 : T8) (x9 : T9) (x10 : T10) (x11 : T11) : obn11 (some (x1, x2, x3, x4, x5, x6, x7, x8, x9, x10, x11)) k = k x1 x2 x3 x4 x5 x6 x7 x8 x9 x10 x11 := rfl
theorem tup11 {T1 T2 T3 T4 T5 T6 T7 T8 T9 T10 T11 : Type} {x1 y1 : T1} {x2 y2 : T2} {x3 y3 : T3} {x4 y4 : T4} {x5 y5 : T5} {x6 y6 : T6} {x7 y7 : T7} {x8 y8 : T8} {x9 y9 : T9} {x10 y10 : T10} {x11 y11 : T11} (h : some (x1, x2, x3, x4, x5, x6, x7, x8, x9, x10, x11) = some (y1, y2, y3, y4, y5, y6, y7, y8, y9, y10, y11)) : x1 = y1 ∧ x2 = y2 ∧ x3 = y3 ∧ x4 = y4 ∧ x5 = y5 ∧ x6 = y6 ∧ x7 = y7 ∧ x8 = y8 ∧ x9 = y9 ∧ x10 = y10 ∧ x11 = y11 := by cases h; exact ⟨rfl, rfl, rfl, rfl, rfl, rfl, rfl, rfl, rfl, rfl, rfl⟩
noncomputable def obn12 {T1 T2 T3 T4 T5 T6 T7 T8 T9 T10 T11 T12 β : Type} (o : Option (T1 × T2 × T3 × T4 × T5 × T6 × T7 × T8 × T9 × T10 × T11 × T12)) (k : T1 → T2 → T3 → T4 → T5 → T6 → T7 → T8 → T9 → T10 → T11 → T12 → Option β) : Option β := match o with
  | none => none
  | some (x1, x2, x3, x4, x5, x6, x7, x8, x9, x10, x11, x12) => k x1 x2 x3 x4 x5 x6 x7 x8 x9 x10 x11 x12
theorem obn12_h {T1 T2 T3 T4 T5 T6 T7 T8 T9 T10 T11 T12 β : Type} {o : Option (T1 × T2 × T3 × T4 × T5 × T6 × T7 × T8 × T9 × T10 × T11 × T12)} {k : T1 → T2 → T3 → T4 → T5 → T6 → T7 → T8 → T9 → T10 → T11 → T12 → Option β} {r : β} (h : obn12 o k = some r) : ∃ x1 x2 x3 x4 x5 x6 x7 x8 x9 x10 x11 x12, o = some (x1, x2, x3, x4, x5, x6, x7, x8, x9, x10, x11, x12) ∧ k x1 x2 x3 x4 x5 x6 x7 x8 x9 x10 x11 x12 = some r := by
  cases o with
  | none => cases h
  | some q => obtain ⟨x1, x2, x3, x4, x5, x6, x7, x8, x9, x10, x11, x12⟩ := q; exact ⟨x1, x2, x3, x4, x5, x6, x7, x8, x9, x10, x11, x12, rfl, h⟩
theorem obn12_some {T1 T2 T3 T4 T5 T6 T7 T8 T9 T10 T11 T12 β : Type} (k : T1 → T2 → T3 → T4 → T5 → T6 → T7 → T8 → T9 → T10 → T11 → T12 → Option β) (x1 : T1) (x2 : T2) (x3 : T3) (x4 : T4) (x5 : T5) (x6 : T6) (x7 : T7) (x8 : T8) (x9 : T9) (x10 : T10) (x11 : T11) (x12 : T12) : obn12 (some (x1, x2, x3, x4, x5, x6, x7, x8, x9, x10, x11, x12)) k = k x1 x2 x3 x4 x5 x6 x7 x8 x9 x10 x11 x12 := rfl
theorem tup12 {T1 T2 T3 T4 T5 T6 T7 T8 T9 T10 T11 T12 : Type} {x1 y1 : T1} {x2 y2 : T2} {x3 y3 : T3} {x4 y4 : T4} {x5 y5 : T5} {x6 y6 : T6} {x7 y7 : T7} {x8 y8 : T8} {x9 y9 : T9} {x10 y10 : T10} {x11 y11 : T11} {x12 y12 : T12} (h : some (x1, x2, x3, x4, x5, x6, x7, x8, x9, x10, x11, x12) = some (y1, y2, y3, y4, y5, y6, y7, y8, y9, y10, y11, y12)) : x1 = y1 ∧ x2 = y2 ∧ x3 = y3 ∧ x4 = y4 ∧ x5 = y5 ∧ x6 = y6 ∧ x7 = y7 ∧ x8 = y8 ∧ x9 = y9 ∧ x10 = y10 ∧ x11 = y11 ∧ x12 = y12 := by cases h; exact ⟨rfl, rfl, rfl, rfl, rfl, rfl, rfl, rfl, rfl, rfl, rfl, rfl⟩
noncomputable def obn13 {T1 T2 T3 T4 T5 T6 T7 T8 T9 T10 T11 T12 T13 β : Type} (o : Option (T1 × T2 × T3 × T4 × T5 × T6 × T7 × T8 × T9 × T10 × T11 × T12 × T13)) (k : T1 → T2 → T3 → T4 → T5 → T6 → T7 → T8 → T9 → T10 → T11 → T12 → T13 → Option β) : Option β := match o with
  | none => none
  | some (x1, x2, x3, x4, x5, x6, x7, x8, x9, x10, x11, x12, x13) => k x1 x2 x3 x4 x5 x6 x7 x8 x9 x10 x11 x12 x13
theorem obn13_h {T1 T2 T3 T4 T5 T6 T7 T8 T9 T10 T11 T12 T13 β : Type} {o : Option (T1 × T2 × T3 × T4 × T5 × T6 × T7 × T8 × T9 × T10 × T11 × T12 × T13)} {k : T1 → T2 → T3 → T4 → T5 → T6 → T7 → T8 → T9 → T10 → T11 → T12 → T13 → Option β} {r : β} (h : obn13 o k = some r) : ∃ x1 x2 x3 x4 x5 x6 x7 x8 x9 x10 x11 x12 x13, o = some (x1, x2, x3, x4, x5, x6, x7, x8, x9, x10, x11, x12, x13) ∧ k x1 x2 x3 x4 x5 x6 x7 x8 x9 x10 x11 x12 x13 = some r := by
  cases o with
  | none => cases h
  | some q => obtain ⟨x1, x2, x3, x4, x5, x6, x7, x8, x9, x10, x11, x12, x13⟩ := q; exact ⟨x1, x2, x3, x4, x5, x6, x7, x8, x9, x10, x11, x12, x13, rfl, h⟩
theorem obn13_some {T1 T2 T3 T4 T5 T6 T7 T8 T9 T10 T11 T12 T13 β : Type} (k : T1 → T2 → T3 → T4 → T5 → T6 → T7 → T8 → T9 → T10 → T11 → T12 → T13 → Option β) (x1 : T1) (x2 : T2) (x3 : T3) (x4 : T4) (x5 : T5) (x6 : T6) (x7 : T7) (x8 : T8) (x9 : T9) (x10 : T10) (x11 : T11) (x12 : T12) (x13 : T13) : obn13 (some (x1, x2, x3, x4, x5, x6, x7, x8, x9, x10, x11, x12, x13)) k = k x1 x2 x3 x4 x5 x6 x7 x8 x9 x10 x11 x12 x13 := rfl
theorem tup13 {T1 T2 T3 T4 T5 T6 T7 T8 T9 T10 T11 T12 T13 : Type} {x1 y1 : T1} {x2 y2 : T2} {x3 y3 : T3} {x4 y4 : T4} {x5 y5 : T5} {x6 y6 : T6} {x7 y7 : T7} {x8 y8 : T8} {x9 y9 : T9} {x10 y10 : T10} {x11 y11 : T11} {x12 y12 : T12} {x13 y13 : T13} (h : some (x1, x2, x3, x4, x5, x6, x7, x8, x9, x10, x11, x12, x13) = some (y1, y2, y3, y4, y5, y6, y7, y8, y9, y10, y11, y12, y13)) : x1 = y1 ∧ x2 = y2 ∧ x3 = y3 ∧ x4 = y4 ∧ x5 = y5 ∧ x6 = y6 ∧ x7 = y7 ∧ x8 = y8 ∧ x9 = y9 ∧ x10 = y10 ∧ x11 = y11 ∧ x12 = y12 ∧ x13 = y13 := by cases h; exact ⟨rfl, rfl, rfl, rfl, rfl, rfl, rfl, rfl, rfl, rfl, rfl, rfl, rfl⟩
noncomputable def obn14 {T1 T2 T3 T4 T5 T6 T7 T8 T9 T10 T11 T12 T13 T14 β : Type} (o : Option (T1 × T2 × T3 × T4 × T5 × T6 × T7 × T8 × T9 × T10 × T11 × T12 × T13 × T14)) (k : T1 → T2 → T3 → T4 → T5 → T6 → T7 → T8 → T9 → T10 → T11 → T12 → T13 → T14 → Option β) : Option β := match o with
  | none => none
  | some (x1, x2, x3, x4, x5, x6, x7, x8, x9, x10, x11, x12, x13, x14) => k x1 x2 x3 x4 x5 x6 x7 x8 x9 x10 x11 x12 x13 x14
theorem obn14_h {T1 T2 T3 T4 T5 T6 T7 T8 T9 T10 T11 T12 T13 T14 β : Type} {o : Option (T1 × T2 × T3 × T4 × T5 × T6 × T7 × T8 × T9 × T10 × T11 × T12 × T13 × T14)} {k : T1 → T2 → T3 → T4 → T5 → T6 → T7 → T8 → T9 → T10 → T11 → T12 → T13 → T14 → Option β} {r : β} (h : obn14 o k = some r) : ∃ x1 x2 x3 x4 x5 x6 x7 x8 x9 x10 x11 x12 x13 x14, o = some (x1, x2, x3, x4, x5, x6, x7, x8, x9, x10, x11, x12, x13, x14) ∧ k x1 x2 x3 x4 x5 x6 x7 x8 x9 x10 x11 x12 x13 x14 = some r := by
  cases o with
  | none => cases h
  | some q => obtain ⟨x1, x2, x3, x4, x5, x6, x7, x8, x9, x10, x11, x12, x13, x14⟩ := q; exact ⟨x1, x2, x3, x4, x5, x6, x7, x8, x9, x10, x11, x12, x13, x14, rfl, h⟩
theorem obn14_some {T1 T2 T3 T4 T5 T6 T7 T8 T9 T10 T11 T12 T13 T14 β : Type} (k : T1 → T2 → T3 → T4 → T5 → T6 → T7 → T8 → T9 → T10 → T11 → T12 → T13 → T14 → Option β) (x1 : T1) (x2 : T2) (x3 : T3) (x4 : T4) (x5 : T5) (x6 : T6) (x7 : T7) (x8 : T8) (x9 : T9) (x10 : T10) (x11 : T11) (x12 : T12) (x13 : T13) (x14 : T14) : obn14 (some (x1, x2, x3, x4, x5, x6, x7, x8, x9, x10, x11, x12, x13, x14)) k = k x1 x2 x3 x4 x5 x6 x7 x8 x9 x10 x11 x12 x13 x14 := rfl
theorem tup14 {T1 T2 T3 T4 T5 T6 T7 T8 T9 T10 T11 T12 T13 T14 : Type} {x1 y1 : T1} {x2 y2 : T2} {x3 y3 : T3} {x4 y4 : T4} {x5 y5 : T5} {x6 y6 : T6} {x7 y7 : T7} {x8 y8 : T8} {x9 y9 : T9} {x10 y10 : T10} {x11 y11 : T11} {x12 y12 : T12} {x13 y13 : T13} {x14 y14 : T14} (h : some (x1, x2, x3, x4, x5, x6, x7, x8, x9, x10, x11, x12, x13, x14) = some (y1, y2, y3, y4, y5, y6, y7, y8, y9, y10, y11, y12, y13, y14)) : x1 = y1 ∧ x2 = y2 ∧ x3 = y3 ∧ x4 = y4 ∧ x5 = y5 ∧ x6 = y6 ∧ x7 = y7 ∧ x8 = y8 ∧ x9 = y9 ∧ x10 = y10 ∧ x11 = y11 ∧ x12 = y12 ∧ x13 = y13 ∧ x14 = y14 := by cases h; exact ⟨rfl, rfl, rfl, rfl, rfl, rfl, rfl, rfl, rfl, rfl, rfl, rfl, rfl, rfl⟩
noncomputable def obn15 {T1 T2 T3 T4 T5 T6 T7 T8 T9 T10 T11 T12 T13 T14 T15 β : Type} (o : Option (T1 × T2 × T3 × T4 × T5 × T6 × T7 × T8 × T9 × T10 × T11 × T12 × T13 × T14 × T15)) (k : T1 → T2 → T3 → T4 → T5 → T6 → T7 → T8 → T9 → T10 → T11 → T12 → T13 → T14 → T15 → Option β) : Option β := match o with
  | none => none
  | some (x1, x2, x3, x4, x5, x6, x7, x8, x9, x10, x11, x12, x13, x14, x15) => k x1 x2 x3 x4 x5 x6 x7 x8 x9 x10 x11 x12 x13 x14 x15
theorem obn15_h {T1 T2 T3 T4 T5 T6 T7 T8 T9 T10 T11 T12 T13 T14 T15 β : Type} {o : Option (T1 × T2 × T3 × T4 × T5 × T6 × T7 × T8 × T9 × T10 × T11 × T12 × T13 × T14 × T15)} {k : T1 → T2 → T3 → T4 → T5 → T6 → T7 → T8 → T9 → T10 → T11 → T12 → T13 → T14 → T15 → Option β} {r : β} (h : obn15 o k = some r) : ∃ x1 x2 x3 x4 x5 x6 x7 x8 x9 x10 x11 x12 x13 x14 x15, o = some (x1, x2, x3, x4, x5, x6, x7, x8, x9, x10, x11, x12, x13, x14, x15) ∧ k x1 x2 x3 x4 x5 x6 x7 x8 x9 x10 x11 x12 x13 x14 x15 = some r := by
  cases o with
  | none => cases h
  | some q => obtain ⟨x1, x2, x3, x4, x5, x6, x7, x8, x9, x10, x11, x12, x13, x14, x15⟩ := q; exact ⟨x1, x2, x3, x4, x5, x6, x7, x8, x9, x10, x11, x12, x13, x14, x15, rfl, h⟩
theorem obn15_some {T1 T2 T3 T4 T5 T6 T7 T8 T9 T10 T11 T12 T13 T14 T15 β : Type} (k : T1 → T2 → T3 → T4 → T5 → T6 → T7 → T8 → T9 → T10 → T11 → T12 → T13 → T14 → T15 → Option β) (x1 : T1) (x2 : T2) (x3 : T3) (x4 : T4) (x5 : T5) (x6 : T6) (x7 : T7) (x8 : T8) (x9 : T9) (x10 : T10) (x11 : T11) (x12 : T12) (x13 : T13) (x14 : T14) (x15 : T15) : obn15 (some (x1, x2, x3, x4, x5, x6, x7, x8, x9, x10, x11, x12, x13, x14, x15)) k = k x1 x2 x3 x4 x5 x6 x7 x8 x9 x10 x11 x12 x13 x14 x15 := rfl
theorem tup15 {T1 T2 T3 T4 T5 T6 T7 T8 T9 T10 T11 T12 T13 T14 T15 : Type} {x1 y1 : T1} {x2 y2 : T2} {x3 y3 : T3} {x4 y4 : T4} {x5 y5 : T5} {x6 y6 : T6} {x7 y7 : T7} {x8 y8 : T8} {x9 y9 : T9} {x10 y10 : T10} {x11 y11 : T11} {x12 y12 : T12} {x13 y13 : T13} {x14 y14 : T14} {x15 y15 : T15} (h : some (x1, x2, x3, x4, x5, x6, x7, x8, x9, x10, x11, x12, x13, x14, x15) = some (y1, y2, y3, y4, y5, y6, y7, y8, y9, y10, y11, y12, y13, y14, y15)) : x1 = y1 ∧ x2 = y2 ∧ x3 = y3 ∧ x4 = y4 ∧ x5 = y5 ∧ x6 = y6 ∧ x7 = y7 ∧ x8 = y8 ∧ x9 = y9 ∧ x10 = y10 ∧ x11 = y11 ∧ x12 = y12 ∧ x13 = y13 ∧ x14 = y14 ∧ x15 = y15 := by cases h; exact ⟨rfl, rfl, rfl, rfl, rfl, rfl, rfl, rfl, rfl, rfl, rfl, rfl, rfl, rfl, rfl⟩
noncomputable def obn16 {T1 T2 T3 T4 T5 T6 T7 T8 T9 T10 T11 T12 T13 T14 T15 T16 β : Type} (o : Option (T1 × T2 × T3 × T4 × T5 × T6 × T7 × T8 × T9 × T10 × T11 × T12 × T13 × T14 × T15 × T16)) (k : T1 → T2 → T3 → T4 → T5 → T6 → T7 → T8 → T9 → T10 → T11 → T12 → T13 → T14 → T15 → T16 → Option β) : Option β := match o with
  | none => none
  | some (x1, x2, x3, x4, x5, x6, x7, x8, x9, x10, x11, x12, x13, x14, x15, x16) => k x1 x2 x3 x4 x5 x6 x7 x8 x9 x10 x11 x12 x13 x14 x15 x16
theorem obn16_h {T1 T2 T3 T4 T5 T6 T7 T8 T9 T10 T11 T12 T13 T14 T15 T16 β : Type} {o : Option (T1 × T2 × T3 × T4 × T5 × T6 × T7 × T8 × T9 × T10 × T11 × T12 × T13 × T14 × T15 × T16)} {k : T1 → T2 → T3 → T4 → T5 → T6 → T7 → T8 → T9 → T10 → T11 → T12 → T13 → T14 → T15 → T16 → Option β} {r : β} (h : obn16 o k = some r) : ∃ x1 x2 x3 x4 x5 x6 x7 x8 x9 x10 x11 x12 x13 x14 x15 x16, o = some (x1, x2, x3, x4, x5, x6, x7, x8, x9, x10, x11, x12, x13, x14, x15, x16) ∧ k x1 x2 x3 x4 x5 x6 x7 x8 x9 x10 x11 x12 x13 x14 x15 x16 = some r := by
  cases o with
  | none => cases h
  | some q => obtain ⟨x1, x2, x3, x4, x5, x6, x7, x8, x9, x10, x11, x12, x13, x14, x15, x16⟩ := q; exact ⟨x1, x2, x3, x4, x5, x6, x7, x8, x9, x10, x11, x12, x13, x14, x15, x16, rfl, h⟩
theorem obn16_some {T1 T2 T3 T4 T5 T6 T7 T8 T9 T10 T11 T12 T13 T14 T15 T16 β : Type} (k : T1 → T2 → T3 → T4 → T5 → T6 → T7 → T8 → T9 → T10 → T11 → T12 → T13 → T14 → T15 → T16 → Option β) (x1 : T1) (x2 : T2) (x3 : T3) (x4 : T4) (x5 : T5) (x6 : T6) (x7 : T7) (x8 : T8) (x9 : T9) (x10 : T10) (x11 : T11) (x12 : T12) (x13 : T13) (x14 : T14) (x15 : T15) (x16 : T16) : obn16 (some (x1, x2, x3, x4, x5, x6, x7, x8, x9, x10, x11, x12, x13, x14, x15, x16)) k = k x1 x2 x3 x4 x5 x6 x7 x8 x9 x10 x11 x12 x13 x14 x15 x16 := rfl
theorem tup16 {T1 T2 T3 T4 T5 T6 T7 T8 T9 T10 T11 T12 T13 T14 T15 T16 : Type} {x1 y1 : T1} {x2 y2 : T2} {x3 y3 : T3} {x4 y4 : T4} {x5 y5 : T5} {x6 y6 : T6} {x7 y7 : T7} {x8 y8 : T8} {x9 y9 : T9} {x10 y10 : T10} {x11 y11 : T11} {x12 y12 : T12} {x13 y13 : T13} {x14 y14 : T14} {x15 y15 : T15} {x16 y16 : T16} (h : some (x1, x2, x3, x4, x5, x6, x7, x8, x9, x10, x11, x12, x13, x14, x15, x16) = some (y1, y2, y3, y4, y5, y6, y7, y8, y9, y10, y11, y12, y13, y14, y15, y16)) : x1 = y1 ∧ x2 = y2 ∧ x3 = y3 ∧ x4 = y4 ∧ x5 = y5 ∧ x6 = y6 ∧ x7 = y7 ∧ x8 = y8 ∧ x9 = y9 ∧ x10 = y10 ∧ x11 = y11 ∧ x12 = y12 ∧ x13 = y13 ∧ x14 = y14 ∧ x15 = y15 ∧ x16 = y16 := by cases h; exact ⟨rfl, rfl, rfl, rfl, rfl, rfl, rfl, rfl, rfl, rfl, rfl, rfl, rfl, rfl, rfl, rfl⟩
theorem LQ1_f0 {A1 R : Type} {S : (A1 → Option R) → A1 → Option R} {r : R} (M : Nat → A1 → Prop) (hs : ∀ n : Nat, ∀ ih : A1 → Option R, (∀ a1, ih a1 = some r → M n a1) → ∀ a1, S ih a1 = some r → M (n + 1) a1) : ∀ n a1, LQ1 S n a1 = some r → M n a1 := by
  intro n
  induction n with
  | zero => intro a1 h; cases h
  | succ n ihn => intro a1 h; exact hs n _ ihn a1 h
theorem LQ1_f1 {A1 R : Type} {K1 : Type} {S : K1 → (A1 → Option R) → A1 → Option R} {k1 : K1} {r : R} (M : Nat → A1 → Prop) (hs : ∀ n : Nat, ∀ q1 : K1, q1 = k1 → ∀ ih : A1 → Option R, (∀ a1, ih a1 = some r → M n a1) → ∀ a1, S q1 ih a1 = some r → M (n + 1) a1) : ∀ n a1, LQ1 (S k1) n a1 = some r → M n a1 := by
  intro n
  induction n with
  | zero => intro a1 h; cases h
  | succ n ihn => intro a1 h; exact hs n _ rfl _ ihn a1 h
theorem LQ1_f2 {A1 R : Type} {K1 K2 : Type} {S : K1 → K2 → (A1 → Option R) → A1 → Option R} {k1 : K1} {k2 : K2} {r : R} (M : Nat → A1 → Prop) (hs : ∀ n : Nat, ∀ q1 : K1, q1 = k1 → ∀ q2 : K2, q2 = k2 → ∀ ih : A1 → Option R, (∀ a1, ih a1 = some r → M n a1) → ∀ a1, S q1 q2 ih a1 = some r → M (n + 1) a1) : ∀ n a1, LQ1 (S k1 k2) n a1 = some r → M n a1 := by
  intro n
  induction n with
  | zero => intro a1 h; cases h
  | succ n ihn => intro a1 h; exact hs n _ rfl _ rfl _ ihn a1 h
theorem LQ2_f0 {A1 A2 R : Type} {S : (A1 → A2 → Option R) → A1 → A2 → Option R} {r : R} (M : Nat → A1 → A2 → Prop) (hs : ∀ n : Nat, ∀ ih : A1 → A2 → Option R, (∀ a1 a2, ih a1 a2 = some r → M n a1 a2) → ∀ a1 a2, S ih a1 a2 = some r → M (n + 1) a1 a2) : ∀ n a1 a2, LQ2 S n a1 a2 = some r → M n a1 a2 := by
  intro n
  induction n with
  | zero => intro a1 a2 h; cases h
  | succ n ihn => intro a1 a2 h; exact hs n _ ihn a1 a2 h
theorem LQ2_f1 {A1 A2 R : Type} {K1 : Type} {S : K1 → (A1 → A2 → Option R) → A1 → A2 → Option R} {k1 : K1} {r : R} (M : Nat → A1 → A2 → Prop) (hs : ∀ n : Nat, ∀ q1 : K1, q1 = k1 → ∀ ih : A1 → A2 → Option R, (∀ a1 a2, ih a1 a2 = some r → M n a1 a2) → ∀ a1 a2, S q1 ih a1 a2 = some r → M (n + 1) a1 a2) : ∀ n a1 a2, LQ2 (S k1) n a1 a2 = some r → M n a1 a2 := by
  intro n
  induction n with
  | zero => intro a1 a2 h; cases h
  | succ n ihn => intro a1 a2 h; exact hs n _ rfl _ ihn a1 a2 h
theorem LQ2_f2 {A1 A2 R : Type} {K1 K2 : Type} {S : K1 → K2 → (A1 → A2 → Option R) → A1 → A2 → Option R} {k1 : K1} {k2 : K2} {r : R} (M : Nat → A1 → A2 → Prop) (hs : ∀ n : Nat, ∀ q1 : K1, q1 = k1 → ∀ q2 : K2, q2 = k2 → ∀ ih : A1 → A2 → Option R, (∀ a1 a2, ih a1 a2 = some r → M n a1 a2) → ∀ a1 a2, S q1 q2 ih a1 a2 = some r → M (n + 1) a1 a2) : ∀ n a1 a2, LQ2 (S k1 k2) n a1 a2 = some r → M n a1 a2 := by
  intro n
  induction n with
  | zero => intro a1 a2 h; cases h
  | succ n ihn => intro a1 a2 h; exact hs n _ rfl _ rfl _ ihn a1 a2 h
theorem LQ3_f0 {A1 A2 A3 R : Type} {S : (A1 → A2 → A3 → Option R) → A1 → A2 → A3 → Option R} {r : R} (M : Nat → A1 → A2 → A3 → Prop) (hs : ∀ n : Nat, ∀ ih : A1 → A2 → A3 → Option R, (∀ a1 a2 a3, ih a1 a2 a3 = some r → M n a1 a2 a3) → ∀ a1 a2 a3, S ih a1 a2 a3 = some r → M (n + 1) a1 a2 a3) : ∀ n a1 a2 a3, LQ3 S n a1 a2 a3 = some r → M n a1 a2 a3 := by
  intro n
  induction n with
  | zero => intro a1 a2 a3 h; cases h
  | succ n ihn => intro a1 a2 a3 h; exact hs n _ ihn a1 a2 a3 h
theorem LQ3_f1 {A1 A2 A3 R : Type} {K1 : Type} {S : K1 → (A1 → A2 → A3 → Option R) → A1 → A2 → A3 → Option R} {k1 : K1} {r : R} (M : Nat → A1 → A2 → A3 → Prop) (hs : ∀ n : Nat, ∀ q1 : K1, q1 = k1 → ∀ ih : A1 → A2 → A3 → Option R, (∀ a1 a2 a3, ih a1 a2 a3 = some r → M n a1 a2 a3) → ∀ a1 a2 a3, S q1 ih a1 a2 a3 = some r → M (n + 1) a1 a2 a3) : ∀ n a1 a2 a3, LQ3 (S k1) n a1 a2 a3 = some r → M n a1 a2 a3 := by
  intro n
  induction n with
  | zero => intro a1 a2 a3 h; cases h
  | succ n ihn => intro a1 a2 a3 h; exact hs n _ rfl _ ihn a1 a2 a3 h
theorem LQ3_f2 {A1 A2 A3 R : Type} {K1 K2 : Type} {S : K1 → K2 → (A1 → A2 → A3 → Option R) → A1 → A2 → A3 → Option R} {k1 : K1} {k2 : K2} {r : R} (M : Nat → A1 → A2 → A3 → Prop) (hs : ∀ n : Nat, ∀ q1 : K1, q1 = k1 → ∀ q2 : K2, q2 = k2 → ∀ ih : A1 → A2 → A3 → Option R, (∀ a1 a2 a3, ih a1 a2 a3 = some r → M n a1 a2 a3) → ∀ a1 a2 a3, S q1 q2 ih a1 a2 a3 = some r → M (n + 1) a1 a2 a3) : ∀ n a1 a2 a3, LQ3 (S k1 k2) n a1 a2 a3 = some r → M n a1 a2 a3 := by
  intro n
  induction n with
  | zero => intro a1 a2 a3 h; cases h
  | succ n ihn => intro a1 a2 a3 h; exact hs n _ rfl _ rfl _ ihn a1 a2 a3 h
theorem LQ4_f0 {A1 A2 A3 A4 R : Type} {S : (A1 → A2 → A3 → A4 → Option R) → A1 → A2 → A3 → A4 → Option R} {r : R} (M : Nat → A1 → A2 → A3 → A4 → Prop) (hs : ∀ n : Nat, ∀ ih : A1 → A2 → A3 → A4 → Option R, (∀ a1 a2 a3 a4, ih a1 a2 a3 a4 = some r → M n a1 a2 a3 a4) → ∀ a1 a2 a3 a4, S ih a1 a2 a3 a4 = some r → M (n + 1) a1 a2 a3 a4) : ∀ n a1 a2 a3 a4, LQ4 S n a1 a2 a3 a4 = some r → M n a1 a2 a3 a4 := by
  intro n
  induction n with
  | zero => intro a1 a2 a3 a4 h; cases h
  | succ n ihn => intro a1 a2 a3 a4 h; exact hs n _ ihn a1 a2 a3 a4 h
theorem LQ4_f1 {A1 A2 A3 A4 R : Type} {K1 : Type} {S : K1 → (A1 → A2 → A3 → A4 → Option R) → A1 → A2 → A3 → A4 → Option R} {k1 : K1} {r : R} (M : Nat → A1 → A2 → A3 → A4 → Prop) (hs : ∀ n : Nat, ∀ q1 : K1, q1 = k1 → ∀ ih : A1 → A2 → A3 → A4 → Option R, (∀ a1 a2 a3 a4, ih a1 a2 a3 a4 = some r → M n a1 a2 a3 a4) → ∀ a1 a2 a3 a4, S q1 ih a1 a2 a3 a4 = some r → M (n + 1) a1 a2 a3 a4) : ∀ n a1 a2 a3 a4, LQ4 (S k1) n a1 a2 a3 a4 = some r → M n a1 a2 a3 a4 := by
  intro n
  induction n with
  | zero => intro a1 a2 a3 a4 h; cases h
  | succ n ihn => intro a1 a2 a3 a4 h; exact hs n _ rfl _ ihn a1 a2 a3 a4 h
theorem LQ4_f2 {A1 A2 A3 A4 R : Type} {K1 K2 : Type} {S : K1 → K2 → (A1 → A2 → A3 → A4 → Option R) → A1 → A2 → A3 → A4 → Option R} {k1 : K1} {k2 : K2} {r : R} (M : Nat → A1 → A2 → A3 → A4 → Prop) (hs : ∀ n : Nat, ∀ q1 : K1, q1 = k1 → ∀ q2 : K2, q2 = k2 → ∀ ih : A1 → A2 → A3 → A4 → Option R, (∀ a1 a2 a3 a4, ih a1 a2 a3 a4 = some r → M n a1 a2 a3 a4) → ∀ a1 a2 a3 a4, S q1 q2 ih a1 a2 a3 a4 = some r → M (n + 1) a1 a2 a3 a4) : ∀ n a1 a2 a3 a4, LQ4 (S k1 k2) n a1 a2 a3 a4 = some r → M n a1 a2 a3 a4 := by
  intro n
  induction n with
  | zero => intro a1 a2 a3 a4 h; cases h
  | succ n ihn => intro a1 a2 a3 a4 h; exact hs n _ rfl _ rfl _ ihn a1 a2 a3 a4 h
theorem LQ5_f0 {A1 A2 A3 A4 A5 R : Type} {S : (A1 → A2 → A3 → A4 → A5 → Option R) → A1 → A2 → A3 → A4 → A5 → Option R} {r : R} (M : Nat → A1 → A2 → A3 → A4 → A5 → Prop) (hs : ∀ n : Nat, ∀ ih : A1 → A2 → A3 → A4 → A5 → Option R, (∀ a1 a2 a3 a4 a5, ih a1 a2 a3 a4 a5 = some r → M n a1 a2 a3 a4 a5) → ∀ a1 a2 a3 a4 a5, S ih a1 a2 a3 a4 a5 = some r → M (n + 1) a1 a2 a3 a4 a5) : ∀ n a1 a2 a3 a4 a5, LQ5 S n a1 a2 a3 a4 a5 = some r → M n a1 a2 a3 a4 a5 := by
  intro n
  induction n with
  | zero => intro a1 a2 a3 a4 a5 h; cases h
  | succ n ihn => intro a1 a2 a3 a4 a5 h; exact hs n _ ihn a1 a2 a3 a4 a5 h
theorem LQ5_f1 {A1 A2 A3 A4 A5 R : Type} {K1 : Type} {S : K1 → (A1 → A2 → A3 → A4 → A5 → Option R) → A1 → A2 → A3 → A4 → A5 → Option R} {k1 : K1} {r : R} (M : Nat → A1 → A2 → A3 → A4 → A5 → Prop) (hs : ∀ n : Nat, ∀ q1 : K1, q1 = k1 → ∀ ih : A1 → A2 → A3 → A4 → A5 → Option R, (∀ a1 a2 a3 a4 a5, ih a1 a2 a3 a4 a5 = some r → M n a1 a2 a3 a4 a5) → ∀ a1 a2 a3 a4 a5, S q1 ih a1 a2 a3 a4 a5 = some r → M (n + 1) a1 a2 a3 a4 a5) : ∀ n a1 a2 a3 a4 a5, LQ5 (S k1) n a1 a2 a3 a4 a5 = some r → M n a1 a2 a3 a4 a5 := by
  intro n
  induction n with
  | zero => intro a1 a2 a3 a4 a5 h; cases h
  | succ n ihn => intro a1 a2 a3 a4 a5 h; exact hs n _ rfl _ ihn a1 a2 a3 a4 a5 h
theorem LQ5_f2 {A1 A2 A3 A4 A5 R : Type} {K1 K2 : Type} {S : K1 → K2 → (A1 → A2 → A3 → A4 → A5 → Option R) → A1 → A2 → A3 → A4 → A5 → Option R} {k1 : K1} {k2 : K2} {r : R} (M : Nat → A1 → A2 → A3 → A4 → A5 → Prop) (hs : ∀ n : Nat, ∀ q1 : K1, q1 = k1 → ∀ q2 : K2, q2 = k2 → ∀ ih : A1 → A2 → A3 → A4 → A5 → Option R, (∀ a1 a2 a3 a4 a5, ih a1 a2 a3 a4 a5 = some r → M n a1 a2 a3 a4 a5) → ∀ a1 a2 a3 a4 a5, S q1 q2 ih a1 a2 a3 a4 a5 = some r → M (n + 1) a1 a2 a3 a4 a5) : ∀ n a1 a2 a3 a4 a5, LQ5 (S k1 k2) n a1 a2 a3 a4 a5 = some r → M n a1 a2 a3 a4 a5 := by
  intro n
  induction n with
  | zero => intro a1 a2 a3 a4 a5 h; cases h
  | succ n ihn => intro a1 a2 a3 a4 a5 h; exact hs n _ rfl _ rfl _ ihn a1 a2 a3 a4 a5 h
theorem LQ6_f0 {A1 A2 A3 A4 A5 A6 R : Type} {S : (A1 → A2 → A3 → A4 → A5 → A6 → Option R) → A1 → A2 → A3 → A4 → A5 → A6 → Option R} {r : R} (M : Nat → A1 → A2 → A3 → A4 → A5 → A6 → Prop) (hs : ∀ n : Nat, ∀ ih : A1 → A2 → A3 → A4 → A5 → A6 → Option R, (∀ a1 a2 a3 a4 a5 a6, ih a1 a2 a3 a4 a5 a6 = some r → M n a1 a2 a3 a4 a5 a6) → ∀ a1 a2 a3 a4 a5 a6, S ih a1 a2 a3 a4 a5 a6 = some r → M (n + 1) a1 a2 a3 a4 a5 a6) : ∀ n a1 a2 a3 a4 a5 a6, LQ6 S n a1 a2 a3 a4 a5 a6 = some r → M n a1 a2 a3 a4 a5 a6 := by
  intro n
  induction n with
  | zero => intro a1 a2 a3 a4 a5 a6 h; cases h
  | succ n ihn => intro a1 a2 a3 a4 a5 a6 h; exact hs n _ ihn a1 a2 a3 a4 a5 a6 h
theorem LQ6_f1 {A1 A2 A3 A4 A5 A6 R : Type} {K1 : Type} {S : K1 → (A1 → A2 → A3 → A4 → A5 → A6 → Option R) → A1 → A2 → A3 → A4 → A5 → A6 → Option R} {k1 : K1} {r : R} (M : Nat → A1 → A2 → A3 → A4 → A5 → A6 → Prop) (hs : ∀ n : Nat, ∀ q1 : K1, q1 = k1 → ∀ ih : A1 → A2 → A3 → A4 → A5 → A6 → Option R, (∀ a1 a2 a3 a4 a5 a6, ih a1 a2 a3 a4 a5 a6 = some r → M n a1 a2 a3 a4 a5 a6) → ∀ a1 a2 a3 a4 a5 a6, S q1 ih a1 a2 a3 a4 a5 a6 = some r → M (n + 1) a1 a2 a3 a4 a5 a6) : ∀ n a1 a2 a3 a4 a5 a6, LQ6 (S k1) n a1 a2 a3 a4 a5 a6 = some r → M n a1 a2 a3 a4 a5 a6 := by
  intro n
  induction n with
  | zero => intro a1 a2 a3 a4 a5 a6 h; cases h
  | succ n ihn => intro a1 a2 a3 a4 a5 a6 h; exact hs n _ rfl _ ihn a1 a2 a3 a4 a5 a6 h
theorem LQ6_f2 {A1 A2 A3 A4 A5 A6 R : Type} {K1 K2 : Type} {S : K1 → K2 → (A1 → A2 → A3 → A4 → A5 → A6 → Option R) → A1 → A2 → A3 → A4 → A5 → A6 → Option R} {k1 : K1} {k2 : K2} {r : R} (M : Nat → A1 → A2 → A3 → A4 → A5 → A6 → Prop) (hs : ∀ n : Nat, ∀ q1 : K1, q1 = k1 → ∀ q2 : K2, q2 = k2 → ∀ ih : A1 → A2 → A3 → A4 → A5 → A6 → Option R, (∀ a1 a2 a3 a4 a5 a6, ih a1 a2 a3 a4 a5 a6 = some r → M n a1 a2 a3 a4 a5 a6) → ∀ a1 a2 a3 a4 a5 a6, S q1 q2 ih a1 a2 a3 a4 a5 a6 = some r → M (n + 1) a1 a2 a3 a4 a5 a6) : ∀ n a1 a2 a3 a4 a5 a6, LQ6 (S k1 k2) n a1 a2 a3 a4 a5 a6 = some r → M n a1 a2 a3 a4 a5 a6 := by
  intro n
  induction n with
  | zero => intro a1 a2 a3 a4 a5 a6 h; cases h
  | succ n ihn => intro a1 a2 a3 a4 a5 a6 h; exact hs n _ rfl _ rfl _ ihn a1 a2 a3 a4 a5 a6 h
theorem LQ7_f0 {A1 A2 A3 A4 A5 A6 A7 R : Type} {S : (A1 → A2 → A3 → A4 → A5 → A6 → A7 → Option R) → A1 → A2 → A3 → A4 → A5 → A6 → A7 → Option R} {r : R} (M : Nat → A1 → A2 → A3 → A4 → A5 → A6 → A7 → Prop) (hs : ∀ n : Nat, ∀ ih : A1 → A2 → A3 → A4 → A5 → A6 → A7 → Option R, (∀ a1 a2 a3 a4 a5 a6 a7, ih a1 a2 a3 a4 a5 a6 a7 = some r → M n a1 a2 a3 a4 a5 a6 a7) → ∀ a1 a2 a3 a4 a5 a6 a7, S ih a1 a2 a3 a4 a5 a6 a7 = some r → M (n + 1) a1 a2 a3 a4 a5 a6 a7) : ∀ n a1 a2 a3 a4 a5 a6 a7, LQ7 S n a1 a2 a3 a4 a5 a6 a7 = some r → M n a1 a2 a3 a4 a5 a6 a7 := by
  intro n
  induction n with
  | zero => intro a1 a2 a3 a4 a5 a6 a7 h; cases h
  | succ n ihn => intro a1 a2 a3 a4 a5 a6 a7 h; exact hs n _ ihn a1 a2 a3 a4 a5 a6 a7 h
theorem LQ7_f1 {A1 A2 A3 A4 A5 A6 A7 R : Type} {K1 : Type} {S : K1 → (A1 → A2 → A3 → A4 → A5 → A6 → A7 → Option R) → A1 → A2 → A3 → A4 → A5 → A6 → A7 → Option R} {k1 : K1} {r : R} (M : Nat → A1 → A2 → A3 → A4 → A5 → A6 → A7 → Prop) (hs : ∀ n : Nat, ∀ q1 : K1, q1 = k1 → ∀ ih : A1 → A2 → A3 → A4 → A5 → A6 → A7 → Option R, (∀ a1 a2 a3 a4 a5 a6 a7, ih a1 a2 a3 a4 a5 a6 a7 = some r → M n a1 a2 a3 a4 a5 a6 a7) → ∀ a1 a2 a3 a4 a5 a6 a7, S q1 ih a1 a2 a3 a4 a5 a6 a7 = some r → M (n + 1) a1 a2 a3 a4 a5 a6 a7) : ∀ n a1 a2 a3 a4 a5 a6 a7, LQ7 (S k1) n a1 a2 a3 a4 a5 a6 a7 = some r → M n a1 a2 a3 a4 a5 a6 a7 := by
  intro n
  induction n with
  | zero => intro a1 a2 a3 a4 a5 a6 a7 h; cases h
  | succ n ihn => intro a1 a2 a3 a4 a5 a6 a7 h; exact hs n _ rfl _ ihn a1 a2 a3 a4 a5 a6 a7 h
theorem LQ7_f2 {A1 A2 A3 A4 A5 A6 A7 R : Type} {K1 K2 : Type} {S : K1 → K2 → (A1 → A2 → A3 → A4 → A5 → A6 → A7 → Option R) → A1 → A2 → A3 → A4 → A5 → A6 → A7 → Option R} {k1 : K1} {k2 : K2} {r : R} (M : Nat → A1 → A2 → A3 → A4 → A5 → A6 → A7 → Prop) (hs : ∀ n : Nat, ∀ q1 : K1, q1 = k1 → ∀ q2 : K2, q2 = k2 → ∀ ih : A1 → A2 → A3 → A4 → A5 → A6 → A7 → Option R, (∀ a1 a2 a3 a4 a5 a6 a7, ih a1 a2 a3 a4 a5 a6 a7 = some r → M n a1 a2 a3 a4 a5 a6 a7) → ∀ a1 a2 a3 a4 a5 a6 a7, S q1 q2 ih a1 a2 a3 a4 a5 a6 a7 = some r → M (n + 1) a1 a2 a3 a4 a5 a6 a7) : ∀ n a1 a2 a3 a4 a5 a6 a7, LQ7 (S k1 k2) n a1 a2 a3 a4 a5 a6 a7 = some r → M n a1 a2 a3 a4 a5 a6 a7 := by
  intro n
  induction n with
  | zero => intro a1 a2 a3 a4 a5 a6 a7 h; cases h
  | succ n ihn => intro a1 a2 a3 a4 a5 a6 a7 h; exact hs n _ rfl _ rfl _ ihn a1 a2 a3 a4 a5 a6 a7 h
theorem LQ8_f0 {A1 A2 A3 A4 A5 A6 A7 A8 R : Type} {S : (A1 → A2 → A3 → A4 → A5 → A6 → A7 → A8 → Option R) → A1 → A2 → A3 → A4 → A5 → A6 → A7 → A8 → Option R} {r : R} (M : Nat → A1 → A2 → A3 → A4 → A5 → A6 → A7 → A8 → Prop) (hs : ∀ n : Nat, ∀ ih : A1 → A2 → A3 → A4 → A5 → A6 → A7 → A8 → Option R, (∀ a1 a2 a3 a4 a5 a6 a7 a8, ih a1 a2 a3 a4 a5 a6 a7 a8 = some r → M n a1 a2 a3 a4 a5 a6 a7 a8) → ∀ a1 a2 a3 a4 a5 a6 a7 a8, S ih a1 a2 a3 a4 a5 a6 a7 a8 = some r → M (n + 1) a1 a2 a3 a4 a5 a6 a7 a8) : ∀ n a1 a2 a3 a4 a5 a6 a7 a8, LQ8 S n a1 a2 a3 a4 a5 a6 a7 a8 = some r → M n a1 a2 a3 a4 a5 a6 a7 a8 := by
  intro n
  induction n with
  | zero => intro a1 a2 a3 a4 a5 a6 a7 a8 h; cases h
  | succ n ihn => intro a1 a2 a3 a4 a5 a6 a7 a8 h; exact hs n _ ihn a1 a2 a3 a4 a5 a6 a7 a8 h
theorem LQ8_f1 {A1 A2 A3 A4 A5 A6 A7 A8 R : Type} {K1 : Type} {S : K1 → (A1 → A2 → A3 → A4 → A5 → A6 → A7 → A8 → Option R) → A1 → A2 → A3 → A4 → A5 → A6 → A7 → A8 → Option R} {k1 : K1} {r : R} (M : Nat → A1 → A2 → A3 → A4 → A5 → A6 → A7 → A8 → Prop) (hs : ∀ n : Nat, ∀ q1 : K1, q1 = k1 → ∀ ih : A1 → A2 → A3 → A4 → A5 → A6 → A7 → A8 → Option R, (∀ a1 a2 a3 a4 a5 a6 a7 a8, ih a1 a2 a3 a4 a5 a6 a7 a8 = some r → M n a1 a2 a3 a4 a5 a6 a7 a8) → ∀ a1 a2 a3 a4 a5 a6 a7 a8, S q1 ih a1 a2 a3 a4 a5 a6 a7 a8 = some r → M (n + 1) a1 a2 a3 a4 a5 a6 a7 a8) : ∀ n a1 a2 a3 a4 a5 a6 a7 a8, LQ8 (S k1) n a1 a2 a3 a4 a5 a6 a7 a8 = some r → M n a1 a2 a3 a4 a5 a6 a7 a8 := by
  intro n
  induction n with
  | zero => intro a1 a2 a3 a4 a5 a6 a7 a8 h; cases h
  | succ n ihn => intro a1 a2 a3 a4 a5 a6 a7 a8 h; exact hs n _ rfl _ ihn a1 a2 a3 a4 a5 a6 a7 a8 h
theorem LQ8_f2 {A1 A2 A3 A4 A5 A6 A7 A8 R : Type} {K1 K2 : Type} {S : K1 → K2 → (A1 → A2 → A3 → A4 → A5 → A6 → A7 → A8 → Option R) → A1 → A2 → A3 → A4 → A5 → A6 → A7 → A8 → Option R} {k1 : K1} {k2 : K2} {r : R} (M : Nat → A1 → A2 → A3 → A4 → A5 → A6 → A7 → A8 → Prop) (hs : ∀ n : Nat, ∀ q1 : K1, q1 = k1 → ∀ q2 : K2, q2 = k2 → ∀ ih : A1 → A2 → A3 → A4 → A5 → A6 → A7 → A8 → Option R, (∀ a1 a2 a3 a4 a5 a6 a7 a8, ih a1 a2 a3 a4 a5 a6 a7 a8 = some r → M n a1 a2 a3 a4 a5 a6 a7 a8) → ∀ a1 a2 a3 a4 a5 a6 a7 a8, S q1 q2 ih a1 a2 a3 a4 a5 a6 a7 a8 = some r → M (n + 1) a1 a2 a3 a4 a5 a6 a7 a8) : ∀ n a1 a2 a3 a4 a5 a6 a7 a8, LQ8 (S k1 k2) n a1 a2 a3 a4 a5 a6 a7 a8 = some r → M n a1 a2 a3 a4 a5 a6 a7 a8 := by
  intro n
  induction n with
  | zero => intro a1 a2 a3 a4 a5 a6 a7 a8 h; cases h
  | succ n ihn => intro a1 a2 a3 a4 a5 a6 a7 a8 h; exact hs n _ rfl _ rfl _ ihn a1 a2 a3 a4 a5 a6 a7 a8 h
theorem nwL_on : ∀ w ∈ nwL, w.onTables = true := by decide +kernel
theorem nwL_k : ∀ w ∈ nwL, (∃ (a : String) (i : Nat) (b n d h : String), w = .fieldLinkNest a i b n d h) ∨ (∃ (a : String) (i : Nat) (x : MethodName) (h : String), w = .methodLinkNest a i x h) := by
  unfold nwL
  simp only [List.mem_cons, List.not_mem_nil, or_false, forall_eq_or_imp, forall_eq]
  refine ⟨?_, ?_, ?_, ?_, ?_, ?_, ?_, ?_, ?_, ?_, ?_, ?_, ?_⟩ <;> first | exact Or.inl ⟨_, _, _, _, _, _, rfl⟩ | exact Or.inr ⟨_, _, _, _, rfl⟩
noncomputable def NW (U : State) : Prop := ∀ w ∈ nwL, va_Nw w U
theorem NW.same {u U : State} (h : u.vm = U.vm) (q : NW u) : NW U := fun w hw => va_Nw.same (nwL_on w hw) h (q w hw)
theorem NW.warm {s U : State} (hW : s.WarmedH U.vm) (q : NW s) : NW U := fun w hw => by
  have h := q w hw
  rcases nwL_k w hw with ⟨a, i, b, n, d, hh, rfl⟩ | ⟨a, i, x, hh, rfl⟩
  · exact va_Nw.warmF hW h
  · exact va_Nw.warmM hW h
theorem NW.calling {U : State} {g : JFrame} {mk : MethodId} {a : Array Value} (q : NW U) : NW (U.calling g mk a) := NW.same (u := U) rfl q
theorem NW.use {w : Cond} {s : State} {A : Array Value} (q : NW s) (hw : w ∈ nwL) : w.before A s = true := va_Nw.use (nwL_on w hw) (q w hw)
/-- the start of a method that reads: its world, the classes, the nest's words -/
noncomputable def wPK (D : va_G) (tys : List (ClassId × FieldType)) (ws : va_W) (U : State) : Prop := va_P D vwCl ws U.heap ∧ va_K D vwCl tys U ∧ NW U
/-- the start of a method that writes -/
noncomputable def wPD (D : va_G) (tys : List (ClassId × FieldType)) (ws : va_W) (sz : Nat) (U : State) : Prop := U.heap.size = sz ∧ va_P D vwCl ws U.heap ∧ va_K D vwCl tys U ∧ va_D (fun _ => True) ws ∧ NW U
/-- the end of a method that writes -/
noncomputable def wQD (D : va_G) (ws w1 : va_W) (sz : Nat) (t : State) : Prop := va_P D vwCl w1 t.heap ∧ va_D (va_A ws sz) w1
theorem wPK.calling {D : va_G} {tys : List (ClassId × FieldType)} {ws : va_W} {U : State} {g : JFrame} {mk : MethodId} {a : Array Value} (q : wPK D tys ws U) : wPK D tys ws (U.calling g mk a) := ⟨q.1, va_K.moved (u := U) (U := U.calling g mk a) (Vm.Alike.refl U.vm) q.2.1, q.2.2.calling⟩
theorem wPD.calling {D : va_G} {tys : List (ClassId × FieldType)} {ws : va_W} {sz : Nat} {U : State} {g : JFrame} {mk : MethodId} {a : Array Value} (q : wPD D tys ws sz U) : wPD D tys ws sz (U.calling g mk a) := ⟨q.1, q.2.1, va_K.moved (u := U) (U := U.calling g mk a) (Vm.Alike.refl U.vm) q.2.2.1, q.2.2.2.1, q.2.2.2.2.calling⟩
theorem bl_NW {av : List Value} : FrameBlind (va_Pc av NW) := fun _ _ _ _ q => ⟨q.1, q.2.calling⟩
theorem bl_PK {av : List Value} {D : va_G} {tys : List (ClassId × FieldType)} {ws : va_W} : FrameBlind (va_Pc av (wPK D tys ws)) := fun _ _ _ _ q => ⟨q.1, q.2.calling⟩
theorem bl_PD {av : List Value} {D : va_G} {tys : List (ClassId × FieldType)} {ws : va_W} {sz : Nat} : FrameBlind (va_Pc av (wPD D tys ws sz)) := fun _ _ _ _ q => ⟨q.1, q.2.calling⟩
theorem no_q {P : Loc → Prop} : ∀ q ∈ ([] : List Loc), P q := fun q h => absurd h List.not_mem_nil
section HC
variable {p : Program} {l : Launch} {e : Env} {R : Room} {s : State} {m : MethodId} {args : Array Value} {below : List Frame} {meth : Method} {c : Code} {H : Heap} {locs : List Loc} {cells slots : Nat} {Q : State → Prop}
variable {y : MethodName} {bytes cc : ByteArray} {maxL nL n index pc mc ms : Nat} {ret : Option FieldType} {ws Ts : List Cond} {rm : Room} {own C host : String} {b : Nat} {As rest st : List Value} {ls : Array Slot} {r : Value} {A A1 : Nat → Prop} {H0 : Heap} {D : va_G} {tys tyc : List (ClassId × FieldType)} {ww wc wr w1 : va_W} {free : Addr → Prop}
theorem va_runC {g : JFrame} {Qa : State → Outcome → State → Prop} (hr : va_Run p l e R s m args below meth c H locs cells slots mc ms g rest Qa free) : CallRun p l e R s m args below meth c H locs cells slots mc ms g rest Qa free := fun T hT X => by
  obtain ⟨v, st0, t, T', L, h0, X', hL, e1, -, hq, stt⟩ := hr T hT X
  exact ⟨v, st0, t, T', L, h0, X', hL, e1, hq, stt⟩
/-- a static method of numbers alone -/
theorem pz_callS (S : CallFix p m c cc nL s args Ts own) (hM : Met l y ws rm (va_Pc As NW) (k2_QcV r) 0 0 (fun _ => False)) (cw : CallB R s args own index y bytes maxL ret ws rm 0 0 n ∧ (Cond.static y).before args s = true) (hnw : NW s) (hn : As.length = n) (hsize : ls.size = nL) (hstack : st = As.reverse ++ rest) (hW : (rest.map fun v => v.category).sum ≤ 8) (hdg : decode cc pc = .ok (.invokestatic index, 3)) (hf : cells ≤ R.cells ∧ slots ≤ R.slots)
    (k : W p l e R s m args below meth c H locs cells slots Q (F0 m (pc + 3) ls (r :: rest))) : W p l e R s m args below meth c H locs cells slots Q (F0 m pc ls st) :=
  W.callV (W.runS S hM cw ⟨bl_NW, fun U _ hW => ⟨rfl, hnw.warm hW⟩⟩ rfl hn hsize hstack (lv_room hW) hdg hf) k
theorem pz_callSN (S : CallFix p m c cc nL s args Ts own) (hM : Met l y ws rm (va_Pc As NW) (k2_QcV r) 0 0 (fun _ => False)) (cw : va_CN R s args own index y host bytes maxL ret ws rm 0 0 n ∧ (Cond.static y).before args s = true ∧ True) (hnw : NW s) (hn : As.length = n) (hsize : ls.size = nL) (hstack : st = As.reverse ++ rest) (hW : (rest.map fun v => v.category).sum ≤ 8) (hdg : decode cc pc = .ok (.invokestatic index, 3)) (hf : cells ≤ R.cells ∧ slots ≤ R.slots)
    (k : W p l e R s m args below meth c H locs cells slots Q (F0 m (pc + 3) ls (r :: rest))) : W p l e R s m args below meth c H locs cells slots Q (F0 m pc ls st) :=
  W.callV (va_runC (va_runSN S hM cw ⟨bl_NW, fun U _ hW => ⟨rfl, hnw.warm hW⟩⟩ rfl hn hsize hstack (lv_room hW) hdg hf)) k
/-- a static method that reads a world -/
theorem rd_callS (S : CallFix p m c cc nL s args Ts own) (hM : Met l y ws rm (va_Pc As (wPK D tyc wc)) (k2_QcV r) 0 0 (fun _ => False)) (cw : CallB R s args own index y bytes maxL ret ws rm 0 0 n ∧ (Cond.static y).before args s = true) (hnw : NW s) (hPc : va_P D vwCl wc H) (hKc : va_K D vwCl tyc s) (hn : As.length = n) (hsize : ls.size = nL) (hstack : st = As.reverse ++ rest) (hW : (rest.map fun v => v.category).sum ≤ 8) (hdg : decode cc pc = .ok (.invokestatic index, 3)) (hf : cells ≤ R.cells ∧ slots ≤ R.slots)
    (k : W p l e R s m args below meth c H locs cells slots Q (F0 m (pc + 3) ls (r :: rest))) : W p l e R s m args below meth c H locs cells slots Q (F0 m pc ls st) :=
  W.callV (W.runS S hM cw ⟨bl_PK, fun U hU hW => ⟨rfl, by rw [hU]; exact hPc, va_K.moved hW.alike hKc, hnw.warm hW⟩⟩ rfl hn hsize hstack (lv_room hW) hdg hf) k
/-- a method of an object that reads a world -/
theorem rd_callV (S : CallFix p m c cc nL s args Ts own) (hM : Met l y ws rm (va_Pc (.ref b :: As) (wPK D tyc wc)) (k2_QcV r) 0 0 (fun _ => False)) (cw : CallW R s args own C index y bytes maxL ret ws rm 0 0 n) (hnw : NW s) (hPc : va_P D vwCl wc H) (hKc : va_K D vwCl tyc s) (hrec : ∃ cell : Cell, H[b]? = some cell ∧ cell.vm.isStatics = false ∧ s.vm.findClass C = some cell.cls) (hn : As.length = n) (hsize : ls.size = nL) (hstack : st = As.reverse ++ .ref b :: rest) (hW : (rest.map fun v => v.category).sum ≤ 8) (hdg : decode cc pc = .ok (.invokevirtual index, 3)) (hf : cells ≤ R.cells ∧ slots ≤ R.slots)
    (k : W p l e R s m args below meth c H locs cells slots Q (F0 m (pc + 3) ls (r :: rest))) : W p l e R s m args below meth c H locs cells slots Q (F0 m pc ls st) :=
  W.callV (W.runV S hM cw ⟨bl_PK, hrec, fun U hU hW => ⟨rfl, by rw [hU]; exact hPc, va_K.moved hW.alike hKc, hnw.warm hW⟩⟩ rfl hn hsize hstack (lv_room hW) hdg hf) k
end HC
/-! methods that write: the start, the end, the calls -/
noncomputable def wQA (D : va_G) (w1 : va_W) (A : Nat → Prop) (t : State) : Prop := va_P D vwCl w1 t.heap ∧ va_D A w1
theorem wQA_of {D : va_G} {w1 : va_W} {A : Nat → Prop} {t : State} {H : Heap} (ht : t.heap = H) (hP : va_P D vwCl w1 H) (hD : va_D A w1) : wQA D w1 A t := ⟨by rw [ht]; exact hP, hD⟩
theorem wQA_kept {D : va_G} {w1 : va_W} {A : Nat → Prop} {t : State} {H : Heap} (hP : va_P D vwCl w1 H) (hD : va_D A w1) (hk : ∀ q : Nat, q < H.size → t.heap[q]? = H[q]?) : wQA D w1 A t := ⟨hP.kept (fun k q hq => hk q.1 (vx_lt hP hq)), hD⟩
theorem va_F_kept {A : Nat → Prop} {s t : State} {H : Heap} {locs : List Loc} (hS : va_S A s.heap H locs) (hz : H.size ≤ t.heap.size) (hk : ∀ q : Nat, q < H.size → t.heap[q]? = H[q]?) : va_F A s t := ⟨Nat.le_trans hS.1 hz, fun q h1 h2 => (hk q (Nat.lt_of_lt_of_le h1 hS.1)).trans (hS.2.1 q h1 h2)⟩
noncomputable def xcls (n : Nat) : String := if n = 1 then "java/lang/IndexOutOfBoundsException" else "java/lang/IllegalArgumentException"
/-- the texts that are thrown -/
noncomputable def strL : List (String × Nat × String) := [("Formwheel", 125, "both multipliers would go into the same form"), ("Formwheel", 301, "a form has a number from 0 to 5"), ("Formwheel", 304, "a place is from 0 to 39"), ("Formwheel", 306, "the roll has none with that number"), ("Formwheel", 308, "a number is out of its range")]
noncomputable def cstL : List Cond := [.castable "java/lang/IndexOutOfBoundsException" "java/lang/IndexOutOfBoundsException", .castable "java/lang/IllegalArgumentException" "java/lang/IllegalArgumentException", .declares ⟨"java/lang/RuntimeException", "<init>", "(Ljava/lang/String;)V"⟩, .declares ⟨"java/lang/Exception", "<init>", "(Ljava/lang/String;)V"⟩, .declares ⟨"java/lang/Throwable", "<init>", "(Ljava/lang/String;)V"⟩]
/-- what a throw needs: two statics of Throwable, two casts, the texts -/
noncomputable def EW (A : Nat → Prop) (U : State) : Prop := (vx_Zq Bundle.tN "UNASSIGNED_STACK" Bundle.steD A U U.heap ∧ vx_Zq Bundle.tN "SUPPRESSED_SENTINEL" Bundle.listD A U U.heap) ∧ (∀ w ∈ cstL, va_Nw w U) ∧ (∀ q ∈ strL, ∃ sa : Nat, vk_R q.1 q.2.1 q.2.2 sa U)
theorem EW.same {A : Nat → Prop} {u U : State} (hv : U.vm = u.vm) (hh : U.heap = u.heap) (h : EW A u) : EW A U := by
  have hal : u.vm.Alike U.vm := by rw [hv]; exact Vm.Alike.refl u.vm
  obtain ⟨⟨h1, h2⟩, h3, h4⟩ := h
  refine ⟨⟨?_, ?_⟩, fun w hw => ?_, fun q hq => ?_⟩
  · rw [hh]; exact vx_Zq.moved hal h1
  · rw [hh]; exact vx_Zq.moved hal h2
  · exact va_Nw.same (by revert w; decide +kernel) hv.symm (h3 w hw)
  · obtain ⟨sa, q⟩ := h4 q hq
    exact ⟨sa, vk_R.same hv q⟩
theorem EW.calling {A : Nat → Prop} {U : State} {g : JFrame} {mk : MethodId} {a : Array Value} (h : EW A U) : EW A (U.calling g mk a) := EW.same (u := U) rfl rfl h
theorem cst_warm {s U : State} (hW : s.WarmedH U.vm) : ∀ w ∈ cstL, va_Nw w s → va_Nw w U := by
  unfold cstL
  simp only [List.mem_cons, List.not_mem_nil, or_false, forall_eq_or_imp, forall_eq]
  exact ⟨fun h => va_Nw.warmC hW h, fun h => va_Nw.warmC hW h, fun h => va_Nw.warmD hW h, fun h => va_Nw.warmD hW h, fun h => va_Nw.warmD hW h⟩
/-- from the caller's own to the callee's start -/
theorem EW.call {A B : Nat → Prop} {s U : State} {H : Heap} {locs : List Loc} (h : EW A s) (hS : va_S A s.heap H locs) (hAB : ∀ q, B q → A q) (hU : U.heap = H) (hW : s.WarmedH U.vm) : EW B U := by
  obtain ⟨⟨h1, h2⟩, h3, h4⟩ := h
  refine ⟨⟨?_, ?_⟩, fun w hw => cst_warm hW w hw (h3 w hw), fun q hq => ?_⟩
  · rw [hU]; exact (vx_Zq.moved hW.alike (h1.kept hS.2.1)).narrow hAB
  · rw [hU]; exact (vx_Zq.moved hW.alike (h2.kept hS.2.1)).narrow hAB
  · obtain ⟨sa, q⟩ := h4 q hq
    exact ⟨sa, vk_R.warm hW q⟩
/-- the start of a method that may throw -/
noncomputable def wPX (D : va_G) (tys : List (ClassId × FieldType)) (ws : va_W) (sz : Nat) (U : State) : Prop := wPD D tys ws sz U ∧ EW (va_A ws sz) U
theorem bl_PX {av : List Value} {D : va_G} {tys : List (ClassId × FieldType)} {ws : va_W} {sz : Nat} : FrameBlind (va_Pc av (wPX D tys ws sz)) := fun _ _ _ _ q => ⟨q.1, q.2.1.calling, q.2.2.calling⟩
theorem pr_PD {D : va_G} {tyc : List (ClassId × FieldType)} {wc : va_W} {H : Heap} {A : Nat → Prop} {s : State} {av : List Value} (hPc : va_P D vwCl wc H) (hKc : va_K D vwCl tyc s) (hDc : va_D A wc) (hnw : NW s) : ∀ U : State, U.heap = H → s.WarmedH U.vm → va_Pc av (wPD D tyc wc H.size) av.toArray U := fun U hU hW => ⟨rfl, by rw [hU], by rw [hU]; exact hPc, va_K.moved hW.alike hKc, hDc.weaken (fun _ _ _ _ => trivial), hnw.warm hW⟩
theorem pr_PX {D : va_G} {tyc : List (ClassId × FieldType)} {wc : va_W} {H : Heap} {locs : List Loc} {A : Nat → Prop} {s : State} {av : List Value} (hPc : va_P D vwCl wc H) (hKc : va_K D vwCl tyc s) (hDc : va_D A wc) (hnw : NW s) (hE : EW A s) (hS : va_S A s.heap H locs) (hF : ∀ q, va_A wc H.size q → A q) : ∀ U : State, U.heap = H → s.WarmedH U.vm → va_Pc av (wPX D tyc wc H.size) av.toArray U := fun U hU hW => ⟨rfl, ⟨by rw [hU], by rw [hU]; exact hPc, va_K.moved hW.alike hKc, hDc.weaken (fun _ _ _ _ => trivial), hnw.warm hW⟩, hE.call hS hF hU hW⟩
section HC2
variable {p : Program} {l : Launch} {e : Env} {R : Room} {s : State} {m : MethodId} {args : Array Value} {below : List Frame} {meth : Method} {c : Code} {H : Heap} {locs : List Loc} {cells slots : Nat} {Q : State → Prop}
variable {pc mc ms xc : Nat} {rest st : List Value} {ls : Array Slot} {a : Array Value} {A : Nat → Prop} {H0 : Heap} {D : va_G} {ww wc wr w1 : va_W}
theorem hp_v (hr : va_Run p l e R s m args below meth c H locs cells slots mc ms (F0 m pc ls st) rest (va_Qv (fun (_ : Unit) => True) (fun _ t => wQA D w1 (va_A wc H.size) t) (va_A wc H.size) a) (va_A wc H.size)) (hP : va_P D vwCl ww H) (hD : va_D A ww) (hS : va_S A H0 H locs) (hA : ∀ q, H0.size ≤ q → A q) (isC isR : List Nat) (hC : isC.map (fun i => ww[i]?) = wc.map some) (hR : isR.map (fun i => ww[i]?) = wr.map some) (hn : va_nd isR = true) (hdis : ∀ i ∈ isR, i ∉ isC)
    (kk : ∀ (H1 : Heap) (locs1 : List Loc), va_P D vwCl (wr ++ w1) H1 → va_D A (wr ++ w1) → va_S A H0 H1 locs1 → W p l e R s m args below meth c H1 locs1 (cells + mc) (slots + ms) Q (F0 m (pc + 3) ls rest)) : W p l e R s m args below meth c H locs cells slots Q (F0 m pc ls st) := by
  have hF := va_free hD hS hA isC hC
  refine va_callv hr hS (fun q _ h => hF q h) hF (fun u t H1 locs1 ht _ _ hB _ hk1 hS1 => ?_)
  obtain ⟨hP1, hD1⟩ := hB
  rw [ht] at hP1
  obtain ⟨hP2, hD2⟩ := va_join hP hD isC isR hC hR hn hdis hk1 hF hP1 hD1
  exact kk H1 locs1 hP2 hD2 hS1
theorem hp_i {r0 : Int32} (hr : va_Run p l e R s m args below meth c H locs cells slots mc ms (F0 m pc ls st) rest (va_Qi (fun (r : Int32) (_ : Unit) => r = r0) (fun _ t => wQA D w1 (va_A wc H.size) t) (va_A wc H.size) a) (va_A wc H.size)) (hP : va_P D vwCl ww H) (hD : va_D A ww) (hS : va_S A H0 H locs) (hA : ∀ q, H0.size ≤ q → A q) (isC isR : List Nat) (hC : isC.map (fun i => ww[i]?) = wc.map some) (hR : isR.map (fun i => ww[i]?) = wr.map some) (hn : va_nd isR = true) (hdis : ∀ i ∈ isR, i ∉ isC)
    (kk : ∀ (H1 : Heap) (locs1 : List Loc), va_P D vwCl (wr ++ w1) H1 → va_D A (wr ++ w1) → va_S A H0 H1 locs1 → W p l e R s m args below meth c H1 locs1 (cells + mc) (slots + ms) Q (F0 m (pc + 3) ls (.int r0 :: rest))) : W p l e R s m args below meth c H locs cells slots Q (F0 m pc ls st) := by
  have hF := va_free hD hS hA isC hC
  refine va_calli hr hS (fun q _ h => hF q h) hF (fun r u t H1 locs1 ht _ hw hB _ hk1 hS1 => ?_)
  obtain ⟨hP1, hD1⟩ := hB
  rw [ht] at hP1
  subst hw
  obtain ⟨hP2, hD2⟩ := va_join hP hD isC isR hC hR hn hdis hk1 hF hP1 hD1
  exact kk H1 locs1 hP2 hD2 hS1
theorem hp_l {r0 : Int64} (hr : va_Run p l e R s m args below meth c H locs cells slots mc ms (F0 m pc ls st) rest (va_Ql (fun (r : Int64) (_ : Unit) => r = r0) (fun _ t => wQA D w1 (va_A wc H.size) t) (va_A wc H.size) a) (va_A wc H.size)) (hP : va_P D vwCl ww H) (hD : va_D A ww) (hS : va_S A H0 H locs) (hA : ∀ q, H0.size ≤ q → A q) (isC isR : List Nat) (hC : isC.map (fun i => ww[i]?) = wc.map some) (hR : isR.map (fun i => ww[i]?) = wr.map some) (hn : va_nd isR = true) (hdis : ∀ i ∈ isR, i ∉ isC)
    (kk : ∀ (H1 : Heap) (locs1 : List Loc), va_P D vwCl (wr ++ w1) H1 → va_D A (wr ++ w1) → va_S A H0 H1 locs1 → W p l e R s m args below meth c H1 locs1 (cells + mc) (slots + ms) Q (F0 m (pc + 3) ls (.long r0 :: rest))) : W p l e R s m args below meth c H locs cells slots Q (F0 m pc ls st) := by
  have hF := va_free hD hS hA isC hC
  refine va_calll hr hS (fun q _ h => hF q h) hF (fun r u t H1 locs1 ht _ hw hB _ hk1 hS1 => ?_)
  obtain ⟨hP1, hD1⟩ := hB
  rw [ht] at hP1
  subst hw
  obtain ⟨hP2, hD2⟩ := va_join hP hD isC isR hC hR hn hdis hk1 hF hP1 hD1
  exact kk H1 locs1 hP2 hD2 hS1
theorem hx_v (hr : vx_Run p l e R s m args below meth c H locs cells slots mc ms (F0 m pc ls st) rest (va_Qv (fun (_ : Unit) => xc = 0) (fun _ t => wQA D w1 (va_A wc H.size) t) (va_A wc H.size) a) (vx_X (fun (_ : Unit) => ¬ xc = 0) (fun E _ t => E = xcls xc ∧ wQA D w1 (va_A wc H.size) t) (va_A wc H.size)) (va_A wc H.size)) (hP : va_P D vwCl ww H) (hD : va_D A ww) (hS : va_S A H0 H locs) (hA : ∀ q, H0.size ≤ q → A q) (isC isR : List Nat) (hC : isC.map (fun i => ww[i]?) = wc.map some) (hR : isR.map (fun i => ww[i]?) = wr.map some) (hn : va_nd isR = true) (hdis : ∀ i ∈ isR, i ∉ isC)
    (kx : ∀ (E : String) (ce : Cell) (q9 : Addr) (H1 : Heap) (locs1 : List Loc), ¬ xc = 0 → E = xcls xc → va_P D vwCl (wr ++ w1) H1 → va_D A (wr ++ w1) → va_S A H0 H1 locs1 → H1[q9]? = some ce → ce.vm = .none → s.vm.findClass E = some ce.cls → vx_W p l e R s m args below meth c H1 locs1 (cells + mc) (slots + ms) Q (F0 m pc ls rest) q9)
    (kk : xc = 0 → ∀ (H1 : Heap) (locs1 : List Loc), va_P D vwCl (wr ++ w1) H1 → va_D A (wr ++ w1) → va_S A H0 H1 locs1 → W p l e R s m args below meth c H1 locs1 (cells + mc) (slots + ms) Q (F0 m (pc + 3) ls rest)) : W p l e R s m args below meth c H locs cells slots Q (F0 m pc ls st) := by
  have hF := va_free hD hS hA isC hC
  refine vx_callv hr hS (fun q _ h => hF q h) hF (fun q _ h => hF q h) (fun E ce q9 u t H1 locs1 ht _ hx hB _ hk1 hS1 hc hv hcl => ?_) (fun u t H1 locs1 ht _ hw hB _ hk1 hS1 => ?_)
  · obtain ⟨hE, hP1, hD1⟩ := hB
    rw [ht] at hP1
    obtain ⟨hP2, hD2⟩ := va_join hP hD isC isR hC hR hn hdis hk1 hF hP1 hD1
    exact kx E ce q9 H1 locs1 hx hE hP2 hD2 hS1 hc hv hcl
  · obtain ⟨hP1, hD1⟩ := hB
    rw [ht] at hP1
    obtain ⟨hP2, hD2⟩ := va_join hP hD isC isR hC hR hn hdis hk1 hF hP1 hD1
    exact kk hw H1 locs1 hP2 hD2 hS1
theorem hx_i {r0 : Int32} (hr : vx_Run p l e R s m args below meth c H locs cells slots mc ms (F0 m pc ls st) rest (va_Qi (fun (r : Int32) (_ : Unit) => xc = 0 ∧ r = r0) (fun _ t => wQA D w1 (va_A wc H.size) t) (va_A wc H.size) a) (vx_X (fun (_ : Unit) => ¬ xc = 0) (fun E _ t => E = xcls xc ∧ wQA D w1 (va_A wc H.size) t) (va_A wc H.size)) (va_A wc H.size)) (hP : va_P D vwCl ww H) (hD : va_D A ww) (hS : va_S A H0 H locs) (hA : ∀ q, H0.size ≤ q → A q) (isC isR : List Nat) (hC : isC.map (fun i => ww[i]?) = wc.map some) (hR : isR.map (fun i => ww[i]?) = wr.map some) (hn : va_nd isR = true) (hdis : ∀ i ∈ isR, i ∉ isC)
    (kx : ∀ (E : String) (ce : Cell) (q9 : Addr) (H1 : Heap) (locs1 : List Loc), ¬ xc = 0 → E = xcls xc → va_P D vwCl (wr ++ w1) H1 → va_D A (wr ++ w1) → va_S A H0 H1 locs1 → H1[q9]? = some ce → ce.vm = .none → s.vm.findClass E = some ce.cls → vx_W p l e R s m args below meth c H1 locs1 (cells + mc) (slots + ms) Q (F0 m pc ls rest) q9)
    (kk : xc = 0 → ∀ (H1 : Heap) (locs1 : List Loc), va_P D vwCl (wr ++ w1) H1 → va_D A (wr ++ w1) → va_S A H0 H1 locs1 → W p l e R s m args below meth c H1 locs1 (cells + mc) (slots + ms) Q (F0 m (pc + 3) ls (.int r0 :: rest))) : W p l e R s m args below meth c H locs cells slots Q (F0 m pc ls st) := by
  have hF := va_free hD hS hA isC hC
  refine vx_calli hr hS (fun q _ h => hF q h) hF (fun q _ h => hF q h) (fun E ce q9 u t H1 locs1 ht _ hx hB _ hk1 hS1 hc hv hcl => ?_) (fun r u t H1 locs1 ht _ hw hB _ hk1 hS1 => ?_)
  · obtain ⟨hE, hP1, hD1⟩ := hB
    rw [ht] at hP1
    obtain ⟨hP2, hD2⟩ := va_join hP hD isC isR hC hR hn hdis hk1 hF hP1 hD1
    exact kx E ce q9 H1 locs1 hx hE hP2 hD2 hS1 hc hv hcl
  · obtain ⟨hP1, hD1⟩ := hB
    rw [ht] at hP1
    obtain ⟨hw, hr0⟩ := hw
    subst hr0
    obtain ⟨hP2, hD2⟩ := va_join hP hD isC isR hC hR hn hdis hk1 hF hP1 hD1
    exact kk hw H1 locs1 hP2 hD2 hS1
end HC2
/-- the words of a throw of the one kind and of the other -/
theorem hat_1 {args : Array Value} {s : State} (h1 : ∀ w ∈ (vx_atS RX7 303 "java/lang/IndexOutOfBoundsException" ["java/lang/RuntimeException", "java/lang/Exception"]).filter goodWord, w.before args s = true) (hc : ∀ w ∈ cstL, va_Nw w s) : ∀ w ∈ vx_atS RX7 303 "java/lang/IndexOutOfBoundsException" ["java/lang/RuntimeException", "java/lang/Exception"], w.before args s = true :=
  vx_hat h1 (B := cstL) (by decide +kernel) (fun w hw => va_Nw.use (by revert w; decide +kernel) (hc w hw))
theorem hat_2 {args : Array Value} {s : State} (h1 : ∀ w ∈ (vx_atS RX7 127 "java/lang/IllegalArgumentException" ["java/lang/RuntimeException", "java/lang/Exception"]).filter goodWord, w.before args s = true) (hc : ∀ w ∈ cstL, va_Nw w s) : ∀ w ∈ vx_atS RX7 127 "java/lang/IllegalArgumentException" ["java/lang/RuntimeException", "java/lang/Exception"], w.before args s = true :=
  vx_hat h1 (B := cstL) (by decide +kernel) (fun w hw => va_Nw.use (by revert w; decide +kernel) (hc w hw))
theorem cy_eq {D : va_G} {c1 c2 : ClassId} {s : State} (h1 : va_K D vwCl [(c1, .long)] s) (h2 : va_K D vwCl ([(c1, .long)] ++ [(c2, .long)]) s) : c1 = c2 := by
  have a : s.vm.findClass ("[" ++ (FieldType.long).toString) = some c1 := (h1.2 0 _ rfl).2
  have b : s.vm.findClass ("[" ++ (FieldType.long).toString) = some c2 := (h2.2 1 _ rfl).2
  exact Option.some.inj (a.symm.trans b)
section HC3
variable {p : Program} {l : Launch} {e : Env} {R : Room} {s : State} {m : MethodId} {args : Array Value} {below : List Frame} {meth : Method} {c : Code} {H : Heap} {locs : List Loc} {cells slots : Nat} {Q : State → Prop}
variable {pc mc ms : Nat} {rest st : List Value} {ls : Array Slot} {a : Array Value} {A : Nat → Prop} {H0 : Heap} {D : va_G} {ww wc wr : va_W}
/-- a constructor: some cells come, by a tuple of their addresses -/
theorem hp_n {S : Type} {w1 : S → va_W} (hr : va_Run p l e R s m args below meth c H locs cells slots mc ms (F0 m pc ls st) rest (va_Qv (fun (_ : S) => True) (fun u t => wQA D (w1 u) (va_A wc H.size) t) (va_A wc H.size) a) (va_A wc H.size)) (hP : va_P D vwCl ww H) (hD : va_D A ww) (hS : va_S A H0 H locs) (hA : ∀ q, H0.size ≤ q → A q) (isC isR : List Nat) (hC : isC.map (fun i => ww[i]?) = wc.map some) (hR : isR.map (fun i => ww[i]?) = wr.map some) (hn : va_nd isR = true) (hdis : ∀ i ∈ isR, i ∉ isC)
    (kk : ∀ (u : S) (H1 : Heap) (locs1 : List Loc), va_P D vwCl (wr ++ w1 u) H1 → va_D A (wr ++ w1 u) → va_S A H0 H1 locs1 → W p l e R s m args below meth c H1 locs1 (cells + mc) (slots + ms) Q (F0 m (pc + 3) ls rest)) : W p l e R s m args below meth c H locs cells slots Q (F0 m pc ls st) := by
  have hF := va_free hD hS hA isC hC
  refine va_callv hr hS (fun q _ h => hF q h) hF (fun u t H1 locs1 ht _ _ hB _ hk1 hS1 => ?_)
  obtain ⟨hP1, hD1⟩ := hB
  rw [ht] at hP1
  obtain ⟨hP2, hD2⟩ := va_join hP hD isC isR hC hR hn hdis hk1 hF hP1 hD1
  exact kk u H1 locs1 hP2 hD2 hS1
end HC3

/-! texts: what the JDK's statics and the two written texts are -/
noncomputable def kLen : List Nat := [0, 1]
noncomputable def kByt : List (List Int32) := [[], [32]]
noncomputable def dig1 (j : Nat) : Int32 := Int32.ofNat (48 + j % 10)
noncomputable def dig2 (j : Nat) : Int32 := Int32.ofNat (48 + j / 10)
noncomputable def TW (adK adV : Nat → Nat) (A : Nat → Prop) (U : State) : Prop := va_Z "java/lang/String" "COMPACT_STRINGS" "Z" (.int 1) A U U.heap ∧ va_Nw (.castable "[B" "java/lang/Cloneable") U ∧ ((∃ t : Nat, va_Z "java/lang/Integer" "DigitOnes" "[B" (.ref t) A U U.heap ∧ va_T .byte t 100 (fun j => .int (dig1 j)) A U U.heap) ∧ (∃ t : Nat, va_Z "java/lang/Integer" "DigitTens" "[B" (.ref t) A U U.heap ∧ va_T .byte t 100 (fun j => .int (dig2 j)) A U U.heap)) ∧ vk_S 2 kLen kByt adK adV A U U.heap ∧ (vk_R "FormwheelModel" 144 "" (adK 0) U ∧ vk_R "FormwheelModel" 146 " " (adK 1) U)
theorem TW.same {adK adV : Nat → Nat} {A : Nat → Prop} {u U : State} (hv : U.vm = u.vm) (hh : U.heap = u.heap) (h : TW adK adV A u) : TW adK adV A U := by
  have hal : u.vm.Alike U.vm := by rw [hv]; exact Vm.Alike.refl u.vm
  obtain ⟨h1, h2, ⟨⟨t1, h3, h4⟩, ⟨t2, h5, h6⟩⟩, h7, h8, h9⟩ := h
  refine ⟨?_, va_Nw.same rfl hv.symm h2, ⟨⟨t1, ?_, ?_⟩, ⟨t2, ?_, ?_⟩⟩, ?_, vk_R.same hv h8, vk_R.same hv h9⟩
  · rw [hh]; exact va_Z.moved hal h1
  · rw [hh]; exact va_Z.moved hal h3
  · rw [hh]; exact va_T.moved hal h4
  · rw [hh]; exact va_Z.moved hal h5
  · rw [hh]; exact va_T.moved hal h6
  · rw [hh]; exact vk_S.moved hal h7
theorem TW.calling {adK adV : Nat → Nat} {A : Nat → Prop} {U : State} {g : JFrame} {mk : MethodId} {a : Array Value} (h : TW adK adV A U) : TW adK adV A (U.calling g mk a) := TW.same (u := U) rfl rfl h
theorem TW.call {adK adV : Nat → Nat} {A B : Nat → Prop} {s U : State} {H : Heap} {locs : List Loc} (h : TW adK adV A s) (hS : va_S A s.heap H locs) (hAB : ∀ q, B q → A q) (hU : U.heap = H) (hW : s.WarmedH U.vm) : TW adK adV B U := by
  obtain ⟨h1, h2, ⟨⟨t1, h3, h4⟩, ⟨t2, h5, h6⟩⟩, h7, h8, h9⟩ := h
  refine ⟨?_, va_Nw.warmC hW h2, ⟨⟨t1, ?_, ?_⟩, ⟨t2, ?_, ?_⟩⟩, ?_, vk_R.warm hW h8, vk_R.warm hW h9⟩
  · rw [hU]; exact (va_Z.moved hW.alike (h1.kept hS.2.1)).narrow hAB
  · rw [hU]; exact (va_Z.moved hW.alike (h3.kept hS.2.1)).narrow hAB
  · rw [hU]; exact (va_T.moved hW.alike (h4.kept hS.2.1)).narrow hAB
  · rw [hU]; exact (va_Z.moved hW.alike (h5.kept hS.2.1)).narrow hAB
  · rw [hU]; exact (va_T.moved hW.alike (h6.kept hS.2.1)).narrow hAB
  · rw [hU]; exact (vk_S.moved hW.alike (h7.kept hS.2.1)).narrow hAB
noncomputable def wPKT (D : va_G) (tys : List (ClassId × FieldType)) (ws : va_W) (adK adV : Nat → Nat) (U : State) : Prop := wPK D tys ws U ∧ TW adK adV (fun _ => False) U
noncomputable def wPDT (D : va_G) (tys : List (ClassId × FieldType)) (ws : va_W) (adK adV : Nat → Nat) (sz : Nat) (U : State) : Prop := wPD D tys ws sz U ∧ TW adK adV (va_A ws sz) U
noncomputable def wPXT (D : va_G) (tys : List (ClassId × FieldType)) (ws : va_W) (adK adV : Nat → Nat) (sz : Nat) (U : State) : Prop := wPX D tys ws sz U ∧ TW adK adV (va_A ws sz) U
theorem bl_PKT {av : List Value} {D : va_G} {tys : List (ClassId × FieldType)} {ws : va_W} {adK adV : Nat → Nat} : FrameBlind (va_Pc av (wPKT D tys ws adK adV)) := fun _ _ _ _ q => ⟨q.1, q.2.1.calling, q.2.2.calling⟩
theorem bl_PDT {av : List Value} {D : va_G} {tys : List (ClassId × FieldType)} {ws : va_W} {adK adV : Nat → Nat} {sz : Nat} : FrameBlind (va_Pc av (wPDT D tys ws adK adV sz)) := fun _ _ _ _ q => ⟨q.1, q.2.1.calling, q.2.2.calling⟩
theorem bl_PXT {av : List Value} {D : va_G} {tys : List (ClassId × FieldType)} {ws : va_W} {adK adV : Nat → Nat} {sz : Nat} : FrameBlind (va_Pc av (wPXT D tys ws adK adV sz)) := fun _ _ _ _ q => ⟨q.1, ⟨q.2.1.1.calling, q.2.1.2.calling⟩, q.2.2.calling⟩
theorem pr_PK {D : va_G} {tyc : List (ClassId × FieldType)} {wc : va_W} {H : Heap} {s : State} {av : List Value} (hPc : va_P D vwCl wc H) (hKc : va_K D vwCl tyc s) (hnw : NW s) : ∀ U : State, U.heap = H → s.WarmedH U.vm → va_Pc av (wPK D tyc wc) av.toArray U := fun U hU hW => ⟨rfl, by rw [hU]; exact hPc, va_K.moved hW.alike hKc, hnw.warm hW⟩
theorem pr_PKT {D : va_G} {tyc : List (ClassId × FieldType)} {wc : va_W} {H : Heap} {locs : List Loc} {A : Nat → Prop} {s : State} {av : List Value} {adK adV : Nat → Nat} (hPc : va_P D vwCl wc H) (hKc : va_K D vwCl tyc s) (hnw : NW s) (hT : TW adK adV A s) (hS : va_S A s.heap H locs) : ∀ U : State, U.heap = H → s.WarmedH U.vm → va_Pc av (wPKT D tyc wc adK adV) av.toArray U := fun U hU hW => ⟨rfl, ⟨by rw [hU]; exact hPc, va_K.moved hW.alike hKc, hnw.warm hW⟩, hT.call hS (fun _ h => h.elim) hU hW⟩
theorem pr_PDT {D : va_G} {tyc : List (ClassId × FieldType)} {wc : va_W} {H : Heap} {locs : List Loc} {A : Nat → Prop} {s : State} {av : List Value} {adK adV : Nat → Nat} (hPc : va_P D vwCl wc H) (hKc : va_K D vwCl tyc s) (hDc : va_D A wc) (hnw : NW s) (hT : TW adK adV A s) (hS : va_S A s.heap H locs) (hF : ∀ q, va_A wc H.size q → A q) : ∀ U : State, U.heap = H → s.WarmedH U.vm → va_Pc av (wPDT D tyc wc adK adV H.size) av.toArray U := fun U hU hW => ⟨rfl, ⟨by rw [hU], by rw [hU]; exact hPc, va_K.moved hW.alike hKc, hDc.weaken (fun _ _ _ _ => trivial), hnw.warm hW⟩, hT.call hS hF hU hW⟩
theorem pr_PXT {D : va_G} {tyc : List (ClassId × FieldType)} {wc : va_W} {H : Heap} {locs : List Loc} {A : Nat → Prop} {s : State} {av : List Value} {adK adV : Nat → Nat} (hPc : va_P D vwCl wc H) (hKc : va_K D vwCl tyc s) (hDc : va_D A wc) (hnw : NW s) (hE : EW A s) (hT : TW adK adV A s) (hS : va_S A s.heap H locs) (hF : ∀ q, va_A wc H.size q → A q) : ∀ U : State, U.heap = H → s.WarmedH U.vm → va_Pc av (wPXT D tyc wc adK adV H.size) av.toArray U := fun U hU hW => ⟨rfl, ⟨⟨by rw [hU], by rw [hU]; exact hPc, va_K.moved hW.alike hKc, hDc.weaken (fun _ _ _ _ => trivial), hnw.warm hW⟩, hE.call hS hF hU hW⟩, hT.call hS hF hU hW⟩
theorem cyb_eq {D : va_G} {c1 c2 : ClassId} {t0 : ClassId × FieldType} {s : State} (h1 : va_K D vwCl [t0, (c1, .byte)] s) (h2 : va_K D vwCl ([t0, (c1, .byte)] ++ [(c2, .byte)]) s) : c1 = c2 := by
  have a : s.vm.findClass ("[" ++ (FieldType.byte).toString) = some c1 := (h1.2 1 _ rfl).2
  have b : s.vm.findClass ("[" ++ (FieldType.byte).toString) = some c2 := (h2.2 2 _ rfl).2
  exact Option.some.inj (a.symm.trans b)
theorem narrow_by0 : narrow .byte (.int 0) = .int 0 := rfl
theorem narrow_by1 : narrow .byte (.int 1) = .int 1 := rfl
noncomputable def zrb (v : Int32) : Option Int32 := if v = 0 ∨ v = 1 then some v else none
theorem zrb_h {v r : Int32} (h : zrb v = some r) : v = r ∧ narrow .byte (.int v) = .int v := by
  unfold zrb at h
  by_cases hc : v = 0 ∨ v = 1
  · rw [if_pos hc] at h
    refine ⟨Option.some.inj h, ?_⟩
    rcases hc with rfl | rfl
    · exact narrow_by0
    · exact narrow_by1
  · rw [if_neg hc] at h; cases h
theorem cl_fit {cA : ClassId} {n : Nat} {f : Nat → Int32} (h : ∀ i, i < n → fits .byte (.int (f i)) = true) : ∀ (i : Nat) (v : Value), (vp_cell cA (n, .inl f)).slots[i]? = some v → fits .byte v = true := by
  intro i v hv
  rw [vp_cell_i] at hv
  by_cases hi : i < n
  · rw [arrV_read _ _ hi] at hv
    cases hv
    exact h i hi
  · have : (arrV cA n (fun j => Value.int (f j))).slots.size ≤ i := by rw [arrV_size]; omega
    rw [Array.getElem?_eq_none this] at hv
    cases hv
section HC4
variable {p : Program} {l : Launch} {e : Env} {R : Room} {s : State} {m : MethodId} {args : Array Value} {below : List Frame} {meth : Method} {c : Code} {H : Heap} {locs : List Loc} {cells slots : Nat} {Q : State → Prop}
variable {y x : MethodName} {bytes cc : ByteArray} {maxL nL n index pc mc ms xc : Nat} {ret : Option FieldType} {ws Ts : List Cond} {rm : Room} {own C owner : String} {cC : ClassId} {b : Nat} {As rest st : List Value} {ls : Array Slot} {r : Value} {A : Nat → Prop} {H0 : Heap} {D : va_G} {ww wc wr : va_W} {a : Array Value} {Pc : Array Value → State → Prop}
theorem rg_callS (S : CallFix p m c cc nL s args Ts own) (hM : Met l y ws rm Pc (k2_QcV r) 0 0 (fun _ => False)) (cw : CallB R s args own index y bytes maxL ret ws rm 0 0 n ∧ (Cond.static y).before args s = true) (hp : PreS s H Pc As) (hn : As.length = n) (hsize : ls.size = nL) (hstack : st = As.reverse ++ rest) (hW : (rest.map fun v => v.category).sum ≤ 8) (hdg : decode cc pc = .ok (.invokestatic index, 3)) (hf : cells ≤ R.cells ∧ slots ≤ R.slots)
    (k : W p l e R s m args below meth c H locs cells slots Q (F0 m (pc + 3) ls (r :: rest))) : W p l e R s m args below meth c H locs cells slots Q (F0 m pc ls st) :=
  W.callV (W.runS S hM cw hp rfl hn hsize hstack (lv_room hW) hdg hf) k
theorem rg_callV (S : CallFix p m c cc nL s args Ts own) (hM : Met l y ws rm Pc (k2_QcV r) 0 0 (fun _ => False)) (cw : CallW R s args own C index y bytes maxL ret ws rm 0 0 n) (hp : PreV s H C b Pc As) (hn : As.length = n) (hsize : ls.size = nL) (hstack : st = As.reverse ++ .ref b :: rest) (hW : (rest.map fun v => v.category).sum ≤ 8) (hdg : decode cc pc = .ok (.invokevirtual index, 3)) (hf : cells ≤ R.cells ∧ slots ≤ R.slots)
    (k : W p l e R s m args below meth c H locs cells slots Q (F0 m (pc + 3) ls (r :: rest))) : W p l e R s m args below meth c H locs cells slots Q (F0 m pc ls st) :=
  W.callV (W.runV S hM cw hp rfl hn hsize hstack (lv_room hW) hdg hf) k
theorem rg_callU (S : CallFix p m c cc nL s args Ts own) (hM : Met l y ws rm Pc (k2_QcV r) 0 0 (fun _ => False)) (cw : va_CU R s args own C owner index x y bytes maxL ret ws rm 0 0 n) (hp : PreV s H C b Pc As) (hn : As.length = n) (hsize : ls.size = nL) (hstack : st = As.reverse ++ .ref b :: rest) (hW : (rest.map fun v => v.category).sum ≤ 8) (hdg : decode cc pc = .ok (.invokevirtual index, 3)) (hf : cells ≤ R.cells ∧ slots ≤ R.slots)
    (k : W p l e R s m args below meth c H locs cells slots Q (F0 m (pc + 3) ls (r :: rest))) : W p l e R s m args below meth c H locs cells slots Q (F0 m pc ls st) :=
  W.callV (va_runC (va_runU S hM cw hp rfl hn hsize hstack (lv_room hW) hdg hf)) k
theorem rg_callSU (hat : ClassAt s C cC) (S : CallFix p m c cc nL s args Ts own) (hM : Met l y ws rm Pc (k2_QcV r) 0 0 (fun _ => False)) (cw : va_CS R s args own index y bytes maxL ret ws rm 0 0 n) (hp : PreV s H C b Pc As) (hn : As.length = n) (hsize : ls.size = nL) (hstack : st = As.reverse ++ .ref b :: rest) (hW : (rest.map fun v => v.category).sum ≤ 8) (hdg : decode cc pc = .ok (.invokespecial index, 3)) (hf : cells ≤ R.cells ∧ slots ≤ R.slots)
    (k : W p l e R s m args below meth c H locs cells slots Q (F0 m (pc + 3) ls (r :: rest))) : W p l e R s m args below meth c H locs cells slots Q (F0 m pc ls st) :=
  W.callV (va_runC (va_runSU hat S hM cw hp rfl hn hsize hstack (lv_room hW) hdg hf)) k
/-- a method that answers its own object -/
theorem hp_t {S : Type} {r0 : Nat} {w1 : S → va_W} (hr : va_Run p l e R s m args below meth c H locs cells slots mc ms (F0 m pc ls st) rest (va_Qr (fun (_ : S) => True) (fun u r t => r = r0 ∧ wQA D (w1 u) (va_A wc H.size) t) (va_A wc H.size) a) (va_A wc H.size)) (hP : va_P D vwCl ww H) (hD : va_D A ww) (hS : va_S A H0 H locs) (hA : ∀ q, H0.size ≤ q → A q) (isC isR : List Nat) (hC : isC.map (fun i => ww[i]?) = wc.map some) (hR : isR.map (fun i => ww[i]?) = wr.map some) (hn : va_nd isR = true) (hdis : ∀ i ∈ isR, i ∉ isC)
    (kk : ∀ (u : S) (H1 : Heap) (locs1 : List Loc), va_P D vwCl (wr ++ w1 u) H1 → va_D A (wr ++ w1 u) → va_S A H0 H1 locs1 → W p l e R s m args below meth c H1 locs1 (cells + mc) (slots + ms) Q (F0 m (pc + 3) ls (.ref r0 :: rest))) : W p l e R s m args below meth c H locs cells slots Q (F0 m pc ls st) := by
  have hF := va_free hD hS hA isC hC
  refine va_callr hr hS (fun q _ h => hF q h) hF (fun u ra t H1 locs1 ht _ _ hB _ hk1 hS1 => ?_)
  obtain ⟨hra, hP1, hD1⟩ := hB
  rw [ht] at hP1
  subst hra
  obtain ⟨hP2, hD2⟩ := va_join hP hD isC isR hC hR hn hdis hk1 hF hP1 hD1
  exact kk u H1 locs1 hP2 hD2 hS1
/-- a method that answers some object -/
theorem hp_r {S : Type} {w1 : S → Nat → va_W} (hr : va_Run p l e R s m args below meth c H locs cells slots mc ms (F0 m pc ls st) rest (va_Qr (fun (_ : S) => True) (fun u r t => wQA D (w1 u r) (va_A wc H.size) t) (va_A wc H.size) a) (va_A wc H.size)) (hP : va_P D vwCl ww H) (hD : va_D A ww) (hS : va_S A H0 H locs) (hA : ∀ q, H0.size ≤ q → A q) (isC isR : List Nat) (hC : isC.map (fun i => ww[i]?) = wc.map some) (hR : isR.map (fun i => ww[i]?) = wr.map some) (hn : va_nd isR = true) (hdis : ∀ i ∈ isR, i ∉ isC)
    (kk : ∀ (u : S) (ra : Nat) (H1 : Heap) (locs1 : List Loc), va_P D vwCl (wr ++ w1 u ra) H1 → va_D A (wr ++ w1 u ra) → va_S A H0 H1 locs1 → W p l e R s m args below meth c H1 locs1 (cells + mc) (slots + ms) Q (F0 m (pc + 3) ls (.ref ra :: rest))) : W p l e R s m args below meth c H locs cells slots Q (F0 m pc ls st) := by
  have hF := va_free hD hS hA isC hC
  refine va_callr hr hS (fun q _ h => hF q h) hF (fun u ra t H1 locs1 ht _ _ hB _ hk1 hS1 => ?_)
  obtain ⟨hP1, hD1⟩ := hB
  rw [ht] at hP1
  obtain ⟨hP2, hD2⟩ := va_join hP hD isC isR hC hR hn hdis hk1 hF hP1 hD1
  exact kk u ra H1 locs1 hP2 hD2 hS1
end HC4
