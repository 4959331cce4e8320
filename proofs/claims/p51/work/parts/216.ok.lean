/-! the rules of ok: an answer is there, and it is so -/
noncomputable def ok {α : Type} (o : Option α) (Q : α → Prop) : Prop := ∃ r, o = some r ∧ Q r
theorem ok_s {α : Type} {r : α} {Q : α → Prop} (h : Q r) : ok (some r) Q := ⟨r, rfl, h⟩
theorem ok_w {α : Type} {o : Option α} {P Q : α → Prop} (h : ok o P) (hq : ∀ r, P r → Q r) : ok o Q := by
  obtain ⟨r, e, p⟩ := h
  exact ⟨r, e, hq r p⟩
theorem ok_e {α : Type} {o : Option α} {v : α} (h : o = some v) : ok o (fun r => r = v) := ⟨v, h, rfl⟩
theorem ok_v {α : Type} {o : Option α} {v : α} (h : ok o (fun r => r = v)) : o = some v := by
  obtain ⟨r, e, p⟩ := h
  rw [e, p]
theorem ok_b {α β : Type} {e : α} {k : α → Option β} {Q : β → Prop} (h : ok (k e) Q) : ok (bnd e k) Q := h
theorem ok_bx {α β : Type} {e : α} {k : α → Option β} {Q : β → Prop} (h : ∀ x, x = e → ok (k x) Q) : ok (bnd e k) Q := h e rfl
theorem ok_c {β : Type} {c : Prop} [Decidable c] {k : Option β} {Q : β → Prop} (hc : c) (h : ok k Q) : ok (chk c k) Q := by
  unfold chk
  rw [if_pos hc]
  exact h
theorem ok_i {β : Type} {c : Prop} [Decidable c] {a b : Option β} {Q : β → Prop} (h1 : c → ok a Q) (h2 : ¬ c → ok b Q) : ok (if c then a else b) Q := by
  by_cases hc : c
  · rw [if_pos hc]; exact h1 hc
  · rw [if_neg hc]; exact h2 hc
theorem ok_it {β : Type} {c : Prop} [Decidable c] {a b : Option β} {Q : β → Prop} (hc : c) (h1 : ok a Q) : ok (if c then a else b) Q := by
  rw [if_pos hc]; exact h1
theorem ok_if {β : Type} {c : Prop} [Decidable c] {a b : Option β} {Q : β → Prop} (hc : ¬ c) (h1 : ok b Q) : ok (if c then a else b) Q := by
  rw [if_neg hc]; exact h1
theorem ok_z {β : Type} {v : Int32} {k : Int32 → Option β} {Q : β → Prop} (hv : v = 0 ∨ v = 1) (h : ok (k v) Q) : ok (obn (zr v) k) Q := by
  unfold zr
  rw [if_pos hv]
  exact h
theorem ok_o {α β : Type} {o : Option α} {k : α → Option β} {P : α → Prop} {Q : β → Prop} (h : ok o P) (hk : ∀ r, P r → ok (k r) Q) : ok (obn o k) Q := by
  obtain ⟨r, e, p⟩ := h
  rw [e]
  exact hk r p
theorem ok_o2 {T1 T2 β : Type} {o : Option (T1 × T2)} {k : T1 → T2 → Option β} {P : T1 × T2 → Prop} {Q : β → Prop} (h : ok o P) (hk : ∀ a1 a2, P (a1, a2) → ok (k a1 a2) Q) : ok (obn2 o k) Q := by
  obtain ⟨⟨a1, a2⟩, e, p⟩ := h
  rw [e]
  exact hk a1 a2 p
theorem ok_o3 {T1 T2 T3 β : Type} {o : Option (T1 × T2 × T3)} {k : T1 → T2 → T3 → Option β} {P : T1 × T2 × T3 → Prop} {Q : β → Prop} (h : ok o P) (hk : ∀ a1 a2 a3, P (a1, a2, a3) → ok (k a1 a2 a3) Q) : ok (obn3 o k) Q := by
  obtain ⟨⟨a1, a2, a3⟩, e, p⟩ := h
  rw [e]
  exact hk a1 a2 a3 p
theorem ok_o4 {T1 T2 T3 T4 β : Type} {o : Option (T1 × T2 × T3 × T4)} {k : T1 → T2 → T3 → T4 → Option β} {P : T1 × T2 × T3 × T4 → Prop} {Q : β → Prop} (h : ok o P) (hk : ∀ a1 a2 a3 a4, P (a1, a2, a3, a4) → ok (k a1 a2 a3 a4) Q) : ok (obn4 o k) Q := by
  obtain ⟨⟨a1, a2, a3, a4⟩, e, p⟩ := h
  rw [e]
  exact hk a1 a2 a3 a4 p
theorem ok_o5 {T1 T2 T3 T4 T5 β : Type} {o : Option (T1 × T2 × T3 × T4 × T5)} {k : T1 → T2 → T3 → T4 → T5 → Option β} {P : T1 × T2 × T3 × T4 × T5 → Prop} {Q : β → Prop} (h : ok o P) (hk : ∀ a1 a2 a3 a4 a5, P (a1, a2, a3, a4, a5) → ok (k a1 a2 a3 a4 a5) Q) : ok (obn5 o k) Q := by
  obtain ⟨⟨a1, a2, a3, a4, a5⟩, e, p⟩ := h
  rw [e]
  exact hk a1 a2 a3 a4 a5 p
theorem ok_o6 {T1 T2 T3 T4 T5 T6 β : Type} {o : Option (T1 × T2 × T3 × T4 × T5 × T6)} {k : T1 → T2 → T3 → T4 → T5 → T6 → Option β} {P : T1 × T2 × T3 × T4 × T5 × T6 → Prop} {Q : β → Prop} (h : ok o P) (hk : ∀ a1 a2 a3 a4 a5 a6, P (a1, a2, a3, a4, a5, a6) → ok (k a1 a2 a3 a4 a5 a6) Q) : ok (obn6 o k) Q := by
  obtain ⟨⟨a1, a2, a3, a4, a5, a6⟩, e, p⟩ := h
  rw [e]
  exact hk a1 a2 a3 a4 a5 a6 p
theorem ok_o7 {T1 T2 T3 T4 T5 T6 T7 β : Type} {o : Option (T1 × T2 × T3 × T4 × T5 × T6 × T7)} {k : T1 → T2 → T3 → T4 → T5 → T6 → T7 → Option β} {P : T1 × T2 × T3 × T4 × T5 × T6 × T7 → Prop} {Q : β → Prop} (h : ok o P) (hk : ∀ a1 a2 a3 a4 a5 a6 a7, P (a1, a2, a3, a4, a5, a6, a7) → ok (k a1 a2 a3 a4 a5 a6 a7) Q) : ok (obn7 o k) Q := by
  obtain ⟨⟨a1, a2, a3, a4, a5, a6, a7⟩, e, p⟩ := h
  rw [e]
  exact hk a1 a2 a3 a4 a5 a6 a7 p
theorem ok_o8 {T1 T2 T3 T4 T5 T6 T7 T8 β : Type} {o : Option (T1 × T2 × T3 × T4 × T5 × T6 × T7 × T8)} {k : T1 → T2 → T3 → T4 → T5 → T6 → T7 → T8 → Option β} {P : T1 × T2 × T3 × T4 × T5 × T6 × T7 × T8 → Prop} {Q : β → Prop} (h : ok o P) (hk : ∀ a1 a2 a3 a4 a5 a6 a7 a8, P (a1, a2, a3, a4, a5, a6, a7, a8) → ok (k a1 a2 a3 a4 a5 a6 a7 a8) Q) : ok (obn8 o k) Q := by
  obtain ⟨⟨a1, a2, a3, a4, a5, a6, a7, a8⟩, e, p⟩ := h
  rw [e]
  exact hk a1 a2 a3 a4 a5 a6 a7 a8 p
theorem ok_o9 {T1 T2 T3 T4 T5 T6 T7 T8 T9 β : Type} {o : Option (T1 × T2 × T3 × T4 × T5 × T6 × T7 × T8 × T9)} {k : T1 → T2 → T3 → T4 → T5 → T6 → T7 → T8 → T9 → Option β} {P : T1 × T2 × T3 × T4 × T5 × T6 × T7 × T8 × T9 → Prop} {Q : β → Prop} (h : ok o P) (hk : ∀ a1 a2 a3 a4 a5 a6 a7 a8 a9, P (a1, a2, a3, a4, a5, a6, a7, a8, a9) → ok (k a1 a2 a3 a4 a5 a6 a7 a8 a9) Q) : ok (obn9 o k) Q := by
  obtain ⟨⟨a1, a2, a3, a4, a5, a6, a7, a8, a9⟩, e, p⟩ := h
  rw [e]
  exact hk a1 a2 a3 a4 a5 a6 a7 a8 a9 p
theorem ok_o10 {T1 T2 T3 T4 T5 T6 T7 T8 T9 T10 β : Type} {o : Option (T1 × T2 × T3 × T4 × T5 × T6 × T7 × T8 × T9 × T10)} {k : T1 → T2 → T3 → T4 → T5 → T6 → T7 → T8 → T9 → T10 → Option β} {P : T1 × T2 × T3 × T4 × T5 × T6 × T7 × T8 × T9 × T10 → Prop} {Q : β → Prop} (h : ok o P) (hk : ∀ a1 a2 a3 a4 a5 a6 a7 a8 a9 a10, P (a1, a2, a3, a4, a5, a6, a7, a8, a9, a10) → ok (k a1 a2 a3 a4 a5 a6 a7 a8 a9 a10) Q) : ok (obn10 o k) Q := by
  obtain ⟨⟨a1, a2, a3, a4, a5, a6, a7, a8, a9, a10⟩, e, p⟩ := h
  rw [e]
  exact hk a1 a2 a3 a4 a5 a6 a7 a8 a9 a10 p
theorem ok_o11 {T1 T2 T3 T4 T5 T6 T7 T8 T9 T10 T11 β : Type} {o : Option (T1 × T2 × T3 × T4 × T5 × T6 × T7 × T8 × T9 × T10 × T11)} {k : T1 → T2 → T3 → T4 → T5 → T6 → T7 → T8 → T9 → T10 → T11 → Option β} {P : T1 × T2 × T3 × T4 × T5 × T6 × T7 × T8 × T9 × T10 × T11 → Prop} {Q : β → Prop} (h : ok o P) (hk : ∀ a1 a2 a3 a4 a5 a6 a7 a8 a9 a10 a11, P (a1, a2, a3, a4, a5, a6, a7, a8, a9, a10, a11) → ok (k a1 a2 a3 a4 a5 a6 a7 a8 a9 a10 a11) Q) : ok (obn11 o k) Q := by
  obtain ⟨⟨a1, a2, a3, a4, a5, a6, a7, a8, a9, a10, a11⟩, e, p⟩ := h
  rw [e]
  exact hk a1 a2 a3 a4 a5 a6 a7 a8 a9 a10 a11 p
theorem ok_o12 {T1 T2 T3 T4 T5 T6 T7 T8 T9 T10 T11 T12 β : Type} {o : Option (T1 × T2 × T3 × T4 × T5 × T6 × T7 × T8 × T9 × T10 × T11 × T12)} {k : T1 → T2 → T3 → T4 → T5 → T6 → T7 → T8 → T9 → T10 → T11 → T12 → Option β} {P : T1 × T2 × T3 × T4 × T5 × T6 × T7 × T8 × T9 × T10 × T11 × T12 → Prop} {Q : β → Prop} (h : ok o P) (hk : ∀ a1 a2 a3 a4 a5 a6 a7 a8 a9 a10 a11 a12, P (a1, a2, a3, a4, a5, a6, a7, a8, a9, a10, a11, a12) → ok (k a1 a2 a3 a4 a5 a6 a7 a8 a9 a10 a11 a12) Q) : ok (obn12 o k) Q := by
  obtain ⟨⟨a1, a2, a3, a4, a5, a6, a7, a8, a9, a10, a11, a12⟩, e, p⟩ := h
  rw [e]
  exact hk a1 a2 a3 a4 a5 a6 a7 a8 a9 a10 a11 a12 p
theorem ok_o13 {T1 T2 T3 T4 T5 T6 T7 T8 T9 T10 T11 T12 T13 β : Type} {o : Option (T1 × T2 × T3 × T4 × T5 × T6 × T7 × T8 × T9 × T10 × T11 × T12 × T13)} {k : T1 → T2 → T3 → T4 → T5 → T6 → T7 → T8 → T9 → T10 → T11 → T12 → T13 → Option β} {P : T1 × T2 × T3 × T4 × T5 × T6 × T7 × T8 × T9 × T10 × T11 × T12 × T13 → Prop} {Q : β → Prop} (h : ok o P) (hk : ∀ a1 a2 a3 a4 a5 a6 a7 a8 a9 a10 a11 a12 a13, P (a1, a2, a3, a4, a5, a6, a7, a8, a9, a10, a11, a12, a13) → ok (k a1 a2 a3 a4 a5 a6 a7 a8 a9 a10 a11 a12 a13) Q) : ok (obn13 o k) Q := by
  obtain ⟨⟨a1, a2, a3, a4, a5, a6, a7, a8, a9, a10, a11, a12, a13⟩, e, p⟩ := h
  rw [e]
  exact hk a1 a2 a3 a4 a5 a6 a7 a8 a9 a10 a11 a12 a13 p
theorem ok_o14 {T1 T2 T3 T4 T5 T6 T7 T8 T9 T10 T11 T12 T13 T14 β : Type} {o : Option (T1 × T2 × T3 × T4 × T5 × T6 × T7 × T8 × T9 × T10 × T11 × T12 × T13 × T14)} {k : T1 → T2 → T3 → T4 → T5 → T6 → T7 → T8 → T9 → T10 → T11 → T12 → T13 → T14 → Option β} {P : T1 × T2 × T3 × T4 × T5 × T6 × T7 × T8 × T9 × T10 × T11 × T12 × T13 × T14 → Prop} {Q : β → Prop} (h : ok o P) (hk : ∀ a1 a2 a3 a4 a5 a6 a7 a8 a9 a10 a11 a12 a13 a14, P (a1, a2, a3, a4, a5, a6, a7, a8, a9, a10, a11, a12, a13, a14) → ok (k a1 a2 a3 a4 a5 a6 a7 a8 a9 a10 a11 a12 a13 a14) Q) : ok (obn14 o k) Q := by
  obtain ⟨⟨a1, a2, a3, a4, a5, a6, a7, a8, a9, a10, a11, a12, a13, a14⟩, e, p⟩ := h
  rw [e]
  exact hk a1 a2 a3 a4 a5 a6 a7 a8 a9 a10 a11 a12 a13 a14 p
theorem ok_o15 {T1 T2 T3 T4 T5 T6 T7 T8 T9 T10 T11 T12 T13 T14 T15 β : Type} {o : Option (T1 × T2 × T3 × T4 × T5 × T6 × T7 × T8 × T9 × T10 × T11 × T12 × T13 × T14 × T15)} {k : T1 → T2 → T3 → T4 → T5 → T6 → T7 → T8 → T9 → T10 → T11 → T12 → T13 → T14 → T15 → Option β} {P : T1 × T2 × T3 × T4 × T5 × T6 × T7 × T8 × T9 × T10 × T11 × T12 × T13 × T14 × T15 → Prop} {Q : β → Prop} (h : ok o P) (hk : ∀ a1 a2 a3 a4 a5 a6 a7 a8 a9 a10 a11 a12 a13 a14 a15, P (a1, a2, a3, a4, a5, a6, a7, a8, a9, a10, a11, a12, a13, a14, a15) → ok (k a1 a2 a3 a4 a5 a6 a7 a8 a9 a10 a11 a12 a13 a14 a15) Q) : ok (obn15 o k) Q := by
  obtain ⟨⟨a1, a2, a3, a4, a5, a6, a7, a8, a9, a10, a11, a12, a13, a14, a15⟩, e, p⟩ := h
  rw [e]
  exact hk a1 a2 a3 a4 a5 a6 a7 a8 a9 a10 a11 a12 a13 a14 a15 p
theorem ok_o16 {T1 T2 T3 T4 T5 T6 T7 T8 T9 T10 T11 T12 T13 T14 T15 T16 β : Type} {o : Option (T1 × T2 × T3 × T4 × T5 × T6 × T7 × T8 × T9 × T10 × T11 × T12 × T13 × T14 × T15 × T16)} {k : T1 → T2 → T3 → T4 → T5 → T6 → T7 → T8 → T9 → T10 → T11 → T12 → T13 → T14 → T15 → T16 → Option β} {P : T1 × T2 × T3 × T4 × T5 × T6 × T7 × T8 × T9 × T10 × T11 × T12 × T13 × T14 × T15 × T16 → Prop} {Q : β → Prop} (h : ok o P) (hk : ∀ a1 a2 a3 a4 a5 a6 a7 a8 a9 a10 a11 a12 a13 a14 a15 a16, P (a1, a2, a3, a4, a5, a6, a7, a8, a9, a10, a11, a12, a13, a14, a15, a16) → ok (k a1 a2 a3 a4 a5 a6 a7 a8 a9 a10 a11 a12 a13 a14 a15 a16) Q) : ok (obn16 o k) Q := by
  obtain ⟨⟨a1, a2, a3, a4, a5, a6, a7, a8, a9, a10, a11, a12, a13, a14, a15, a16⟩, e, p⟩ := h
  rw [e]
  exact hk a1 a2 a3 a4 a5 a6 a7 a8 a9 a10 a11 a12 a13 a14 a15 a16 p
theorem ok_L1 {A1 R : Type} {st : (A1 → Option R) → A1 → Option R} {Q : R → Prop} (I : A1 → Prop) (μ : A1 → Nat) (hs : ∀ ih a1, I a1 → (∀ b1, I b1 → μ b1 < μ a1 → ok (ih b1) Q) → ok (st ih a1) Q) : ∀ n a1, I a1 → μ a1 < n → ok (LQ1 st n a1) Q := by
  intro n
  induction n with
  | zero => intro a1 _ hm; exact absurd hm (Nat.not_lt_zero _)
  | succ n ih => intro a1 hI hm; exact hs (LQ1 st n) a1 hI (fun b1 hI' hm' => ih b1 hI' (by omega))
theorem ok_L2 {A1 A2 R : Type} {st : (A1 → A2 → Option R) → A1 → A2 → Option R} {Q : R → Prop} (I : A1 → A2 → Prop) (μ : A1 → A2 → Nat) (hs : ∀ ih a1 a2, I a1 a2 → (∀ b1 b2, I b1 b2 → μ b1 b2 < μ a1 a2 → ok (ih b1 b2) Q) → ok (st ih a1 a2) Q) : ∀ n a1 a2, I a1 a2 → μ a1 a2 < n → ok (LQ2 st n a1 a2) Q := by
  intro n
  induction n with
  | zero => intro a1 a2 _ hm; exact absurd hm (Nat.not_lt_zero _)
  | succ n ih => intro a1 a2 hI hm; exact hs (LQ2 st n) a1 a2 hI (fun b1 b2 hI' hm' => ih b1 b2 hI' (by omega))
theorem ok_L3 {A1 A2 A3 R : Type} {st : (A1 → A2 → A3 → Option R) → A1 → A2 → A3 → Option R} {Q : R → Prop} (I : A1 → A2 → A3 → Prop) (μ : A1 → A2 → A3 → Nat) (hs : ∀ ih a1 a2 a3, I a1 a2 a3 → (∀ b1 b2 b3, I b1 b2 b3 → μ b1 b2 b3 < μ a1 a2 a3 → ok (ih b1 b2 b3) Q) → ok (st ih a1 a2 a3) Q) : ∀ n a1 a2 a3, I a1 a2 a3 → μ a1 a2 a3 < n → ok (LQ3 st n a1 a2 a3) Q := by
  intro n
  induction n with
  | zero => intro a1 a2 a3 _ hm; exact absurd hm (Nat.not_lt_zero _)
  | succ n ih => intro a1 a2 a3 hI hm; exact hs (LQ3 st n) a1 a2 a3 hI (fun b1 b2 b3 hI' hm' => ih b1 b2 b3 hI' (by omega))
theorem ok_L4 {A1 A2 A3 A4 R : Type} {st : (A1 → A2 → A3 → A4 → Option R) → A1 → A2 → A3 → A4 → Option R} {Q : R → Prop} (I : A1 → A2 → A3 → A4 → Prop) (μ : A1 → A2 → A3 → A4 → Nat) (hs : ∀ ih a1 a2 a3 a4, I a1 a2 a3 a4 → (∀ b1 b2 b3 b4, I b1 b2 b3 b4 → μ b1 b2 b3 b4 < μ a1 a2 a3 a4 → ok (ih b1 b2 b3 b4) Q) → ok (st ih a1 a2 a3 a4) Q) : ∀ n a1 a2 a3 a4, I a1 a2 a3 a4 → μ a1 a2 a3 a4 < n → ok (LQ4 st n a1 a2 a3 a4) Q := by
  intro n
  induction n with
  | zero => intro a1 a2 a3 a4 _ hm; exact absurd hm (Nat.not_lt_zero _)
  | succ n ih => intro a1 a2 a3 a4 hI hm; exact hs (LQ4 st n) a1 a2 a3 a4 hI (fun b1 b2 b3 b4 hI' hm' => ih b1 b2 b3 b4 hI' (by omega))
theorem ok_L5 {A1 A2 A3 A4 A5 R : Type} {st : (A1 → A2 → A3 → A4 → A5 → Option R) → A1 → A2 → A3 → A4 → A5 → Option R} {Q : R → Prop} (I : A1 → A2 → A3 → A4 → A5 → Prop) (μ : A1 → A2 → A3 → A4 → A5 → Nat) (hs : ∀ ih a1 a2 a3 a4 a5, I a1 a2 a3 a4 a5 → (∀ b1 b2 b3 b4 b5, I b1 b2 b3 b4 b5 → μ b1 b2 b3 b4 b5 < μ a1 a2 a3 a4 a5 → ok (ih b1 b2 b3 b4 b5) Q) → ok (st ih a1 a2 a3 a4 a5) Q) : ∀ n a1 a2 a3 a4 a5, I a1 a2 a3 a4 a5 → μ a1 a2 a3 a4 a5 < n → ok (LQ5 st n a1 a2 a3 a4 a5) Q := by
  intro n
  induction n with
  | zero => intro a1 a2 a3 a4 a5 _ hm; exact absurd hm (Nat.not_lt_zero _)
  | succ n ih => intro a1 a2 a3 a4 a5 hI hm; exact hs (LQ5 st n) a1 a2 a3 a4 a5 hI (fun b1 b2 b3 b4 b5 hI' hm' => ih b1 b2 b3 b4 b5 hI' (by omega))
theorem ok_L6 {A1 A2 A3 A4 A5 A6 R : Type} {st : (A1 → A2 → A3 → A4 → A5 → A6 → Option R) → A1 → A2 → A3 → A4 → A5 → A6 → Option R} {Q : R → Prop} (I : A1 → A2 → A3 → A4 → A5 → A6 → Prop) (μ : A1 → A2 → A3 → A4 → A5 → A6 → Nat) (hs : ∀ ih a1 a2 a3 a4 a5 a6, I a1 a2 a3 a4 a5 a6 → (∀ b1 b2 b3 b4 b5 b6, I b1 b2 b3 b4 b5 b6 → μ b1 b2 b3 b4 b5 b6 < μ a1 a2 a3 a4 a5 a6 → ok (ih b1 b2 b3 b4 b5 b6) Q) → ok (st ih a1 a2 a3 a4 a5 a6) Q) : ∀ n a1 a2 a3 a4 a5 a6, I a1 a2 a3 a4 a5 a6 → μ a1 a2 a3 a4 a5 a6 < n → ok (LQ6 st n a1 a2 a3 a4 a5 a6) Q := by
  intro n
  induction n with
  | zero => intro a1 a2 a3 a4 a5 a6 _ hm; exact absurd hm (Nat.not_lt_zero _)
  | succ n ih => intro a1 a2 a3 a4 a5 a6 hI hm; exact hs (LQ6 st n) a1 a2 a3 a4 a5 a6 hI (fun b1 b2 b3 b4 b5 b6 hI' hm' => ih b1 b2 b3 b4 b5 b6 hI' (by omega))
theorem ok_L7 {A1 A2 A3 A4 A5 A6 A7 R : Type} {st : (A1 → A2 → A3 → A4 → A5 → A6 → A7 → Option R) → A1 → A2 → A3 → A4 → A5 → A6 → A7 → Option R} {Q : R → Prop} (I : A1 → A2 → A3 → A4 → A5 → A6 → A7 → Prop) (μ : A1 → A2 → A3 → A4 → A5 → A6 → A7 → Nat) (hs : ∀ ih a1 a2 a3 a4 a5 a6 a7, I a1 a2 a3 a4 a5 a6 a7 → (∀ b1 b2 b3 b4 b5 b6 b7, I b1 b2 b3 b4 b5 b6 b7 → μ b1 b2 b3 b4 b5 b6 b7 < μ a1 a2 a3 a4 a5 a6 a7 → ok (ih b1 b2 b3 b4 b5 b6 b7) Q) → ok (st ih a1 a2 a3 a4 a5 a6 a7) Q) : ∀ n a1 a2 a3 a4 a5 a6 a7, I a1 a2 a3 a4 a5 a6 a7 → μ a1 a2 a3 a4 a5 a6 a7 < n → ok (LQ7 st n a1 a2 a3 a4 a5 a6 a7) Q := by
  intro n
  induction n with
  | zero => intro a1 a2 a3 a4 a5 a6 a7 _ hm; exact absurd hm (Nat.not_lt_zero _)
  | succ n ih => intro a1 a2 a3 a4 a5 a6 a7 hI hm; exact hs (LQ7 st n) a1 a2 a3 a4 a5 a6 a7 hI (fun b1 b2 b3 b4 b5 b6 b7 hI' hm' => ih b1 b2 b3 b4 b5 b6 b7 hI' (by omega))
theorem ok_L8 {A1 A2 A3 A4 A5 A6 A7 A8 R : Type} {st : (A1 → A2 → A3 → A4 → A5 → A6 → A7 → A8 → Option R) → A1 → A2 → A3 → A4 → A5 → A6 → A7 → A8 → Option R} {Q : R → Prop} (I : A1 → A2 → A3 → A4 → A5 → A6 → A7 → A8 → Prop) (μ : A1 → A2 → A3 → A4 → A5 → A6 → A7 → A8 → Nat) (hs : ∀ ih a1 a2 a3 a4 a5 a6 a7 a8, I a1 a2 a3 a4 a5 a6 a7 a8 → (∀ b1 b2 b3 b4 b5 b6 b7 b8, I b1 b2 b3 b4 b5 b6 b7 b8 → μ b1 b2 b3 b4 b5 b6 b7 b8 < μ a1 a2 a3 a4 a5 a6 a7 a8 → ok (ih b1 b2 b3 b4 b5 b6 b7 b8) Q) → ok (st ih a1 a2 a3 a4 a5 a6 a7 a8) Q) : ∀ n a1 a2 a3 a4 a5 a6 a7 a8, I a1 a2 a3 a4 a5 a6 a7 a8 → μ a1 a2 a3 a4 a5 a6 a7 a8 < n → ok (LQ8 st n a1 a2 a3 a4 a5 a6 a7 a8) Q := by
  intro n
  induction n with
  | zero => intro a1 a2 a3 a4 a5 a6 a7 a8 _ hm; exact absurd hm (Nat.not_lt_zero _)
  | succ n ih => intro a1 a2 a3 a4 a5 a6 a7 a8 hI hm; exact hs (LQ8 st n) a1 a2 a3 a4 a5 a6 a7 a8 hI (fun b1 b2 b3 b4 b5 b6 b7 b8 hI' hm' => ih b1 b2 b3 b4 b5 b6 b7 b8 hI' (by omega))
theorem ok_L9 {A1 A2 A3 A4 A5 A6 A7 A8 A9 R : Type} {st : (A1 → A2 → A3 → A4 → A5 → A6 → A7 → A8 → A9 → Option R) → A1 → A2 → A3 → A4 → A5 → A6 → A7 → A8 → A9 → Option R} {Q : R → Prop} (I : A1 → A2 → A3 → A4 → A5 → A6 → A7 → A8 → A9 → Prop) (μ : A1 → A2 → A3 → A4 → A5 → A6 → A7 → A8 → A9 → Nat) (hs : ∀ ih a1 a2 a3 a4 a5 a6 a7 a8 a9, I a1 a2 a3 a4 a5 a6 a7 a8 a9 → (∀ b1 b2 b3 b4 b5 b6 b7 b8 b9, I b1 b2 b3 b4 b5 b6 b7 b8 b9 → μ b1 b2 b3 b4 b5 b6 b7 b8 b9 < μ a1 a2 a3 a4 a5 a6 a7 a8 a9 → ok (ih b1 b2 b3 b4 b5 b6 b7 b8 b9) Q) → ok (st ih a1 a2 a3 a4 a5 a6 a7 a8 a9) Q) : ∀ n a1 a2 a3 a4 a5 a6 a7 a8 a9, I a1 a2 a3 a4 a5 a6 a7 a8 a9 → μ a1 a2 a3 a4 a5 a6 a7 a8 a9 < n → ok (LQ9 st n a1 a2 a3 a4 a5 a6 a7 a8 a9) Q := by
  intro n
  induction n with
  | zero => intro a1 a2 a3 a4 a5 a6 a7 a8 a9 _ hm; exact absurd hm (Nat.not_lt_zero _)
  | succ n ih => intro a1 a2 a3 a4 a5 a6 a7 a8 a9 hI hm; exact hs (LQ9 st n) a1 a2 a3 a4 a5 a6 a7 a8 a9 hI (fun b1 b2 b3 b4 b5 b6 b7 b8 b9 hI' hm' => ih b1 b2 b3 b4 b5 b6 b7 b8 b9 hI' (by omega))
theorem ok_L10 {A1 A2 A3 A4 A5 A6 A7 A8 A9 A10 R : Type} {st : (A1 → A2 → A3 → A4 → A5 → A6 → A7 → A8 → A9 → A10 → Option R) → A1 → A2 → A3 → A4 → A5 → A6 → A7 → A8 → A9 → A10 → Option R} {Q : R → Prop} (I : A1 → A2 → A3 → A4 → A5 → A6 → A7 → A8 → A9 → A10 → Prop) (μ : A1 → A2 → A3 → A4 → A5 → A6 → A7 → A8 → A9 → A10 → Nat) (hs : ∀ ih a1 a2 a3 a4 a5 a6 a7 a8 a9 a10, I a1 a2 a3 a4 a5 a6 a7 a8 a9 a10 → (∀ b1 b2 b3 b4 b5 b6 b7 b8 b9 b10, I b1 b2 b3 b4 b5 b6 b7 b8 b9 b10 → μ b1 b2 b3 b4 b5 b6 b7 b8 b9 b10 < μ a1 a2 a3 a4 a5 a6 a7 a8 a9 a10 → ok (ih b1 b2 b3 b4 b5 b6 b7 b8 b9 b10) Q) → ok (st ih a1 a2 a3 a4 a5 a6 a7 a8 a9 a10) Q) : ∀ n a1 a2 a3 a4 a5 a6 a7 a8 a9 a10, I a1 a2 a3 a4 a5 a6 a7 a8 a9 a10 → μ a1 a2 a3 a4 a5 a6 a7 a8 a9 a10 < n → ok (LQ10 st n a1 a2 a3 a4 a5 a6 a7 a8 a9 a10) Q := by
  intro n
  induction n with
  | zero => intro a1 a2 a3 a4 a5 a6 a7 a8 a9 a10 _ hm; exact absurd hm (Nat.not_lt_zero _)
  | succ n ih => intro a1 a2 a3 a4 a5 a6 a7 a8 a9 a10 hI hm; exact hs (LQ10 st n) a1 a2 a3 a4 a5 a6 a7 a8 a9 a10 hI (fun b1 b2 b3 b4 b5 b6 b7 b8 b9 b10 hI' hm' => ih b1 b2 b3 b4 b5 b6 b7 b8 b9 b10 hI' (by omega))
theorem ok_L11 {A1 A2 A3 A4 A5 A6 A7 A8 A9 A10 A11 R : Type} {st : (A1 → A2 → A3 → A4 → A5 → A6 → A7 → A8 → A9 → A10 → A11 → Option R) → A1 → A2 → A3 → A4 → A5 → A6 → A7 → A8 → A9 → A10 → A11 → Option R} {Q : R → Prop} (I : A1 → A2 → A3 → A4 → A5 → A6 → A7 → A8 → A9 → A10 → A11 → Prop) (μ : A1 → A2 → A3 → A4 → A5 → A6 → A7 → A8 → A9 → A10 → A11 → Nat) (hs : ∀ ih a1 a2 a3 a4 a5 a6 a7 a8 a9 a10 a11, I a1 a2 a3 a4 a5 a6 a7 a8 a9 a10 a11 → (∀ b1 b2 b3 b4 b5 b6 b7 b8 b9 b10 b11, I b1 b2 b3 b4 b5 b6 b7 b8 b9 b10 b11 → μ b1 b2 b3 b4 b5 b6 b7 b8 b9 b10 b11 < μ a1 a2 a3 a4 a5 a6 a7 a8 a9 a10 a11 → ok (ih b1 b2 b3 b4 b5 b6 b7 b8 b9 b10 b11) Q) → ok (st ih a1 a2 a3 a4 a5 a6 a7 a8 a9 a10 a11) Q) : ∀ n a1 a2 a3 a4 a5 a6 a7 a8 a9 a10 a11, I a1 a2 a3 a4 a5 a6 a7 a8 a9 a10 a11 → μ a1 a2 a3 a4 a5 a6 a7 a8 a9 a10 a11 < n → ok (LQ11 st n a1 a2 a3 a4 a5 a6 a7 a8 a9 a10 a11) Q := by
  intro n
  induction n with
  | zero => intro a1 a2 a3 a4 a5 a6 a7 a8 a9 a10 a11 _ hm; exact absurd hm (Nat.not_lt_zero _)
  | succ n ih => intro a1 a2 a3 a4 a5 a6 a7 a8 a9 a10 a11 hI hm; exact hs (LQ11 st n) a1 a2 a3 a4 a5 a6 a7 a8 a9 a10 a11 hI (fun b1 b2 b3 b4 b5 b6 b7 b8 b9 b10 b11 hI' hm' => ih b1 b2 b3 b4 b5 b6 b7 b8 b9 b10 b11 hI' (by omega))
theorem ok_L12 {A1 A2 A3 A4 A5 A6 A7 A8 A9 A10 A11 A12 R : Type} {st : (A1 → A2 → A3 → A4 → A5 → A6 → A7 → A8 → A9 → A10 → A11 → A12 → Option R) → A1 → A2 → A3 → A4 → A5 → A6 → A7 → A8 → A9 → A10 → A11 → A12 → Option R} {Q : R → Prop} (I : A1 → A2 → A3 → A4 → A5 → A6 → A7 → A8 → A9 → A10 → A11 → A12 → Prop) (μ : A1 → A2 → A3 → A4 → A5 → A6 → A7 → A8 → A9 → A10 → A11 → A12 → Nat) (hs : ∀ ih a1 a2 a3 a4 a5 a6 a7 a8 a9 a10 a11 a12, I a1 a2 a3 a4 a5 a6 a7 a8 a9 a10 a11 a12 → (∀ b1 b2 b3 b4 b5 b6 b7 b8 b9 b10 b11 b12, I b1 b2 b3 b4 b5 b6 b7 b8 b9 b10 b11 b12 → μ b1 b2 b3 b4 b5 b6 b7 b8 b9 b10 b11 b12 < μ a1 a2 a3 a4 a5 a6 a7 a8 a9 a10 a11 a12 → ok (ih b1 b2 b3 b4 b5 b6 b7 b8 b9 b10 b11 b12) Q) → ok (st ih a1 a2 a3 a4 a5 a6 a7 a8 a9 a10 a11 a12) Q) : ∀ n a1 a2 a3 a4 a5 a6 a7 a8 a9 a10 a11 a12, I a1 a2 a3 a4 a5 a6 a7 a8 a9 a10 a11 a12 → μ a1 a2 a3 a4 a5 a6 a7 a8 a9 a10 a11 a12 < n → ok (LQ12 st n a1 a2 a3 a4 a5 a6 a7 a8 a9 a10 a11 a12) Q := by
  intro n
  induction n with
  | zero => intro a1 a2 a3 a4 a5 a6 a7 a8 a9 a10 a11 a12 _ hm; exact absurd hm (Nat.not_lt_zero _)
  | succ n ih => intro a1 a2 a3 a4 a5 a6 a7 a8 a9 a10 a11 a12 hI hm; exact hs (LQ12 st n) a1 a2 a3 a4 a5 a6 a7 a8 a9 a10 a11 a12 hI (fun b1 b2 b3 b4 b5 b6 b7 b8 b9 b10 b11 b12 hI' hm' => ih b1 b2 b3 b4 b5 b6 b7 b8 b9 b10 b11 b12 hI' (by omega))
theorem ok_L13 {A1 A2 A3 A4 A5 A6 A7 A8 A9 A10 A11 A12 A13 R : Type} {st : (A1 → A2 → A3 → A4 → A5 → A6 → A7 → A8 → A9 → A10 → A11 → A12 → A13 → Option R) → A1 → A2 → A3 → A4 → A5 → A6 → A7 → A8 → A9 → A10 → A11 → A12 → A13 → Option R} {Q : R → Prop} (I : A1 → A2 → A3 → A4 → A5 → A6 → A7 → A8 → A9 → A10 → A11 → A12 → A13 → Prop) (μ : A1 → A2 → A3 → A4 → A5 → A6 → A7 → A8 → A9 → A10 → A11 → A12 → A13 → Nat) (hs : ∀ ih a1 a2 a3 a4 a5 a6 a7 a8 a9 a10 a11 a12 a13, I a1 a2 a3 a4 a5 a6 a7 a8 a9 a10 a11 a12 a13 → (∀ b1 b2 b3 b4 b5 b6 b7 b8 b9 b10 b11 b12 b13, I b1 b2 b3 b4 b5 b6 b7 b8 b9 b10 b11 b12 b13 → μ b1 b2 b3 b4 b5 b6 b7 b8 b9 b10 b11 b12 b13 < μ a1 a2 a3 a4 a5 a6 a7 a8 a9 a10 a11 a12 a13 → ok (ih b1 b2 b3 b4 b5 b6 b7 b8 b9 b10 b11 b12 b13) Q) → ok (st ih a1 a2 a3 a4 a5 a6 a7 a8 a9 a10 a11 a12 a13) Q) : ∀ n a1 a2 a3 a4 a5 a6 a7 a8 a9 a10 a11 a12 a13, I a1 a2 a3 a4 a5 a6 a7 a8 a9 a10 a11 a12 a13 → μ a1 a2 a3 a4 a5 a6 a7 a8 a9 a10 a11 a12 a13 < n → ok (LQ13 st n a1 a2 a3 a4 a5 a6 a7 a8 a9 a10 a11 a12 a13) Q := by
  intro n
  induction n with
  | zero => intro a1 a2 a3 a4 a5 a6 a7 a8 a9 a10 a11 a12 a13 _ hm; exact absurd hm (Nat.not_lt_zero _)
  | succ n ih => intro a1 a2 a3 a4 a5 a6 a7 a8 a9 a10 a11 a12 a13 hI hm; exact hs (LQ13 st n) a1 a2 a3 a4 a5 a6 a7 a8 a9 a10 a11 a12 a13 hI (fun b1 b2 b3 b4 b5 b6 b7 b8 b9 b10 b11 b12 b13 hI' hm' => ih b1 b2 b3 b4 b5 b6 b7 b8 b9 b10 b11 b12 b13 hI' (by omega))
theorem ok_L14 {A1 A2 A3 A4 A5 A6 A7 A8 A9 A10 A11 A12 A13 A14 R : Type} {st : (A1 → A2 → A3 → A4 → A5 → A6 → A7 → A8 → A9 → A10 → A11 → A12 → A13 → A14 → Option R) → A1 → A2 → A3 → A4 → A5 → A6 → A7 → A8 → A9 → A10 → A11 → A12 → A13 → A14 → Option R} {Q : R → Prop} (I : A1 → A2 → A3 → A4 → A5 → A6 → A7 → A8 → A9 → A10 → A11 → A12 → A13 → A14 → Prop) (μ : A1 → A2 → A3 → A4 → A5 → A6 → A7 → A8 → A9 → A10 → A11 → A12 → A13 → A14 → Nat) (hs : ∀ ih a1 a2 a3 a4 a5 a6 a7 a8 a9 a10 a11 a12 a13 a14, I a1 a2 a3 a4 a5 a6 a7 a8 a9 a10 a11 a12 a13 a14 → (∀ b1 b2 b3 b4 b5 b6 b7 b8 b9 b10 b11 b12 b13 b14, I b1 b2 b3 b4 b5 b6 b7 b8 b9 b10 b11 b12 b13 b14 → μ b1 b2 b3 b4 b5 b6 b7 b8 b9 b10 b11 b12 b13 b14 < μ a1 a2 a3 a4 a5 a6 a7 a8 a9 a10 a11 a12 a13 a14 → ok (ih b1 b2 b3 b4 b5 b6 b7 b8 b9 b10 b11 b12 b13 b14) Q) → ok (st ih a1 a2 a3 a4 a5 a6 a7 a8 a9 a10 a11 a12 a13 a14) Q) : ∀ n a1 a2 a3 a4 a5 a6 a7 a8 a9 a10 a11 a12 a13 a14, I a1 a2 a3 a4 a5 a6 a7 a8 a9 a10 a11 a12 a13 a14 → μ a1 a2 a3 a4 a5 a6 a7 a8 a9 a10 a11 a12 a13 a14 < n → ok (LQ14 st n a1 a2 a3 a4 a5 a6 a7 a8 a9 a10 a11 a12 a13 a14) Q := by
  intro n
  induction n with
  | zero => intro a1 a2 a3 a4 a5 a6 a7 a8 a9 a10 a11 a12 a13 a14 _ hm; exact absurd hm (Nat.not_lt_zero _)
  | succ n ih => intro a1 a2 a3 a4 a5 a6 a7 a8 a9 a10 a11 a12 a13 a14 hI hm; exact hs (LQ14 st n) a1 a2 a3 a4 a5 a6 a7 a8 a9 a10 a11 a12 a13 a14 hI (fun b1 b2 b3 b4 b5 b6 b7 b8 b9 b10 b11 b12 b13 b14 hI' hm' => ih b1 b2 b3 b4 b5 b6 b7 b8 b9 b10 b11 b12 b13 b14 hI' (by omega))
theorem ok_L15 {A1 A2 A3 A4 A5 A6 A7 A8 A9 A10 A11 A12 A13 A14 A15 R : Type} {st : (A1 → A2 → A3 → A4 → A5 → A6 → A7 → A8 → A9 → A10 → A11 → A12 → A13 → A14 → A15 → Option R) → A1 → A2 → A3 → A4 → A5 → A6 → A7 → A8 → A9 → A10 → A11 → A12 → A13 → A14 → A15 → Option R} {Q : R → Prop} (I : A1 → A2 → A3 → A4 → A5 → A6 → A7 → A8 → A9 → A10 → A11 → A12 → A13 → A14 → A15 → Prop) (μ : A1 → A2 → A3 → A4 → A5 → A6 → A7 → A8 → A9 → A10 → A11 → A12 → A13 → A14 → A15 → Nat) (hs : ∀ ih a1 a2 a3 a4 a5 a6 a7 a8 a9 a10 a11 a12 a13 a14 a15, I a1 a2 a3 a4 a5 a6 a7 a8 a9 a10 a11 a12 a13 a14 a15 → (∀ b1 b2 b3 b4 b5 b6 b7 b8 b9 b10 b11 b12 b13 b14 b15, I b1 b2 b3 b4 b5 b6 b7 b8 b9 b10 b11 b12 b13 b14 b15 → μ b1 b2 b3 b4 b5 b6 b7 b8 b9 b10 b11 b12 b13 b14 b15 < μ a1 a2 a3 a4 a5 a6 a7 a8 a9 a10 a11 a12 a13 a14 a15 → ok (ih b1 b2 b3 b4 b5 b6 b7 b8 b9 b10 b11 b12 b13 b14 b15) Q) → ok (st ih a1 a2 a3 a4 a5 a6 a7 a8 a9 a10 a11 a12 a13 a14 a15) Q) : ∀ n a1 a2 a3 a4 a5 a6 a7 a8 a9 a10 a11 a12 a13 a14 a15, I a1 a2 a3 a4 a5 a6 a7 a8 a9 a10 a11 a12 a13 a14 a15 → μ a1 a2 a3 a4 a5 a6 a7 a8 a9 a10 a11 a12 a13 a14 a15 < n → ok (LQ15 st n a1 a2 a3 a4 a5 a6 a7 a8 a9 a10 a11 a12 a13 a14 a15) Q := by
  intro n
  induction n with
  | zero => intro a1 a2 a3 a4 a5 a6 a7 a8 a9 a10 a11 a12 a13 a14 a15 _ hm; exact absurd hm (Nat.not_lt_zero _)
  | succ n ih => intro a1 a2 a3 a4 a5 a6 a7 a8 a9 a10 a11 a12 a13 a14 a15 hI hm; exact hs (LQ15 st n) a1 a2 a3 a4 a5 a6 a7 a8 a9 a10 a11 a12 a13 a14 a15 hI (fun b1 b2 b3 b4 b5 b6 b7 b8 b9 b10 b11 b12 b13 b14 b15 hI' hm' => ih b1 b2 b3 b4 b5 b6 b7 b8 b9 b10 b11 b12 b13 b14 b15 hI' (by omega))
theorem ok_L16 {A1 A2 A3 A4 A5 A6 A7 A8 A9 A10 A11 A12 A13 A14 A15 A16 R : Type} {st : (A1 → A2 → A3 → A4 → A5 → A6 → A7 → A8 → A9 → A10 → A11 → A12 → A13 → A14 → A15 → A16 → Option R) → A1 → A2 → A3 → A4 → A5 → A6 → A7 → A8 → A9 → A10 → A11 → A12 → A13 → A14 → A15 → A16 → Option R} {Q : R → Prop} (I : A1 → A2 → A3 → A4 → A5 → A6 → A7 → A8 → A9 → A10 → A11 → A12 → A13 → A14 → A15 → A16 → Prop) (μ : A1 → A2 → A3 → A4 → A5 → A6 → A7 → A8 → A9 → A10 → A11 → A12 → A13 → A14 → A15 → A16 → Nat) (hs : ∀ ih a1 a2 a3 a4 a5 a6 a7 a8 a9 a10 a11 a12 a13 a14 a15 a16, I a1 a2 a3 a4 a5 a6 a7 a8 a9 a10 a11 a12 a13 a14 a15 a16 → (∀ b1 b2 b3 b4 b5 b6 b7 b8 b9 b10 b11 b12 b13 b14 b15 b16, I b1 b2 b3 b4 b5 b6 b7 b8 b9 b10 b11 b12 b13 b14 b15 b16 → μ b1 b2 b3 b4 b5 b6 b7 b8 b9 b10 b11 b12 b13 b14 b15 b16 < μ a1 a2 a3 a4 a5 a6 a7 a8 a9 a10 a11 a12 a13 a14 a15 a16 → ok (ih b1 b2 b3 b4 b5 b6 b7 b8 b9 b10 b11 b12 b13 b14 b15 b16) Q) → ok (st ih a1 a2 a3 a4 a5 a6 a7 a8 a9 a10 a11 a12 a13 a14 a15 a16) Q) : ∀ n a1 a2 a3 a4 a5 a6 a7 a8 a9 a10 a11 a12 a13 a14 a15 a16, I a1 a2 a3 a4 a5 a6 a7 a8 a9 a10 a11 a12 a13 a14 a15 a16 → μ a1 a2 a3 a4 a5 a6 a7 a8 a9 a10 a11 a12 a13 a14 a15 a16 < n → ok (LQ16 st n a1 a2 a3 a4 a5 a6 a7 a8 a9 a10 a11 a12 a13 a14 a15 a16) Q := by
  intro n
  induction n with
  | zero => intro a1 a2 a3 a4 a5 a6 a7 a8 a9 a10 a11 a12 a13 a14 a15 a16 _ hm; exact absurd hm (Nat.not_lt_zero _)
  | succ n ih => intro a1 a2 a3 a4 a5 a6 a7 a8 a9 a10 a11 a12 a13 a14 a15 a16 hI hm; exact hs (LQ16 st n) a1 a2 a3 a4 a5 a6 a7 a8 a9 a10 a11 a12 a13 a14 a15 a16 hI (fun b1 b2 b3 b4 b5 b6 b7 b8 b9 b10 b11 b12 b13 b14 b15 b16 hI' hm' => ih b1 b2 b3 b4 b5 b6 b7 b8 b9 b10 b11 b12 b13 b14 b15 b16 hI' (by omega))
theorem ok_lt {β : Type} {x y : Int32} {a b : Option β} {Q : β → Prop} (h1 : x.toInt < y.toInt → ok a Q) (h2 : y.toInt ≤ x.toInt → ok b Q) : ok (if x < y then a else b) Q :=
  ok_i (fun h => h1 (Int32.lt_iff_toInt_lt.mp h)) (fun h => h2 (by rw [Int32.lt_iff_toInt_lt] at h; omega))
theorem ok_le {β : Type} {x y : Int32} {a b : Option β} {Q : β → Prop} (h1 : x.toInt ≤ y.toInt → ok a Q) (h2 : y.toInt < x.toInt → ok b Q) : ok (if x ≤ y then a else b) Q :=
  ok_i (fun h => h1 (Int32.le_iff_toInt_le.mp h)) (fun h => h2 (by rw [Int32.le_iff_toInt_le] at h; omega))
theorem ok_eq {β : Type} {x y : Int32} {a b : Option β} {Q : β → Prop} (h1 : x.toInt = y.toInt → ok a Q) (h2 : x.toInt ≠ y.toInt → ok b Q) : ok (if x = y then a else b) Q :=
  ok_i (fun h => h1 (by rw [h])) (fun h => h2 (fun h9 => h (Int32.toInt_inj.mp h9)))
theorem addT {a b : Int32} (h1 : -2147483648 ≤ a.toInt + b.toInt) (h2 : a.toInt + b.toInt < 2147483648) : (a + b).toInt = a.toInt + b.toInt := by
  rw [Int32.toInt_add]
  exact Int.bmod_eq_of_le (by omega) (by omega)
theorem subT {a b : Int32} (h1 : -2147483648 ≤ a.toInt - b.toInt) (h2 : a.toInt - b.toInt < 2147483648) : (a - b).toInt = a.toInt - b.toInt := by
  rw [Int32.toInt_sub]
  exact Int.bmod_eq_of_le (by omega) (by omega)
theorem ok_ltL {β : Type} {x y : Int64} {a b : Option β} {Q : β → Prop} (h1 : x.toInt < y.toInt → ok a Q) (h2 : y.toInt ≤ x.toInt → ok b Q) : ok (if x < y then a else b) Q :=
  ok_i (fun h => h1 (Int64.lt_iff_toInt_lt.mp h)) (fun h => h2 (by rw [Int64.lt_iff_toInt_lt] at h; omega))
theorem ok_leL {β : Type} {x y : Int64} {a b : Option β} {Q : β → Prop} (h1 : x.toInt ≤ y.toInt → ok a Q) (h2 : y.toInt < x.toInt → ok b Q) : ok (if x ≤ y then a else b) Q :=
  ok_i (fun h => h1 (Int64.le_iff_toInt_le.mp h)) (fun h => h2 (by rw [Int64.le_iff_toInt_le] at h; omega))
theorem ok_eqL {β : Type} {x y : Int64} {a b : Option β} {Q : β → Prop} (h1 : x.toInt = y.toInt → ok a Q) (h2 : x.toInt ≠ y.toInt → ok b Q) : ok (if x = y then a else b) Q :=
  ok_i (fun h => h1 (by rw [h])) (fun h => h2 (fun h9 => h (Int64.toInt_inj.mp h9)))
theorem addL {a b : Int64} (h1 : -9223372036854775808 ≤ a.toInt + b.toInt) (h2 : a.toInt + b.toInt < 9223372036854775808) : (a + b).toInt = a.toInt + b.toInt := by
  rw [Int64.toInt_add]
  exact Int.bmod_eq_of_le (by omega) (by omega)
theorem subL {a b : Int64} (h1 : -9223372036854775808 ≤ a.toInt - b.toInt) (h2 : a.toInt - b.toInt < 9223372036854775808) : (a - b).toInt = a.toInt - b.toInt := by
  rw [Int64.toInt_sub]
  exact Int.bmod_eq_of_le (by omega) (by omega)
theorem addT1 {a b : Int32} {n : Int} (hb : b.toInt = n) (h1 : -2147483648 ≤ a.toInt + n) (h2 : a.toInt + n < 2147483648) : (a + b).toInt = a.toInt + n := by
  subst hb
  exact addT (by omega) (by omega)
theorem subT1 {a b : Int32} {n : Int} (hb : b.toInt = n) (h1 : -2147483648 ≤ a.toInt - n) (h2 : a.toInt - n < 2147483648) : (a - b).toInt = a.toInt - n := by
  subst hb
  exact subT (by omega) (by omega)
theorem addL1 {a b : Int64} {n : Int} (hb : b.toInt = n) (h1 : -2147483648 ≤ a.toInt + n) (h2 : a.toInt + n < 2147483648) : (a + b).toInt = a.toInt + n := by
  subst hb
  exact addL (by omega) (by omega)
theorem subL1 {a b : Int64} {n : Int} (hb : b.toInt = n) (h1 : -2147483648 ≤ a.toInt - n) (h2 : a.toInt - n < 2147483648) : (a - b).toInt = a.toInt - n := by
  subst hb
  exact subL (by omega) (by omega)
theorem ixo {x : Int32} {N : Nat} (h1 : 0 ≤ x.toInt) (h2 : x.toInt < N) : ¬ (x < 0 ∨ N ≤ x.toNatClampNeg) := by
  have h0 : (0 : Int32).toInt = 0 := by decide
  rintro (h | h)
  · rw [Int32.lt_iff_toInt_lt] at h
    omega
  · rw [Int32.toNatClampNeg] at h
    omega
theorem nz_of {x : Int32} (h : x.toInt ≠ 0) : ¬ x = 0 := fun h9 => h (by rw [h9]; decide)
theorem zr_of {x : Int32} (h : x.toInt = 0 ∨ x.toInt = 1) : x = 0 ∨ x = 1 := by
  rcases h with h | h
  · exact Or.inl (Int32.toInt_inj.mp (by rw [h]; decide))
  · exact Or.inr (Int32.toInt_inj.mp (by rw [h]; decide))
theorem cl_T {x : Int32} (h : 0 ≤ x.toInt) : (x.toNatClampNeg : Int) = x.toInt := by
  rw [Int32.toNatClampNeg]
  omega
theorem i_of {x : Int32} {n : Nat} (h : 0 ≤ x.toInt) (h2 : x.toInt ≤ n) : ∃ k, k ≤ n ∧ x = nI k := by
  have hr := x.toInt_lt
  refine ⟨x.toInt.toNat, by omega, ?_⟩
  refine Int32.toInt_inj.mp ?_
  rw [nI_toInt (by omega)]
  omega
theorem shk : ∀ k, k < 21 → ((1 : Int64) <<< ((nI k).toInt64 &&& 63)).toInt = 2 ^ k ∧ ((2 : Int64) <<< ((nI k).toInt64 &&& 63)).toInt = 2 ^ (k + 1) := by decide +kernel
theorem sh_b {x : Int32} (h : 0 ≤ x.toInt) (h2 : x.toInt ≤ 6) : 1 ≤ ((1 : Int64) <<< (x.toInt64 &&& 63)).toInt ∧ ((1 : Int64) <<< (x.toInt64 &&& 63)).toInt ≤ 64 ∧ 2 ≤ ((2 : Int64) <<< (x.toInt64 &&& 63)).toInt ∧ ((2 : Int64) <<< (x.toInt64 &&& 63)).toInt ≤ 128 := by
  obtain ⟨k, hk, rfl⟩ := i_of (n := 6) h h2
  obtain ⟨a, b⟩ := shk k (by omega)
  rw [a, b]
  rcases (show k = 0 ∨ k = 1 ∨ k = 2 ∨ k = 3 ∨ k = 4 ∨ k = 5 ∨ k = 6 by omega) with h | h | h | h | h | h | h <;> subst h <;> decide
