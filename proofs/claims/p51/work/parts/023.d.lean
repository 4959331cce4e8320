theorem dL_house_14 : decode cL_house 14 = .ok (.iconst 1, 1) := by decide +kernel
theorem dL_house_15 : decode cL_house 15 = .ok (.ireturn, 1) := by decide +kernel
theorem dL_house_16 : decode cL_house 16 = .ok (.iconst 0, 1) := by decide +kernel
theorem dL_house_17 : decode cL_house 17 = .ok (.ireturn, 1) := by decide +kernel
noncomputable def bsL (c : ByteArray) : List Nat := c.data.toList.map UInt8.toNat
theorem bsl_k {L w : List Nat} {k m i x : Nat} (hk : (L.drop k).take m = w) (h : w[i]? = some x) : L[k+i]? = some x := by
  rw [← hk, List.getElem?_take] at h
  split at h
  · rw [List.getElem?_drop] at h; exact h
  · cases h
theorem bsl_0 {w t : List Nat} {r x : Nat} (h : w.drop r = x :: t) : w[r]? = some x := by
  have := List.getElem?_drop (xs := w) (i := r) (j := 0)
  rw [h] at this
  exact this.symm
theorem bsl_1 {w t : List Nat} {r x y : Nat} (h : w.drop r = x :: y :: t) : w[r+1]? = some y := by
  have := List.getElem?_drop (xs := w) (i := r) (j := 1)
  rw [h] at this
  exact this.symm
theorem bsl_2 {w t : List Nat} {r x y z : Nat} (h : w.drop r = x :: y :: z :: t) : w[r+2]? = some z := by
  have := List.getElem?_drop (xs := w) (i := r) (j := 2)
  rw [h] at this
  exact this.symm
theorem bsu_1 {c : ByteArray} {p x : Nat} (h : (bsL c)[p]? = some x) : (Jvm.ClassFile.Reader.u1 : Jvm.ClassFile.Decoder Nat) c p = .ok (x, p+1) := by
  unfold bsL at h
  rw [List.getElem?_map] at h
  obtain ⟨b, hb, hx⟩ := Option.map_eq_some_iff.mp h
  obtain ⟨hl, hb'⟩ := List.getElem?_eq_some_iff.mp hb
  have hs : p < c.size := by rw [Array.length_toList] at hl; exact hl
  have hv : c[p].toNat = x := by rw [← hx, ← hb']; rfl
  unfold Jvm.ClassFile.Reader.u1
  show (if h : p < c.size then (do set (p + 1); pure c[p].toNat : Jvm.ClassFile.Decoder Nat) else throw (Jvm.ClassFile.HasTruncated.truncated p)) c p = _
  rw [dif_pos hs]
  show Except.ok (c[p].toNat, p+1) = _
  rw [hv]
theorem bsb {α β : Type} {r : Jvm.ClassFile.Decoder α} {c : ByteArray} {p q : Nat} {a : α} (h : r c p = .ok (a, q)) (f : α → Jvm.ClassFile.Decoder β) : (r >>= f) c p = f a c q := by
  show Except.bind (r c p) (fun x => f x.1 c x.2) = _
  rw [h]; rfl
theorem bsu_2 {c : ByteArray} {p y z : Nat} (h1 : (bsL c)[p]? = some y) (h2 : (bsL c)[p+1]? = some z) : (Jvm.ClassFile.Reader.u2 : Jvm.ClassFile.Decoder Nat) c p = .ok (y*256+z, p+2) := by
  unfold Jvm.ClassFile.Reader.u2
  exact (bsb (bsu_1 h1) _).trans ((bsb (bsu_1 h2) _).trans rfl)
theorem bsm {α β : Type} {r : Jvm.ClassFile.Decoder α} {c : ByteArray} {p q : Nat} {a : α} (h : r c p = .ok (a, q)) (f : α → β) : (f <$> r) c p = .ok (f a, q) := by
  rw [map_eq_pure_bind]
  exact (bsb h _).trans rfl
theorem bsd {c : ByteArray} {p q : Nat} {i : Jvm.ClassFile.Instr} (h : (Jvm.ClassFile.Decoder.instr p) c p = .ok (i, q)) : decode c p = .ok (i, q - p) := by
  unfold decode Jvm.ClassFile.Reader.runAt
  show Except.bind ((Jvm.ClassFile.Decoder.instr p) c p) _ = _
  rw [h]; rfl
theorem dq_187 {c : ByteArray} {k m r : Nat} {w t : List Nat} {y z n : Nat} (hk : ((bsL c).drop k).take m = w) (h : w.drop r = 187 :: y :: z :: t) (hn : y*256+z = n) : decode c (k+r) = .ok (.new n, 3) := by
  have e : Jvm.ClassFile.Decoder.instr (k+r) c (k+r) = .ok (.new n, k+r+3) := by
    unfold Jvm.ClassFile.Decoder.instr
    refine (bsb (bsu_1 (bsl_k hk (bsl_0 h))) _).trans ?_
    subst hn
    show ((Jvm.ClassFile.Reader.u2 : Jvm.ClassFile.Decoder Nat) >>= fun x => (pure (.new x) : Jvm.ClassFile.Decoder Jvm.ClassFile.Instr)) c (k+r+1) = _
    exact (bsb (bsu_2 (bsl_k (i := r+1) hk (bsl_1 h)) (bsl_k (i := r+2) hk (bsl_2 h))) _).trans rfl
  exact (bsd e).trans (by rw [Nat.add_sub_cancel_left])
theorem dq_89 {c : ByteArray} {k m r : Nat} {w t : List Nat} (hk : ((bsL c).drop k).take m = w) (h : w.drop r = 89 :: t) : decode c (k+r) = .ok (.dup, 1) := by
  have e : Jvm.ClassFile.Decoder.instr (k+r) c (k+r) = .ok (.dup, k+r+1) := by
    unfold Jvm.ClassFile.Decoder.instr
    refine (bsb (bsu_1 (bsl_k hk (bsl_0 h))) _).trans ?_
    rfl
  exact (bsd e).trans (by rw [Nat.add_sub_cancel_left])
theorem dq_183 {c : ByteArray} {k m r : Nat} {w t : List Nat} {y z n : Nat} (hk : ((bsL c).drop k).take m = w) (h : w.drop r = 183 :: y :: z :: t) (hn : y*256+z = n) : decode c (k+r) = .ok (.invokespecial n, 3) := by
  have e : Jvm.ClassFile.Decoder.instr (k+r) c (k+r) = .ok (.invokespecial n, k+r+3) := by
    unfold Jvm.ClassFile.Decoder.instr
    refine (bsb (bsu_1 (bsl_k hk (bsl_0 h))) _).trans ?_
    subst hn
    show ((Jvm.ClassFile.Reader.u2 : Jvm.ClassFile.Decoder Nat) >>= fun x => (pure (.invokespecial x) : Jvm.ClassFile.Decoder Jvm.ClassFile.Instr)) c (k+r+1) = _
    exact (bsb (bsu_2 (bsl_k (i := r+1) hk (bsl_1 h)) (bsl_k (i := r+2) hk (bsl_2 h))) _).trans rfl
  exact (bsd e).trans (by rw [Nat.add_sub_cancel_left])
theorem dq_76 {c : ByteArray} {k m r : Nat} {w t : List Nat} (hk : ((bsL c).drop k).take m = w) (h : w.drop r = 76 :: t) : decode c (k+r) = .ok ((.astore_n 1), 1) := by
  have e : Jvm.ClassFile.Decoder.instr (k+r) c (k+r) = .ok ((.astore_n 1), k+r+1) := by
    unfold Jvm.ClassFile.Decoder.instr
    refine (bsb (bsu_1 (bsl_k hk (bsl_0 h))) _).trans ?_
    rfl
  exact (bsd e).trans (by rw [Nat.add_sub_cancel_left])
theorem dq_77 {c : ByteArray} {k m r : Nat} {w t : List Nat} (hk : ((bsL c).drop k).take m = w) (h : w.drop r = 77 :: t) : decode c (k+r) = .ok ((.astore_n 2), 1) := by
  have e : Jvm.ClassFile.Decoder.instr (k+r) c (k+r) = .ok ((.astore_n 2), k+r+1) := by
    unfold Jvm.ClassFile.Decoder.instr
    refine (bsb (bsu_1 (bsl_k hk (bsl_0 h))) _).trans ?_
    rfl
  exact (bsd e).trans (by rw [Nat.add_sub_cancel_left])
theorem dq_78 {c : ByteArray} {k m r : Nat} {w t : List Nat} (hk : ((bsL c).drop k).take m = w) (h : w.drop r = 78 :: t) : decode c (k+r) = .ok ((.astore_n 3), 1) := by
  have e : Jvm.ClassFile.Decoder.instr (k+r) c (k+r) = .ok ((.astore_n 3), k+r+1) := by
    unfold Jvm.ClassFile.Decoder.instr
    refine (bsb (bsu_1 (bsl_k hk (bsl_0 h))) _).trans ?_
    rfl
  exact (bsd e).trans (by rw [Nat.add_sub_cancel_left])
theorem dq_3 {c : ByteArray} {k m r : Nat} {w t : List Nat} (hk : ((bsL c).drop k).take m = w) (h : w.drop r = 3 :: t) : decode c (k+r) = .ok ((.iconst 0), 1) := by
  have e : Jvm.ClassFile.Decoder.instr (k+r) c (k+r) = .ok ((.iconst 0), k+r+1) := by
    unfold Jvm.ClassFile.Decoder.instr
    refine (bsb (bsu_1 (bsl_k hk (bsl_0 h))) _).trans ?_
    rfl
  exact (bsd e).trans (by rw [Nat.add_sub_cancel_left])
theorem dq_54 {c : ByteArray} {k m r : Nat} {w t : List Nat} {y n : Nat} (hk : ((bsL c).drop k).take m = w) (h : w.drop r = 54 :: y :: t) (hn : y = n) : decode c (k+r) = .ok (.istore n, 2) := by
  have e : Jvm.ClassFile.Decoder.instr (k+r) c (k+r) = .ok (.istore n, k+r+2) := by
    unfold Jvm.ClassFile.Decoder.instr
    refine (bsb (bsu_1 (bsl_k hk (bsl_0 h))) _).trans ?_
    subst hn
    show ((Jvm.ClassFile.Reader.u1 : Jvm.ClassFile.Decoder Nat) >>= fun x => (pure (.istore x) : Jvm.ClassFile.Decoder Jvm.ClassFile.Instr)) c (k+r+1) = _
    exact (bsb (bsu_1 (bsl_k (i := r+1) hk (bsl_1 h))) _).trans rfl
  exact (bsd e).trans (by rw [Nat.add_sub_cancel_left])
theorem dq_21 {c : ByteArray} {k m r : Nat} {w t : List Nat} {y n : Nat} (hk : ((bsL c).drop k).take m = w) (h : w.drop r = 21 :: y :: t) (hn : y = n) : decode c (k+r) = .ok (.iload n, 2) := by
  have e : Jvm.ClassFile.Decoder.instr (k+r) c (k+r) = .ok (.iload n, k+r+2) := by
    unfold Jvm.ClassFile.Decoder.instr
    refine (bsb (bsu_1 (bsl_k hk (bsl_0 h))) _).trans ?_
    subst hn
    show ((Jvm.ClassFile.Reader.u1 : Jvm.ClassFile.Decoder Nat) >>= fun x => (pure (.iload x) : Jvm.ClassFile.Decoder Jvm.ClassFile.Instr)) c (k+r+1) = _
    exact (bsb (bsu_1 (bsl_k (i := r+1) hk (bsl_1 h))) _).trans rfl
  exact (bsd e).trans (by rw [Nat.add_sub_cancel_left])
theorem dq_42 {c : ByteArray} {k m r : Nat} {w t : List Nat} (hk : ((bsL c).drop k).take m = w) (h : w.drop r = 42 :: t) : decode c (k+r) = .ok ((.aload_n 0), 1) := by
  have e : Jvm.ClassFile.Decoder.instr (k+r) c (k+r) = .ok ((.aload_n 0), k+r+1) := by
    unfold Jvm.ClassFile.Decoder.instr
    refine (bsb (bsu_1 (bsl_k hk (bsl_0 h))) _).trans ?_
    rfl
  exact (bsd e).trans (by rw [Nat.add_sub_cancel_left])
theorem dq_190 {c : ByteArray} {k m r : Nat} {w t : List Nat} (hk : ((bsL c).drop k).take m = w) (h : w.drop r = 190 :: t) : decode c (k+r) = .ok (.arraylength, 1) := by
  have e : Jvm.ClassFile.Decoder.instr (k+r) c (k+r) = .ok (.arraylength, k+r+1) := by
    unfold Jvm.ClassFile.Decoder.instr
    refine (bsb (bsu_1 (bsl_k hk (bsl_0 h))) _).trans ?_
    rfl
  exact (bsd e).trans (by rw [Nat.add_sub_cancel_left])
theorem dq_8 {c : ByteArray} {k m r : Nat} {w t : List Nat} (hk : ((bsL c).drop k).take m = w) (h : w.drop r = 8 :: t) : decode c (k+r) = .ok ((.iconst 5), 1) := by
  have e : Jvm.ClassFile.Decoder.instr (k+r) c (k+r) = .ok ((.iconst 5), k+r+1) := by
    unfold Jvm.ClassFile.Decoder.instr
    refine (bsb (bsu_1 (bsl_k hk (bsl_0 h))) _).trans ?_
    rfl
  exact (bsd e).trans (by rw [Nat.add_sub_cancel_left])
theorem dq_100 {c : ByteArray} {k m r : Nat} {w t : List Nat} (hk : ((bsL c).drop k).take m = w) (h : w.drop r = 100 :: t) : decode c (k+r) = .ok (.isub, 1) := by
  have e : Jvm.ClassFile.Decoder.instr (k+r) c (k+r) = .ok (.isub, k+r+1) := by
    unfold Jvm.ClassFile.Decoder.instr
    refine (bsb (bsu_1 (bsl_k hk (bsl_0 h))) _).trans ?_
    rfl
  exact (bsd e).trans (by rw [Nat.add_sub_cancel_left])
theorem dq_163 {c : ByteArray} {k m r : Nat} {w t : List Nat} {y z : Nat} {n : Int} (hk : ((bsL c).drop k).take m = w) (h : w.drop r = 163 :: y :: z :: t) (hn : Jvm.ClassFile.Reader.signed 16 (y*256+z) = n) : decode c (k+r) = .ok (.if_icmp .gt n, 3) := by
  have e : Jvm.ClassFile.Decoder.instr (k+r) c (k+r) = .ok (.if_icmp .gt n, k+r+3) := by
    unfold Jvm.ClassFile.Decoder.instr
    refine (bsb (bsu_1 (bsl_k hk (bsl_0 h))) _).trans ?_
    subst hn
    show (((Jvm.ClassFile.Reader.signed 16) <$> (Jvm.ClassFile.Reader.u2 : Jvm.ClassFile.Decoder Nat)) >>= fun x => (pure (.if_icmp .gt x) : Jvm.ClassFile.Decoder Jvm.ClassFile.Instr)) c (k+r+1) = _
    exact (bsb (bsm (bsu_2 (bsl_k (i := r+1) hk (bsl_1 h)) (bsl_k (i := r+2) hk (bsl_2 h))) _) _).trans rfl
  exact (bsd e).trans (by rw [Nat.add_sub_cancel_left])
theorem dq_46 {c : ByteArray} {k m r : Nat} {w t : List Nat} (hk : ((bsL c).drop k).take m = w) (h : w.drop r = 46 :: t) : decode c (k+r) = .ok (.iaload, 1) := by
  have e : Jvm.ClassFile.Decoder.instr (k+r) c (k+r) = .ok (.iaload, k+r+1) := by
    unfold Jvm.ClassFile.Decoder.instr
    refine (bsb (bsu_1 (bsl_k hk (bsl_0 h))) _).trans ?_
    rfl
  exact (bsd e).trans (by rw [Nat.add_sub_cancel_left])
theorem dq_16 {c : ByteArray} {k m r : Nat} {w t : List Nat} {y : Nat} {n : Int} (hk : ((bsL c).drop k).take m = w) (h : w.drop r = 16 :: y :: t) (hn : Jvm.ClassFile.Reader.signed 8 y = n) : decode c (k+r) = .ok (.bipush n, 2) := by
  have e : Jvm.ClassFile.Decoder.instr (k+r) c (k+r) = .ok (.bipush n, k+r+2) := by
    unfold Jvm.ClassFile.Decoder.instr
    refine (bsb (bsu_1 (bsl_k hk (bsl_0 h))) _).trans ?_
    subst hn
    show (((Jvm.ClassFile.Reader.signed 8) <$> (Jvm.ClassFile.Reader.u1 : Jvm.ClassFile.Decoder Nat)) >>= fun x => (pure (.bipush x) : Jvm.ClassFile.Decoder Jvm.ClassFile.Instr)) c (k+r+1) = _
    exact (bsb (bsm (bsu_1 (bsl_k (i := r+1) hk (bsl_1 h))) _) _).trans rfl
  exact (bsd e).trans (by rw [Nat.add_sub_cancel_left])
theorem dq_126 {c : ByteArray} {k m r : Nat} {w t : List Nat} (hk : ((bsL c).drop k).take m = w) (h : w.drop r = 126 :: t) : decode c (k+r) = .ok (.iand, 1) := by
  have e : Jvm.ClassFile.Decoder.instr (k+r) c (k+r) = .ok (.iand, k+r+1) := by
    unfold Jvm.ClassFile.Decoder.instr
    refine (bsb (bsu_1 (bsl_k hk (bsl_0 h))) _).trans ?_
    rfl
  exact (bsd e).trans (by rw [Nat.add_sub_cancel_left])
theorem dq_43 {c : ByteArray} {k m r : Nat} {w t : List Nat} (hk : ((bsL c).drop k).take m = w) (h : w.drop r = 43 :: t) : decode c (k+r) = .ok ((.aload_n 1), 1) := by
  have e : Jvm.ClassFile.Decoder.instr (k+r) c (k+r) = .ok ((.aload_n 1), k+r+1) := by
    unfold Jvm.ClassFile.Decoder.instr
    refine (bsb (bsu_1 (bsl_k hk (bsl_0 h))) _).trans ?_
    rfl
  exact (bsd e).trans (by rw [Nat.add_sub_cancel_left])
theorem dq_4 {c : ByteArray} {k m r : Nat} {w t : List Nat} (hk : ((bsL c).drop k).take m = w) (h : w.drop r = 4 :: t) : decode c (k+r) = .ok ((.iconst 1), 1) := by
  have e : Jvm.ClassFile.Decoder.instr (k+r) c (k+r) = .ok ((.iconst 1), k+r+1) := by
    unfold Jvm.ClassFile.Decoder.instr
    refine (bsb (bsu_1 (bsl_k hk (bsl_0 h))) _).trans ?_
    rfl
  exact (bsd e).trans (by rw [Nat.add_sub_cancel_left])
theorem dq_96 {c : ByteArray} {k m r : Nat} {w t : List Nat} (hk : ((bsL c).drop k).take m = w) (h : w.drop r = 96 :: t) : decode c (k+r) = .ok (.iadd, 1) := by
  have e : Jvm.ClassFile.Decoder.instr (k+r) c (k+r) = .ok (.iadd, k+r+1) := by
    unfold Jvm.ClassFile.Decoder.instr
    refine (bsb (bsu_1 (bsl_k hk (bsl_0 h))) _).trans ?_
    rfl
  exact (bsd e).trans (by rw [Nat.add_sub_cancel_left])
theorem dq_5 {c : ByteArray} {k m r : Nat} {w t : List Nat} (hk : ((bsL c).drop k).take m = w) (h : w.drop r = 5 :: t) : decode c (k+r) = .ok ((.iconst 2), 1) := by
  have e : Jvm.ClassFile.Decoder.instr (k+r) c (k+r) = .ok ((.iconst 2), k+r+1) := by
    unfold Jvm.ClassFile.Decoder.instr
    refine (bsb (bsu_1 (bsl_k hk (bsl_0 h))) _).trans ?_
    rfl
  exact (bsd e).trans (by rw [Nat.add_sub_cancel_left])
theorem dq_45 {c : ByteArray} {k m r : Nat} {w t : List Nat} (hk : ((bsL c).drop k).take m = w) (h : w.drop r = 45 :: t) : decode c (k+r) = .ok ((.aload_n 3), 1) := by
  have e : Jvm.ClassFile.Decoder.instr (k+r) c (k+r) = .ok ((.aload_n 3), k+r+1) := by
    unfold Jvm.ClassFile.Decoder.instr
    refine (bsb (bsu_1 (bsl_k hk (bsl_0 h))) _).trans ?_
    rfl
  exact (bsd e).trans (by rw [Nat.add_sub_cancel_left])
theorem dq_184 {c : ByteArray} {k m r : Nat} {w t : List Nat} {y z n : Nat} (hk : ((bsL c).drop k).take m = w) (h : w.drop r = 184 :: y :: z :: t) (hn : y*256+z = n) : decode c (k+r) = .ok (.invokestatic n, 3) := by
  have e : Jvm.ClassFile.Decoder.instr (k+r) c (k+r) = .ok (.invokestatic n, k+r+3) := by
    unfold Jvm.ClassFile.Decoder.instr
    refine (bsb (bsu_1 (bsl_k hk (bsl_0 h))) _).trans ?_
    subst hn
    show ((Jvm.ClassFile.Reader.u2 : Jvm.ClassFile.Decoder Nat) >>= fun x => (pure (.invokestatic x) : Jvm.ClassFile.Decoder Jvm.ClassFile.Instr)) c (k+r+1) = _
    exact (bsb (bsu_2 (bsl_k (i := r+1) hk (bsl_1 h)) (bsl_k (i := r+2) hk (bsl_2 h))) _).trans rfl
  exact (bsd e).trans (by rw [Nat.add_sub_cancel_left])
theorem dq_44 {c : ByteArray} {k m r : Nat} {w t : List Nat} (hk : ((bsL c).drop k).take m = w) (h : w.drop r = 44 :: t) : decode c (k+r) = .ok ((.aload_n 2), 1) := by
  have e : Jvm.ClassFile.Decoder.instr (k+r) c (k+r) = .ok ((.aload_n 2), k+r+1) := by
    unfold Jvm.ClassFile.Decoder.instr
    refine (bsb (bsu_1 (bsl_k hk (bsl_0 h))) _).trans ?_
    rfl
  exact (bsd e).trans (by rw [Nat.add_sub_cancel_left])
theorem dq_182 {c : ByteArray} {k m r : Nat} {w t : List Nat} {y z n : Nat} (hk : ((bsL c).drop k).take m = w) (h : w.drop r = 182 :: y :: z :: t) (hn : y*256+z = n) : decode c (k+r) = .ok (.invokevirtual n, 3) := by
  have e : Jvm.ClassFile.Decoder.instr (k+r) c (k+r) = .ok (.invokevirtual n, k+r+3) := by
    unfold Jvm.ClassFile.Decoder.instr
    refine (bsb (bsu_1 (bsl_k hk (bsl_0 h))) _).trans ?_
    subst hn
    show ((Jvm.ClassFile.Reader.u2 : Jvm.ClassFile.Decoder Nat) >>= fun x => (pure (.invokevirtual x) : Jvm.ClassFile.Decoder Jvm.ClassFile.Instr)) c (k+r+1) = _
    exact (bsb (bsu_2 (bsl_k (i := r+1) hk (bsl_1 h)) (bsl_k (i := r+2) hk (bsl_2 h))) _).trans rfl
  exact (bsd e).trans (by rw [Nat.add_sub_cancel_left])
theorem dq_167 {c : ByteArray} {k m r : Nat} {w t : List Nat} {y z : Nat} {n : Int} (hk : ((bsL c).drop k).take m = w) (h : w.drop r = 167 :: y :: z :: t) (hn : Jvm.ClassFile.Reader.signed 16 (y*256+z) = n) : decode c (k+r) = .ok (.goto n, 3) := by
  have e : Jvm.ClassFile.Decoder.instr (k+r) c (k+r) = .ok (.goto n, k+r+3) := by
    unfold Jvm.ClassFile.Decoder.instr
    refine (bsb (bsu_1 (bsl_k hk (bsl_0 h))) _).trans ?_
    subst hn
    show (((Jvm.ClassFile.Reader.signed 16) <$> (Jvm.ClassFile.Reader.u2 : Jvm.ClassFile.Decoder Nat)) >>= fun x => (pure (.goto x) : Jvm.ClassFile.Decoder Jvm.ClassFile.Instr)) c (k+r+1) = _
    exact (bsb (bsm (bsu_2 (bsl_k (i := r+1) hk (bsl_1 h)) (bsl_k (i := r+2) hk (bsl_2 h))) _) _).trans rfl
  exact (bsd e).trans (by rw [Nat.add_sub_cancel_left])
theorem dq_6 {c : ByteArray} {k m r : Nat} {w t : List Nat} (hk : ((bsL c).drop k).take m = w) (h : w.drop r = 6 :: t) : decode c (k+r) = .ok ((.iconst 3), 1) := by
  have e : Jvm.ClassFile.Decoder.instr (k+r) c (k+r) = .ok ((.iconst 3), k+r+1) := by
    unfold Jvm.ClassFile.Decoder.instr
    refine (bsb (bsu_1 (bsl_k hk (bsl_0 h))) _).trans ?_
    rfl
  exact (bsd e).trans (by rw [Nat.add_sub_cancel_left])
theorem dq_7 {c : ByteArray} {k m r : Nat} {w t : List Nat} (hk : ((bsL c).drop k).take m = w) (h : w.drop r = 7 :: t) : decode c (k+r) = .ok ((.iconst 4), 1) := by
  have e : Jvm.ClassFile.Decoder.instr (k+r) c (k+r) = .ok ((.iconst 4), k+r+1) := by
    unfold Jvm.ClassFile.Decoder.instr
    refine (bsb (bsu_1 (bsl_k hk (bsl_0 h))) _).trans ?_
    rfl
  exact (bsd e).trans (by rw [Nat.add_sub_cancel_left])
theorem dq_87 {c : ByteArray} {k m r : Nat} {w t : List Nat} (hk : ((bsL c).drop k).take m = w) (h : w.drop r = 87 :: t) : decode c (k+r) = .ok (.pop, 1) := by
  have e : Jvm.ClassFile.Decoder.instr (k+r) c (k+r) = .ok (.pop, k+r+1) := by
    unfold Jvm.ClassFile.Decoder.instr
    refine (bsb (bsu_1 (bsl_k hk (bsl_0 h))) _).trans ?_
    rfl
  exact (bsd e).trans (by rw [Nat.add_sub_cancel_left])
theorem dq_153 {c : ByteArray} {k m r : Nat} {w t : List Nat} {y z : Nat} {n : Int} (hk : ((bsL c).drop k).take m = w) (h : w.drop r = 153 :: y :: z :: t) (hn : Jvm.ClassFile.Reader.signed 16 (y*256+z) = n) : decode c (k+r) = .ok (.ifCond .eq n, 3) := by
  have e : Jvm.ClassFile.Decoder.instr (k+r) c (k+r) = .ok (.ifCond .eq n, k+r+3) := by
    unfold Jvm.ClassFile.Decoder.instr
    refine (bsb (bsu_1 (bsl_k hk (bsl_0 h))) _).trans ?_
    subst hn
    show (((Jvm.ClassFile.Reader.signed 16) <$> (Jvm.ClassFile.Reader.u2 : Jvm.ClassFile.Decoder Nat)) >>= fun x => (pure (.ifCond .eq x) : Jvm.ClassFile.Decoder Jvm.ClassFile.Instr)) c (k+r+1) = _
    exact (bsb (bsm (bsu_2 (bsl_k (i := r+1) hk (bsl_1 h)) (bsl_k (i := r+2) hk (bsl_2 h))) _) _).trans rfl
  exact (bsd e).trans (by rw [Nat.add_sub_cancel_left])
theorem dq_58 {c : ByteArray} {k m r : Nat} {w t : List Nat} {y n : Nat} (hk : ((bsL c).drop k).take m = w) (h : w.drop r = 58 :: y :: t) (hn : y = n) : decode c (k+r) = .ok (.astore n, 2) := by
  have e : Jvm.ClassFile.Decoder.instr (k+r) c (k+r) = .ok (.astore n, k+r+2) := by
    unfold Jvm.ClassFile.Decoder.instr
    refine (bsb (bsu_1 (bsl_k hk (bsl_0 h))) _).trans ?_
    subst hn
    show ((Jvm.ClassFile.Reader.u1 : Jvm.ClassFile.Decoder Nat) >>= fun x => (pure (.astore x) : Jvm.ClassFile.Decoder Jvm.ClassFile.Instr)) c (k+r+1) = _
    exact (bsb (bsu_1 (bsl_k (i := r+1) hk (bsl_1 h))) _).trans rfl
  exact (bsd e).trans (by rw [Nat.add_sub_cancel_left])
theorem dq_148 {c : ByteArray} {k m r : Nat} {w t : List Nat} (hk : ((bsL c).drop k).take m = w) (h : w.drop r = 148 :: t) : decode c (k+r) = .ok (.lcmp, 1) := by
  have e : Jvm.ClassFile.Decoder.instr (k+r) c (k+r) = .ok (.lcmp, k+r+1) := by
    unfold Jvm.ClassFile.Decoder.instr
    refine (bsb (bsu_1 (bsl_k hk (bsl_0 h))) _).trans ?_
    rfl
  exact (bsd e).trans (by rw [Nat.add_sub_cancel_left])
theorem dq_172 {c : ByteArray} {k m r : Nat} {w t : List Nat} (hk : ((bsL c).drop k).take m = w) (h : w.drop r = 172 :: t) : decode c (k+r) = .ok (.ireturn, 1) := by
  have e : Jvm.ClassFile.Decoder.instr (k+r) c (k+r) = .ok (.ireturn, k+r+1) := by
    unfold Jvm.ClassFile.Decoder.instr
    refine (bsb (bsu_1 (bsl_k hk (bsl_0 h))) _).trans ?_
    rfl
  exact (bsd e).trans (by rw [Nat.add_sub_cancel_left])
noncomputable def wb_0 : List Nat := [187, 0, 8, 89, 183, 0, 155, 76, 187, 0, 156, 89, 183, 0, 158, 77, 187, 0, 14, 89, 183, 0, 159, 78, 3, 54, 4, 21, 4, 42, 190, 8, 100, 163, 7, 226]
set_option maxRecDepth 20000 in
theorem lwb_0 : ((bsL cL_law).drop 0).take 36 = wb_0 := by decide +kernel
noncomputable def wb_1 : List Nat := [100, 163, 7, 226, 42, 21, 4, 46, 16, 63, 126, 170, 0, 0, 7, 210, 0, 0, 0, 0, 0, 0, 0, 49, 0, 0, 0, 213, 0, 0, 0, 253, 0, 0, 1, 49]
set_option maxRecDepth 20000 in
theorem lwb_1 : ((bsL cL_law).drop 32).take 36 = wb_1 := by decide +kernel
noncomputable def wb_8 : List Nat := [43, 42, 21, 4, 4, 96, 46, 42, 21, 4, 5, 96, 46, 45, 184, 0, 160, 54, 5, 44, 42, 21, 4, 4, 96, 46, 42, 21, 4, 5, 96, 46, 182, 0, 165, 54]
set_option maxRecDepth 20000 in
theorem lwb_8 : ((bsL cL_law).drop 256).take 36 = wb_8 := by decide +kernel
noncomputable def wb_9 : List Nat := [182, 0, 165, 54, 6, 167, 6, 216, 43, 42, 21, 4, 4, 96, 46, 42, 21, 4, 5, 96, 46, 42, 21, 4, 6, 96, 46, 45, 184, 0, 166, 54, 5, 44, 42, 21]
set_option maxRecDepth 20000 in
theorem lwb_9 : ((bsL cL_law).drop 288).take 36 = wb_9 := by decide +kernel
noncomputable def wb_10 : List Nat := [5, 44, 42, 21, 4, 4, 96, 46, 42, 21, 4, 5, 96, 46, 42, 21, 4, 6, 96, 46, 182, 0, 169, 54, 6, 167, 6, 164, 43, 42, 21, 4, 4, 96, 46, 42]
set_option maxRecDepth 20000 in
theorem lwb_10 : ((bsL cL_law).drop 320).take 36 = wb_10 := by decide +kernel
noncomputable def wb_11 : List Nat := [4, 96, 46, 42, 21, 4, 5, 96, 46, 42, 21, 4, 6, 96, 46, 45, 184, 0, 170, 54, 5, 44, 42, 21, 4, 4, 96, 46, 42, 21, 4, 5, 96, 46, 42, 21]
set_option maxRecDepth 20000 in
theorem lwb_11 : ((bsL cL_law).drop 352).take 36 = wb_11 := by decide +kernel
noncomputable def wb_12 : List Nat := [96, 46, 42, 21, 4, 6, 96, 46, 182, 0, 172, 54, 6, 167, 6, 112, 43, 42, 21, 4, 4, 96, 46, 42, 21, 4, 5, 96, 46, 45, 184, 0, 173, 54, 5, 44]
set_option maxRecDepth 20000 in
theorem lwb_12 : ((bsL cL_law).drop 384).take 36 = wb_12 := by decide +kernel
noncomputable def wb_13 : List Nat := [173, 54, 5, 44, 42, 21, 4, 4, 96, 46, 42, 21, 4, 5, 96, 46, 182, 0, 175, 54, 6, 167, 6, 72, 43, 42, 21, 4, 4, 96, 46, 42, 21, 4, 5, 96]
set_option maxRecDepth 20000 in
theorem lwb_13 : ((bsL cL_law).drop 416).take 36 = wb_13 := by decide +kernel
noncomputable def wb_14 : List Nat := [21, 4, 5, 96, 46, 45, 184, 0, 176, 54, 5, 44, 42, 21, 4, 4, 96, 46, 42, 21, 4, 5, 96, 46, 182, 0, 178, 54, 6, 167, 6, 32, 43, 42, 21, 4]
set_option maxRecDepth 20000 in
theorem lwb_14 : ((bsL cL_law).drop 448).take 36 = wb_14 := by decide +kernel
noncomputable def wb_15 : List Nat := [43, 42, 21, 4, 4, 96, 46, 42, 21, 4, 5, 96, 46, 45, 184, 0, 179, 54, 5, 44, 42, 21, 4, 4, 96, 46, 42, 21, 4, 5, 96, 46, 182, 0, 181, 54]
set_option maxRecDepth 20000 in
theorem lwb_15 : ((bsL cL_law).drop 480).take 36 = wb_15 := by decide +kernel
noncomputable def wb_16 : List Nat := [182, 0, 181, 54, 6, 167, 5, 248, 43, 42, 21, 4, 4, 96, 46, 45, 184, 0, 182, 54, 5, 44, 42, 21, 4, 4, 96, 46, 182, 0, 185, 54, 6, 167, 5, 220]
set_option maxRecDepth 20000 in
theorem lwb_16 : ((bsL cL_law).drop 512).take 36 = wb_16 := by decide +kernel
noncomputable def wb_17 : List Nat := [6, 167, 5, 220, 43, 42, 21, 4, 4, 96, 46, 45, 184, 0, 186, 54, 5, 44, 42, 21, 4, 4, 96, 46, 182, 0, 188, 54, 6, 167, 5, 192, 43, 42, 21, 4]
set_option maxRecDepth 20000 in
theorem lwb_17 : ((bsL cL_law).drop 544).take 36 = wb_17 := by decide +kernel
noncomputable def wb_18 : List Nat := [43, 42, 21, 4, 4, 96, 46, 42, 21, 4, 5, 96, 46, 42, 21, 4, 6, 96, 46, 45, 184, 0, 189, 54, 5, 44, 42, 21, 4, 4, 96, 46, 42, 21, 4, 5]
set_option maxRecDepth 20000 in
theorem lwb_18 : ((bsL cL_law).drop 576).take 36 = wb_18 := by decide +kernel
noncomputable def wb_19 : List Nat := [42, 21, 4, 5, 96, 46, 42, 21, 4, 6, 96, 46, 182, 0, 191, 54, 6, 167, 5, 140, 43, 42, 21, 4, 4, 96, 46, 42, 21, 4, 5, 96, 46, 42, 21, 4]
set_option maxRecDepth 20000 in
theorem lwb_19 : ((bsL cL_law).drop 608).take 36 = wb_19 := by decide +kernel
noncomputable def wb_20 : List Nat := [46, 42, 21, 4, 6, 96, 46, 45, 184, 0, 192, 54, 5, 44, 42, 21, 4, 4, 96, 46, 42, 21, 4, 5, 96, 46, 42, 21, 4, 6, 96, 46, 182, 0, 194, 54]
set_option maxRecDepth 20000 in
theorem lwb_20 : ((bsL cL_law).drop 640).take 36 = wb_20 := by decide +kernel
noncomputable def wb_21 : List Nat := [182, 0, 194, 54, 6, 167, 5, 88, 43, 42, 21, 4, 4, 96, 46, 42, 21, 4, 5, 96, 46, 45, 184, 0, 195, 54, 5, 44, 42, 21, 4, 4, 96, 46, 42, 21]
set_option maxRecDepth 20000 in
theorem lwb_21 : ((bsL cL_law).drop 672).take 36 = wb_21 := by decide +kernel
noncomputable def wb_22 : List Nat := [96, 46, 42, 21, 4, 5, 96, 46, 182, 0, 197, 54, 6, 167, 5, 48, 43, 42, 21, 4, 4, 96, 46, 42, 21, 4, 5, 96, 46, 42, 21, 4, 6, 96, 46, 45]
set_option maxRecDepth 20000 in
theorem lwb_22 : ((bsL cL_law).drop 704).take 36 = wb_22 := by decide +kernel
noncomputable def wb_23 : List Nat := [6, 96, 46, 45, 184, 0, 198, 54, 5, 44, 42, 21, 4, 4, 96, 46, 42, 21, 4, 5, 96, 46, 42, 21, 4, 6, 96, 46, 182, 0, 200, 54, 6, 167, 4, 252]
set_option maxRecDepth 20000 in
theorem lwb_23 : ((bsL cL_law).drop 736).take 36 = wb_23 := by decide +kernel
noncomputable def wb_24 : List Nat := [6, 167, 4, 252, 43, 42, 21, 4, 4, 96, 46, 42, 21, 4, 5, 96, 46, 42, 21, 4, 6, 96, 46, 45, 184, 0, 201, 54, 5, 44, 42, 21, 4, 4, 96, 46]
set_option maxRecDepth 20000 in
theorem lwb_24 : ((bsL cL_law).drop 768).take 36 = wb_24 := by decide +kernel
noncomputable def wb_25 : List Nat := [4, 4, 96, 46, 42, 21, 4, 5, 96, 46, 42, 21, 4, 6, 96, 46, 182, 0, 203, 54, 6, 167, 4, 200, 43, 42, 21, 4, 4, 96, 46, 42, 21, 4, 5, 96]
set_option maxRecDepth 20000 in
theorem lwb_25 : ((bsL cL_law).drop 800).take 36 = wb_25 := by decide +kernel
noncomputable def wb_26 : List Nat := [21, 4, 5, 96, 46, 42, 21, 4, 6, 96, 46, 45, 184, 0, 204, 54, 5, 44, 42, 21, 4, 4, 96, 46, 42, 21, 4, 5, 96, 46, 42, 21, 4, 6, 96, 46]
set_option maxRecDepth 20000 in
theorem lwb_26 : ((bsL cL_law).drop 832).take 36 = wb_26 := by decide +kernel
noncomputable def wb_27 : List Nat := [4, 6, 96, 46, 182, 0, 206, 54, 6, 167, 4, 148, 43, 42, 21, 4, 4, 96, 46, 42, 21, 4, 5, 96, 46, 42, 21, 4, 6, 96, 46, 42, 21, 4, 7, 96]
set_option maxRecDepth 20000 in
theorem lwb_27 : ((bsL cL_law).drop 864).take 36 = wb_27 := by decide +kernel
noncomputable def wb_28 : List Nat := [21, 4, 7, 96, 46, 45, 184, 0, 207, 54, 5, 44, 42, 21, 4, 4, 96, 46, 42, 21, 4, 5, 96, 46, 42, 21, 4, 6, 96, 46, 42, 21, 4, 7, 96, 46]
set_option maxRecDepth 20000 in
theorem lwb_28 : ((bsL cL_law).drop 896).take 36 = wb_28 := by decide +kernel
noncomputable def wb_29 : List Nat := [4, 7, 96, 46, 182, 0, 210, 54, 6, 167, 4, 84, 43, 42, 21, 4, 4, 96, 46, 42, 21, 4, 5, 96, 46, 42, 21, 4, 6, 96, 46, 42, 21, 4, 7, 96]
set_option maxRecDepth 20000 in
theorem lwb_29 : ((bsL cL_law).drop 928).take 36 = wb_29 := by decide +kernel
noncomputable def wb_30 : List Nat := [21, 4, 7, 96, 46, 45, 184, 0, 211, 54, 5, 44, 42, 21, 4, 4, 96, 46, 42, 21, 4, 5, 96, 46, 42, 21, 4, 6, 96, 46, 42, 21, 4, 7, 96, 46]
set_option maxRecDepth 20000 in
theorem lwb_30 : ((bsL cL_law).drop 960).take 36 = wb_30 := by decide +kernel
noncomputable def wb_31 : List Nat := [4, 7, 96, 46, 182, 0, 213, 54, 6, 167, 4, 20, 43, 42, 21, 4, 4, 96, 46, 42, 21, 4, 5, 96, 46, 45, 184, 0, 214, 54, 5, 44, 42, 21, 4, 4]
set_option maxRecDepth 20000 in
theorem lwb_31 : ((bsL cL_law).drop 992).take 36 = wb_31 := by decide +kernel
noncomputable def wb_32 : List Nat := [42, 21, 4, 4, 96, 46, 42, 21, 4, 5, 96, 46, 182, 0, 216, 54, 6, 167, 3, 236, 43, 42, 21, 4, 4, 96, 46, 42, 21, 4, 5, 96, 46, 42, 21, 4]
set_option maxRecDepth 20000 in
theorem lwb_32 : ((bsL cL_law).drop 1024).take 36 = wb_32 := by decide +kernel
noncomputable def wb_33 : List Nat := [46, 42, 21, 4, 6, 96, 46, 45, 184, 0, 217, 54, 5, 44, 42, 21, 4, 4, 96, 46, 42, 21, 4, 5, 96, 46, 42, 21, 4, 6, 96, 46, 182, 0, 219, 54]
set_option maxRecDepth 20000 in
theorem lwb_33 : ((bsL cL_law).drop 1056).take 36 = wb_33 := by decide +kernel
noncomputable def wb_34 : List Nat := [182, 0, 219, 54, 6, 167, 3, 184, 43, 42, 21, 4, 4, 96, 46, 42, 21, 4, 5, 96, 46, 42, 21, 4, 6, 96, 46, 45, 184, 0, 220, 54, 5, 44, 42, 21]
set_option maxRecDepth 20000 in
theorem lwb_34 : ((bsL cL_law).drop 1088).take 36 = wb_34 := by decide +kernel
noncomputable def wb_35 : List Nat := [5, 44, 42, 21, 4, 4, 96, 46, 42, 21, 4, 5, 96, 46, 42, 21, 4, 6, 96, 46, 182, 0, 222, 54, 6, 167, 3, 132, 43, 42, 21, 4, 4, 96, 46, 42]
set_option maxRecDepth 20000 in
theorem lwb_35 : ((bsL cL_law).drop 1120).take 36 = wb_35 := by decide +kernel
noncomputable def wb_36 : List Nat := [4, 96, 46, 42, 21, 4, 5, 96, 46, 45, 184, 0, 223, 54, 5, 44, 42, 21, 4, 4, 96, 46, 42, 21, 4, 5, 96, 46, 182, 0, 225, 54, 6, 167, 3, 92]
set_option maxRecDepth 20000 in
theorem lwb_36 : ((bsL cL_law).drop 1152).take 36 = wb_36 := by decide +kernel
noncomputable def wb_37 : List Nat := [6, 167, 3, 92, 43, 42, 21, 4, 4, 96, 46, 45, 184, 0, 226, 54, 5, 44, 42, 21, 4, 4, 96, 46, 182, 0, 228, 54, 6, 167, 3, 64, 43, 42, 21, 4]
set_option maxRecDepth 20000 in
theorem lwb_37 : ((bsL cL_law).drop 1184).take 36 = wb_37 := by decide +kernel
noncomputable def wb_38 : List Nat := [43, 42, 21, 4, 4, 96, 46, 45, 184, 0, 229, 54, 5, 44, 42, 21, 4, 4, 96, 46, 182, 0, 231, 54, 6, 167, 3, 36, 43, 182, 0, 232, 87, 44, 182, 0]
set_option maxRecDepth 20000 in
theorem lwb_38 : ((bsL cL_law).drop 1216).take 36 = wb_38 := by decide +kernel
noncomputable def wb_39 : List Nat := [87, 44, 182, 0, 236, 87, 167, 3, 23, 43, 42, 21, 4, 4, 96, 46, 153, 0, 7, 4, 167, 0, 4, 3, 182, 0, 237, 87, 44, 42, 21, 4, 4, 96, 46, 153]
set_option maxRecDepth 20000 in
theorem lwb_39 : ((bsL cL_law).drop 1248).take 36 = wb_39 := by decide +kernel
noncomputable def wb_40 : List Nat := [4, 96, 46, 153, 0, 7, 4, 167, 0, 4, 3, 182, 0, 241, 87, 167, 2, 238, 43, 182, 0, 242, 87, 44, 182, 0, 245, 87, 167, 2, 225, 43, 42, 21, 4, 4]
set_option maxRecDepth 20000 in
theorem lwb_40 : ((bsL cL_law).drop 1280).take 36 = wb_40 := by decide +kernel
noncomputable def wb_41 : List Nat := [42, 21, 4, 4, 96, 46, 42, 21, 4, 5, 96, 46, 45, 184, 0, 246, 54, 5, 44, 42, 21, 4, 4, 96, 46, 42, 21, 4, 5, 96, 46, 182, 0, 248, 54, 6]
set_option maxRecDepth 20000 in
theorem lwb_41 : ((bsL cL_law).drop 1312).take 36 = wb_41 := by decide +kernel
noncomputable def wb_42 : List Nat := [0, 248, 54, 6, 167, 2, 185, 43, 42, 21, 4, 4, 96, 46, 45, 184, 0, 249, 54, 5, 44, 42, 21, 4, 4, 96, 46, 182, 0, 251, 54, 6, 167, 2, 157, 43]
set_option maxRecDepth 20000 in
theorem lwb_42 : ((bsL cL_law).drop 1344).take 36 = wb_42 := by decide +kernel
noncomputable def wb_43 : List Nat := [167, 2, 157, 43, 42, 21, 4, 4, 96, 46, 45, 184, 0, 252, 54, 5, 44, 42, 21, 4, 4, 96, 46, 182, 0, 254, 54, 6, 167, 2, 129, 43, 42, 21, 4, 4]
set_option maxRecDepth 20000 in
theorem lwb_43 : ((bsL cL_law).drop 1376).take 36 = wb_43 := by decide +kernel
noncomputable def wb_44 : List Nat := [42, 21, 4, 4, 96, 46, 45, 184, 0, 255, 54, 5, 44, 42, 21, 4, 4, 96, 46, 182, 1, 1, 54, 6, 167, 2, 101, 43, 42, 21, 4, 4, 96, 46, 45, 184]
set_option maxRecDepth 20000 in
theorem lwb_44 : ((bsL cL_law).drop 1408).take 36 = wb_44 := by decide +kernel
noncomputable def wb_45 : List Nat := [96, 46, 45, 184, 1, 2, 54, 5, 44, 42, 21, 4, 4, 96, 46, 182, 1, 4, 54, 6, 167, 2, 73, 43, 42, 21, 4, 4, 96, 46, 45, 184, 1, 5, 54, 5]
set_option maxRecDepth 20000 in
theorem lwb_45 : ((bsL cL_law).drop 1440).take 36 = wb_45 := by decide +kernel
noncomputable def wb_46 : List Nat := [1, 5, 54, 5, 44, 42, 21, 4, 4, 96, 46, 182, 1, 7, 54, 6, 167, 2, 45, 43, 42, 21, 4, 4, 96, 46, 45, 184, 1, 8, 54, 5, 44, 42, 21, 4]
set_option maxRecDepth 20000 in
theorem lwb_46 : ((bsL cL_law).drop 1472).take 36 = wb_46 := by decide +kernel
noncomputable def wb_47 : List Nat := [44, 42, 21, 4, 4, 96, 46, 182, 1, 10, 54, 6, 167, 2, 17, 43, 42, 21, 4, 4, 96, 46, 42, 21, 4, 5, 96, 46, 45, 184, 1, 11, 54, 5, 44, 42]
set_option maxRecDepth 20000 in
theorem lwb_47 : ((bsL cL_law).drop 1504).take 36 = wb_47 := by decide +kernel
noncomputable def wb_48 : List Nat := [54, 5, 44, 42, 21, 4, 4, 96, 46, 42, 21, 4, 5, 96, 46, 182, 1, 13, 54, 6, 167, 1, 233, 43, 42, 21, 4, 4, 96, 46, 45, 184, 1, 14, 54, 5]
set_option maxRecDepth 20000 in
theorem lwb_48 : ((bsL cL_law).drop 1536).take 36 = wb_48 := by decide +kernel
noncomputable def wb_49 : List Nat := [1, 14, 54, 5, 44, 42, 21, 4, 4, 96, 46, 182, 1, 16, 54, 6, 167, 1, 205, 43, 42, 21, 4, 4, 96, 46, 45, 184, 1, 17, 54, 5, 44, 42, 21, 4]
set_option maxRecDepth 20000 in
theorem lwb_49 : ((bsL cL_law).drop 1568).take 36 = wb_49 := by decide +kernel
noncomputable def wb_50 : List Nat := [44, 42, 21, 4, 4, 96, 46, 182, 1, 19, 54, 6, 167, 1, 177, 43, 42, 21, 4, 4, 96, 46, 45, 184, 1, 20, 54, 5, 44, 42, 21, 4, 4, 96, 46, 182]
set_option maxRecDepth 20000 in
theorem lwb_50 : ((bsL cL_law).drop 1600).take 36 = wb_50 := by decide +kernel
noncomputable def wb_51 : List Nat := [4, 96, 46, 182, 1, 22, 58, 6, 167, 1, 149, 43, 42, 21, 4, 4, 96, 46, 42, 21, 4, 5, 96, 46, 45, 184, 1, 23, 54, 5, 44, 42, 21, 4, 4, 96]
set_option maxRecDepth 20000 in
theorem lwb_51 : ((bsL cL_law).drop 1632).take 36 = wb_51 := by decide +kernel
noncomputable def wb_52 : List Nat := [21, 4, 4, 96, 46, 42, 21, 4, 5, 96, 46, 182, 1, 25, 54, 6, 167, 1, 109, 43, 42, 21, 4, 4, 96, 46, 42, 21, 4, 5, 96, 46, 45, 184, 1, 26]
set_option maxRecDepth 20000 in
theorem lwb_52 : ((bsL cL_law).drop 1664).take 36 = wb_52 := by decide +kernel
noncomputable def wb_53 : List Nat := [45, 184, 1, 26, 54, 5, 44, 42, 21, 4, 4, 96, 46, 42, 21, 4, 5, 96, 46, 182, 1, 28, 54, 6, 167, 1, 69, 43, 42, 21, 4, 4, 96, 46, 42, 21]
set_option maxRecDepth 20000 in
theorem lwb_53 : ((bsL cL_law).drop 1696).take 36 = wb_53 := by decide +kernel
noncomputable def wb_54 : List Nat := [96, 46, 42, 21, 4, 5, 96, 46, 45, 184, 1, 29, 54, 5, 44, 42, 21, 4, 4, 96, 46, 42, 21, 4, 5, 96, 46, 182, 1, 31, 54, 6, 167, 1, 29, 43]
set_option maxRecDepth 20000 in
theorem lwb_54 : ((bsL cL_law).drop 1728).take 36 = wb_54 := by decide +kernel
noncomputable def wb_55 : List Nat := [167, 1, 29, 43, 42, 21, 4, 4, 96, 46, 42, 21, 4, 5, 96, 46, 45, 184, 1, 32, 54, 5, 44, 42, 21, 4, 4, 96, 46, 42, 21, 4, 5, 96, 46, 182]
set_option maxRecDepth 20000 in
theorem lwb_55 : ((bsL cL_law).drop 1760).take 36 = wb_55 := by decide +kernel
noncomputable def wb_56 : List Nat := [5, 96, 46, 182, 1, 34, 54, 6, 167, 0, 245, 43, 42, 21, 4, 4, 96, 46, 42, 21, 4, 5, 96, 46, 45, 184, 1, 35, 54, 5, 44, 42, 21, 4, 4, 96]
set_option maxRecDepth 20000 in
theorem lwb_56 : ((bsL cL_law).drop 1792).take 36 = wb_56 := by decide +kernel
noncomputable def wb_57 : List Nat := [21, 4, 4, 96, 46, 42, 21, 4, 5, 96, 46, 182, 1, 37, 54, 6, 167, 0, 205, 43, 42, 21, 4, 4, 96, 46, 42, 21, 4, 5, 96, 46, 45, 184, 1, 38]
set_option maxRecDepth 20000 in
theorem lwb_57 : ((bsL cL_law).drop 1824).take 36 = wb_57 := by decide +kernel
noncomputable def wb_58 : List Nat := [45, 184, 1, 38, 54, 5, 44, 42, 21, 4, 4, 96, 46, 42, 21, 4, 5, 96, 46, 182, 1, 40, 54, 6, 167, 0, 165, 43, 42, 21, 4, 4, 96, 46, 42, 21]
set_option maxRecDepth 20000 in
theorem lwb_58 : ((bsL cL_law).drop 1856).take 36 = wb_58 := by decide +kernel
noncomputable def wb_59 : List Nat := [96, 46, 42, 21, 4, 5, 96, 46, 45, 184, 1, 41, 54, 5, 44, 42, 21, 4, 4, 96, 46, 42, 21, 4, 5, 96, 46, 182, 1, 43, 54, 6, 167, 0, 125, 43]
set_option maxRecDepth 20000 in
theorem lwb_59 : ((bsL cL_law).drop 1888).take 36 = wb_59 := by decide +kernel
noncomputable def wb_60 : List Nat := [167, 0, 125, 43, 42, 21, 4, 4, 96, 46, 45, 184, 1, 44, 54, 5, 44, 42, 21, 4, 4, 96, 46, 182, 1, 46, 58, 6, 167, 0, 97, 43, 182, 1, 47, 87]
set_option maxRecDepth 20000 in
theorem lwb_60 : ((bsL cL_law).drop 1920).take 36 = wb_60 := by decide +kernel
noncomputable def wb_61 : List Nat := [182, 1, 47, 87, 44, 182, 1, 51, 87, 167, 0, 84, 43, 182, 1, 52, 87, 44, 182, 1, 55, 87, 167, 0, 71, 43, 42, 21, 4, 4, 96, 46, 45, 184, 1, 56]
set_option maxRecDepth 20000 in
theorem lwb_61 : ((bsL cL_law).drop 1952).take 36 = wb_61 := by decide +kernel
noncomputable def wb_62 : List Nat := [45, 184, 1, 56, 54, 5, 44, 42, 21, 4, 4, 96, 46, 182, 1, 58, 54, 6, 167, 0, 43, 43, 182, 1, 59, 87, 44, 182, 1, 62, 87, 167, 0, 30, 43, 182]
set_option maxRecDepth 20000 in
theorem lwb_62 : ((bsL cL_law).drop 1984).take 36 = wb_62 := by decide +kernel
noncomputable def wb_63 : List Nat := [0, 30, 43, 182, 1, 63, 87, 44, 182, 1, 67, 87, 167, 0, 17, 43, 182, 1, 68, 44, 182, 1, 72, 148, 153, 0, 5, 3, 172, 132, 4, 5, 167, 248, 27, 4]
set_option maxRecDepth 20000 in
theorem lwb_63 : ((bsL cL_law).drop 2016).take 36 = wb_63 := by decide +kernel
noncomputable def wb_64 : List Nat := [167, 248, 27, 4, 172]
set_option maxRecDepth 20000 in
theorem lwb_64 : ((bsL cL_law).drop 2048).take 36 = wb_64 := by decide +kernel
theorem dL_law_0 : decode cL_law 0 = .ok (.new 8, 3) := dq_187 (k := 0) (r := 0) lwb_0 rfl rfl
theorem dL_law_3 : decode cL_law 3 = .ok (.dup, 1) := dq_89 (k := 0) (r := 3) lwb_0 rfl
theorem dL_law_4 : decode cL_law 4 = .ok (.invokespecial 155, 3) := dq_183 (k := 0) (r := 4) lwb_0 rfl rfl
theorem dL_law_7 : decode cL_law 7 = .ok (.astore_n 1, 1) := dq_76 (k := 0) (r := 7) lwb_0 rfl
theorem dL_law_8 : decode cL_law 8 = .ok (.new 156, 3) := dq_187 (k := 0) (r := 8) lwb_0 rfl rfl
theorem dL_law_11 : decode cL_law 11 = .ok (.dup, 1) := dq_89 (k := 0) (r := 11) lwb_0 rfl
theorem dL_law_12 : decode cL_law 12 = .ok (.invokespecial 158, 3) := dq_183 (k := 0) (r := 12) lwb_0 rfl rfl
theorem dL_law_15 : decode cL_law 15 = .ok (.astore_n 2, 1) := dq_77 (k := 0) (r := 15) lwb_0 rfl
theorem dL_law_16 : decode cL_law 16 = .ok (.new 14, 3) := dq_187 (k := 0) (r := 16) lwb_0 rfl rfl
theorem dL_law_19 : decode cL_law 19 = .ok (.dup, 1) := dq_89 (k := 0) (r := 19) lwb_0 rfl
theorem dL_law_20 : decode cL_law 20 = .ok (.invokespecial 159, 3) := dq_183 (k := 0) (r := 20) lwb_0 rfl rfl
theorem dL_law_23 : decode cL_law 23 = .ok (.astore_n 3, 1) := dq_78 (k := 0) (r := 23) lwb_0 rfl
theorem dL_law_24 : decode cL_law 24 = .ok (.iconst 0, 1) := dq_3 (k := 0) (r := 24) lwb_0 rfl
theorem dL_law_25 : decode cL_law 25 = .ok (.istore 4, 2) := dq_54 (k := 0) (r := 25) lwb_0 rfl rfl
theorem dL_law_27 : decode cL_law 27 = .ok (.iload 4, 2) := dq_21 (k := 0) (r := 27) lwb_0 rfl rfl
theorem dL_law_29 : decode cL_law 29 = .ok (.aload_n 0, 1) := dq_42 (k := 0) (r := 29) lwb_0 rfl
theorem dL_law_30 : decode cL_law 30 = .ok (.arraylength, 1) := dq_190 (k := 0) (r := 30) lwb_0 rfl
theorem dL_law_31 : decode cL_law 31 = .ok (.iconst 5, 1) := dq_8 (k := 0) (r := 31) lwb_0 rfl
theorem dL_law_32 : decode cL_law 32 = .ok (.isub, 1) := dq_100 (k := 32) (r := 0) lwb_1 rfl
theorem dL_law_33 : decode cL_law 33 = .ok (.if_icmp .gt 2018, 3) := dq_163 (k := 32) (r := 1) lwb_1 rfl (by decide +kernel)
theorem dL_law_36 : decode cL_law 36 = .ok (.aload_n 0, 1) := dq_42 (k := 32) (r := 4) lwb_1 rfl
theorem dL_law_37 : decode cL_law 37 = .ok (.iload 4, 2) := dq_21 (k := 32) (r := 5) lwb_1 rfl rfl
theorem dL_law_39 : decode cL_law 39 = .ok (.iaload, 1) := dq_46 (k := 32) (r := 7) lwb_1 rfl
theorem dL_law_40 : decode cL_law 40 = .ok (.bipush 63, 2) := dq_16 (k := 32) (r := 8) lwb_1 rfl (by decide +kernel)
theorem dL_law_42 : decode cL_law 42 = .ok (.iand, 1) := dq_126 (k := 32) (r := 10) lwb_1 rfl
theorem dL_law_43 : decode cL_law 43 = .ok (.tableswitch 2002 0 49 #[213, 253, 305, 357, 397, 437, 477, 505, 533, 585, 637, 677, 729, 781, 833, 897, 961, 1001, 1053, 1105, 1145, 1173, 1201, 1214, 1255, 1268, 1308, 1336, 1364, 1392, 1420, 1448, 1476, 1516, 1544, 1572, 1600, 1640, 1680, 1720, 1760, 1800, 1840, 1880, 1908, 1921, 1934, 1962, 1975, 1988], 213) := by decide +kernel
theorem dL_law_256 : decode cL_law 256 = .ok (.aload_n 1, 1) := dq_43 (k := 256) (r := 0) lwb_8 rfl
theorem dL_law_257 : decode cL_law 257 = .ok (.aload_n 0, 1) := dq_42 (k := 256) (r := 1) lwb_8 rfl
theorem dL_law_258 : decode cL_law 258 = .ok (.iload 4, 2) := dq_21 (k := 256) (r := 2) lwb_8 rfl rfl
theorem dL_law_260 : decode cL_law 260 = .ok (.iconst 1, 1) := dq_4 (k := 256) (r := 4) lwb_8 rfl
theorem dL_law_261 : decode cL_law 261 = .ok (.iadd, 1) := dq_96 (k := 256) (r := 5) lwb_8 rfl
theorem dL_law_262 : decode cL_law 262 = .ok (.iaload, 1) := dq_46 (k := 256) (r := 6) lwb_8 rfl
theorem dL_law_263 : decode cL_law 263 = .ok (.aload_n 0, 1) := dq_42 (k := 256) (r := 7) lwb_8 rfl
theorem dL_law_264 : decode cL_law 264 = .ok (.iload 4, 2) := dq_21 (k := 256) (r := 8) lwb_8 rfl rfl
theorem dL_law_266 : decode cL_law 266 = .ok (.iconst 2, 1) := dq_5 (k := 256) (r := 10) lwb_8 rfl
theorem dL_law_267 : decode cL_law 267 = .ok (.iadd, 1) := dq_96 (k := 256) (r := 11) lwb_8 rfl
theorem dL_law_268 : decode cL_law 268 = .ok (.iaload, 1) := dq_46 (k := 256) (r := 12) lwb_8 rfl
theorem dL_law_269 : decode cL_law 269 = .ok (.aload_n 3, 1) := dq_45 (k := 256) (r := 13) lwb_8 rfl
theorem dL_law_270 : decode cL_law 270 = .ok (.invokestatic 160, 3) := dq_184 (k := 256) (r := 14) lwb_8 rfl rfl
theorem dL_law_273 : decode cL_law 273 = .ok (.istore 5, 2) := dq_54 (k := 256) (r := 17) lwb_8 rfl rfl
theorem dL_law_275 : decode cL_law 275 = .ok (.aload_n 2, 1) := dq_44 (k := 256) (r := 19) lwb_8 rfl
theorem dL_law_276 : decode cL_law 276 = .ok (.aload_n 0, 1) := dq_42 (k := 256) (r := 20) lwb_8 rfl
theorem dL_law_277 : decode cL_law 277 = .ok (.iload 4, 2) := dq_21 (k := 256) (r := 21) lwb_8 rfl rfl
theorem dL_law_279 : decode cL_law 279 = .ok (.iconst 1, 1) := dq_4 (k := 256) (r := 23) lwb_8 rfl
theorem dL_law_280 : decode cL_law 280 = .ok (.iadd, 1) := dq_96 (k := 256) (r := 24) lwb_8 rfl
theorem dL_law_281 : decode cL_law 281 = .ok (.iaload, 1) := dq_46 (k := 256) (r := 25) lwb_8 rfl
theorem dL_law_282 : decode cL_law 282 = .ok (.aload_n 0, 1) := dq_42 (k := 256) (r := 26) lwb_8 rfl
theorem dL_law_283 : decode cL_law 283 = .ok (.iload 4, 2) := dq_21 (k := 256) (r := 27) lwb_8 rfl rfl
theorem dL_law_285 : decode cL_law 285 = .ok (.iconst 2, 1) := dq_5 (k := 256) (r := 29) lwb_8 rfl
theorem dL_law_286 : decode cL_law 286 = .ok (.iadd, 1) := dq_96 (k := 256) (r := 30) lwb_8 rfl
theorem dL_law_287 : decode cL_law 287 = .ok (.iaload, 1) := dq_46 (k := 256) (r := 31) lwb_8 rfl
theorem dL_law_288 : decode cL_law 288 = .ok (.invokevirtual 165, 3) := dq_182 (k := 288) (r := 0) lwb_9 rfl rfl
theorem dL_law_291 : decode cL_law 291 = .ok (.istore 6, 2) := dq_54 (k := 288) (r := 3) lwb_9 rfl rfl
theorem dL_law_293 : decode cL_law 293 = .ok (.goto 1752, 3) := dq_167 (k := 288) (r := 5) lwb_9 rfl (by decide +kernel)
theorem dL_law_296 : decode cL_law 296 = .ok (.aload_n 1, 1) := dq_43 (k := 288) (r := 8) lwb_9 rfl
theorem dL_law_297 : decode cL_law 297 = .ok (.aload_n 0, 1) := dq_42 (k := 288) (r := 9) lwb_9 rfl
theorem dL_law_298 : decode cL_law 298 = .ok (.iload 4, 2) := dq_21 (k := 288) (r := 10) lwb_9 rfl rfl
theorem dL_law_300 : decode cL_law 300 = .ok (.iconst 1, 1) := dq_4 (k := 288) (r := 12) lwb_9 rfl
theorem dL_law_301 : decode cL_law 301 = .ok (.iadd, 1) := dq_96 (k := 288) (r := 13) lwb_9 rfl
theorem dL_law_302 : decode cL_law 302 = .ok (.iaload, 1) := dq_46 (k := 288) (r := 14) lwb_9 rfl
theorem dL_law_303 : decode cL_law 303 = .ok (.aload_n 0, 1) := dq_42 (k := 288) (r := 15) lwb_9 rfl
theorem dL_law_304 : decode cL_law 304 = .ok (.iload 4, 2) := dq_21 (k := 288) (r := 16) lwb_9 rfl rfl
theorem dL_law_306 : decode cL_law 306 = .ok (.iconst 2, 1) := dq_5 (k := 288) (r := 18) lwb_9 rfl
theorem dL_law_307 : decode cL_law 307 = .ok (.iadd, 1) := dq_96 (k := 288) (r := 19) lwb_9 rfl
theorem dL_law_308 : decode cL_law 308 = .ok (.iaload, 1) := dq_46 (k := 288) (r := 20) lwb_9 rfl
theorem dL_law_309 : decode cL_law 309 = .ok (.aload_n 0, 1) := dq_42 (k := 288) (r := 21) lwb_9 rfl
theorem dL_law_310 : decode cL_law 310 = .ok (.iload 4, 2) := dq_21 (k := 288) (r := 22) lwb_9 rfl rfl
theorem dL_law_312 : decode cL_law 312 = .ok (.iconst 3, 1) := dq_6 (k := 288) (r := 24) lwb_9 rfl
theorem dL_law_313 : decode cL_law 313 = .ok (.iadd, 1) := dq_96 (k := 288) (r := 25) lwb_9 rfl
theorem dL_law_314 : decode cL_law 314 = .ok (.iaload, 1) := dq_46 (k := 288) (r := 26) lwb_9 rfl
theorem dL_law_315 : decode cL_law 315 = .ok (.aload_n 3, 1) := dq_45 (k := 288) (r := 27) lwb_9 rfl
theorem dL_law_316 : decode cL_law 316 = .ok (.invokestatic 166, 3) := dq_184 (k := 288) (r := 28) lwb_9 rfl rfl
theorem dL_law_319 : decode cL_law 319 = .ok (.istore 5, 2) := dq_54 (k := 288) (r := 31) lwb_9 rfl rfl
theorem dL_law_321 : decode cL_law 321 = .ok (.aload_n 2, 1) := dq_44 (k := 320) (r := 1) lwb_10 rfl
theorem dL_law_322 : decode cL_law 322 = .ok (.aload_n 0, 1) := dq_42 (k := 320) (r := 2) lwb_10 rfl
theorem dL_law_323 : decode cL_law 323 = .ok (.iload 4, 2) := dq_21 (k := 320) (r := 3) lwb_10 rfl rfl
theorem dL_law_325 : decode cL_law 325 = .ok (.iconst 1, 1) := dq_4 (k := 320) (r := 5) lwb_10 rfl
theorem dL_law_326 : decode cL_law 326 = .ok (.iadd, 1) := dq_96 (k := 320) (r := 6) lwb_10 rfl
theorem dL_law_327 : decode cL_law 327 = .ok (.iaload, 1) := dq_46 (k := 320) (r := 7) lwb_10 rfl
theorem dL_law_328 : decode cL_law 328 = .ok (.aload_n 0, 1) := dq_42 (k := 320) (r := 8) lwb_10 rfl
theorem dL_law_329 : decode cL_law 329 = .ok (.iload 4, 2) := dq_21 (k := 320) (r := 9) lwb_10 rfl rfl
theorem dL_law_331 : decode cL_law 331 = .ok (.iconst 2, 1) := dq_5 (k := 320) (r := 11) lwb_10 rfl
theorem dL_law_332 : decode cL_law 332 = .ok (.iadd, 1) := dq_96 (k := 320) (r := 12) lwb_10 rfl
theorem dL_law_333 : decode cL_law 333 = .ok (.iaload, 1) := dq_46 (k := 320) (r := 13) lwb_10 rfl
theorem dL_law_334 : decode cL_law 334 = .ok (.aload_n 0, 1) := dq_42 (k := 320) (r := 14) lwb_10 rfl
theorem dL_law_335 : decode cL_law 335 = .ok (.iload 4, 2) := dq_21 (k := 320) (r := 15) lwb_10 rfl rfl
theorem dL_law_337 : decode cL_law 337 = .ok (.iconst 3, 1) := dq_6 (k := 320) (r := 17) lwb_10 rfl
theorem dL_law_338 : decode cL_law 338 = .ok (.iadd, 1) := dq_96 (k := 320) (r := 18) lwb_10 rfl
theorem dL_law_339 : decode cL_law 339 = .ok (.iaload, 1) := dq_46 (k := 320) (r := 19) lwb_10 rfl
theorem dL_law_340 : decode cL_law 340 = .ok (.invokevirtual 169, 3) := dq_182 (k := 320) (r := 20) lwb_10 rfl rfl
theorem dL_law_343 : decode cL_law 343 = .ok (.istore 6, 2) := dq_54 (k := 320) (r := 23) lwb_10 rfl rfl
theorem dL_law_345 : decode cL_law 345 = .ok (.goto 1700, 3) := dq_167 (k := 320) (r := 25) lwb_10 rfl (by decide +kernel)
theorem dL_law_348 : decode cL_law 348 = .ok (.aload_n 1, 1) := dq_43 (k := 320) (r := 28) lwb_10 rfl
theorem dL_law_349 : decode cL_law 349 = .ok (.aload_n 0, 1) := dq_42 (k := 320) (r := 29) lwb_10 rfl
theorem dL_law_350 : decode cL_law 350 = .ok (.iload 4, 2) := dq_21 (k := 320) (r := 30) lwb_10 rfl rfl
theorem dL_law_352 : decode cL_law 352 = .ok (.iconst 1, 1) := dq_4 (k := 352) (r := 0) lwb_11 rfl
theorem dL_law_353 : decode cL_law 353 = .ok (.iadd, 1) := dq_96 (k := 352) (r := 1) lwb_11 rfl
theorem dL_law_354 : decode cL_law 354 = .ok (.iaload, 1) := dq_46 (k := 352) (r := 2) lwb_11 rfl
theorem dL_law_355 : decode cL_law 355 = .ok (.aload_n 0, 1) := dq_42 (k := 352) (r := 3) lwb_11 rfl
theorem dL_law_356 : decode cL_law 356 = .ok (.iload 4, 2) := dq_21 (k := 352) (r := 4) lwb_11 rfl rfl
theorem dL_law_358 : decode cL_law 358 = .ok (.iconst 2, 1) := dq_5 (k := 352) (r := 6) lwb_11 rfl
theorem dL_law_359 : decode cL_law 359 = .ok (.iadd, 1) := dq_96 (k := 352) (r := 7) lwb_11 rfl
theorem dL_law_360 : decode cL_law 360 = .ok (.iaload, 1) := dq_46 (k := 352) (r := 8) lwb_11 rfl
theorem dL_law_361 : decode cL_law 361 = .ok (.aload_n 0, 1) := dq_42 (k := 352) (r := 9) lwb_11 rfl
theorem dL_law_362 : decode cL_law 362 = .ok (.iload 4, 2) := dq_21 (k := 352) (r := 10) lwb_11 rfl rfl
theorem dL_law_364 : decode cL_law 364 = .ok (.iconst 3, 1) := dq_6 (k := 352) (r := 12) lwb_11 rfl
theorem dL_law_365 : decode cL_law 365 = .ok (.iadd, 1) := dq_96 (k := 352) (r := 13) lwb_11 rfl
theorem dL_law_366 : decode cL_law 366 = .ok (.iaload, 1) := dq_46 (k := 352) (r := 14) lwb_11 rfl
theorem dL_law_367 : decode cL_law 367 = .ok (.aload_n 3, 1) := dq_45 (k := 352) (r := 15) lwb_11 rfl
theorem dL_law_368 : decode cL_law 368 = .ok (.invokestatic 170, 3) := dq_184 (k := 352) (r := 16) lwb_11 rfl rfl
theorem dL_law_371 : decode cL_law 371 = .ok (.istore 5, 2) := dq_54 (k := 352) (r := 19) lwb_11 rfl rfl
theorem dL_law_373 : decode cL_law 373 = .ok (.aload_n 2, 1) := dq_44 (k := 352) (r := 21) lwb_11 rfl
theorem dL_law_374 : decode cL_law 374 = .ok (.aload_n 0, 1) := dq_42 (k := 352) (r := 22) lwb_11 rfl
theorem dL_law_375 : decode cL_law 375 = .ok (.iload 4, 2) := dq_21 (k := 352) (r := 23) lwb_11 rfl rfl
theorem dL_law_377 : decode cL_law 377 = .ok (.iconst 1, 1) := dq_4 (k := 352) (r := 25) lwb_11 rfl
theorem dL_law_378 : decode cL_law 378 = .ok (.iadd, 1) := dq_96 (k := 352) (r := 26) lwb_11 rfl
theorem dL_law_379 : decode cL_law 379 = .ok (.iaload, 1) := dq_46 (k := 352) (r := 27) lwb_11 rfl
theorem dL_law_380 : decode cL_law 380 = .ok (.aload_n 0, 1) := dq_42 (k := 352) (r := 28) lwb_11 rfl
theorem dL_law_381 : decode cL_law 381 = .ok (.iload 4, 2) := dq_21 (k := 352) (r := 29) lwb_11 rfl rfl
theorem dL_law_383 : decode cL_law 383 = .ok (.iconst 2, 1) := dq_5 (k := 352) (r := 31) lwb_11 rfl
theorem dL_law_384 : decode cL_law 384 = .ok (.iadd, 1) := dq_96 (k := 384) (r := 0) lwb_12 rfl
theorem dL_law_385 : decode cL_law 385 = .ok (.iaload, 1) := dq_46 (k := 384) (r := 1) lwb_12 rfl
theorem dL_law_386 : decode cL_law 386 = .ok (.aload_n 0, 1) := dq_42 (k := 384) (r := 2) lwb_12 rfl
theorem dL_law_387 : decode cL_law 387 = .ok (.iload 4, 2) := dq_21 (k := 384) (r := 3) lwb_12 rfl rfl
theorem dL_law_389 : decode cL_law 389 = .ok (.iconst 3, 1) := dq_6 (k := 384) (r := 5) lwb_12 rfl
theorem dL_law_390 : decode cL_law 390 = .ok (.iadd, 1) := dq_96 (k := 384) (r := 6) lwb_12 rfl
theorem dL_law_391 : decode cL_law 391 = .ok (.iaload, 1) := dq_46 (k := 384) (r := 7) lwb_12 rfl
theorem dL_law_392 : decode cL_law 392 = .ok (.invokevirtual 172, 3) := dq_182 (k := 384) (r := 8) lwb_12 rfl rfl
theorem dL_law_395 : decode cL_law 395 = .ok (.istore 6, 2) := dq_54 (k := 384) (r := 11) lwb_12 rfl rfl
theorem dL_law_397 : decode cL_law 397 = .ok (.goto 1648, 3) := dq_167 (k := 384) (r := 13) lwb_12 rfl (by decide +kernel)
theorem dL_law_400 : decode cL_law 400 = .ok (.aload_n 1, 1) := dq_43 (k := 384) (r := 16) lwb_12 rfl
theorem dL_law_401 : decode cL_law 401 = .ok (.aload_n 0, 1) := dq_42 (k := 384) (r := 17) lwb_12 rfl
theorem dL_law_402 : decode cL_law 402 = .ok (.iload 4, 2) := dq_21 (k := 384) (r := 18) lwb_12 rfl rfl
theorem dL_law_404 : decode cL_law 404 = .ok (.iconst 1, 1) := dq_4 (k := 384) (r := 20) lwb_12 rfl
theorem dL_law_405 : decode cL_law 405 = .ok (.iadd, 1) := dq_96 (k := 384) (r := 21) lwb_12 rfl
theorem dL_law_406 : decode cL_law 406 = .ok (.iaload, 1) := dq_46 (k := 384) (r := 22) lwb_12 rfl
theorem dL_law_407 : decode cL_law 407 = .ok (.aload_n 0, 1) := dq_42 (k := 384) (r := 23) lwb_12 rfl
theorem dL_law_408 : decode cL_law 408 = .ok (.iload 4, 2) := dq_21 (k := 384) (r := 24) lwb_12 rfl rfl
theorem dL_law_410 : decode cL_law 410 = .ok (.iconst 2, 1) := dq_5 (k := 384) (r := 26) lwb_12 rfl
theorem dL_law_411 : decode cL_law 411 = .ok (.iadd, 1) := dq_96 (k := 384) (r := 27) lwb_12 rfl
theorem dL_law_412 : decode cL_law 412 = .ok (.iaload, 1) := dq_46 (k := 384) (r := 28) lwb_12 rfl
theorem dL_law_413 : decode cL_law 413 = .ok (.aload_n 3, 1) := dq_45 (k := 384) (r := 29) lwb_12 rfl
theorem dL_law_414 : decode cL_law 414 = .ok (.invokestatic 173, 3) := dq_184 (k := 384) (r := 30) lwb_12 rfl rfl
theorem dL_law_417 : decode cL_law 417 = .ok (.istore 5, 2) := dq_54 (k := 416) (r := 1) lwb_13 rfl rfl
theorem dL_law_419 : decode cL_law 419 = .ok (.aload_n 2, 1) := dq_44 (k := 416) (r := 3) lwb_13 rfl
theorem dL_law_420 : decode cL_law 420 = .ok (.aload_n 0, 1) := dq_42 (k := 416) (r := 4) lwb_13 rfl
theorem dL_law_421 : decode cL_law 421 = .ok (.iload 4, 2) := dq_21 (k := 416) (r := 5) lwb_13 rfl rfl
theorem dL_law_423 : decode cL_law 423 = .ok (.iconst 1, 1) := dq_4 (k := 416) (r := 7) lwb_13 rfl
theorem dL_law_424 : decode cL_law 424 = .ok (.iadd, 1) := dq_96 (k := 416) (r := 8) lwb_13 rfl
theorem dL_law_425 : decode cL_law 425 = .ok (.iaload, 1) := dq_46 (k := 416) (r := 9) lwb_13 rfl
theorem dL_law_426 : decode cL_law 426 = .ok (.aload_n 0, 1) := dq_42 (k := 416) (r := 10) lwb_13 rfl
theorem dL_law_427 : decode cL_law 427 = .ok (.iload 4, 2) := dq_21 (k := 416) (r := 11) lwb_13 rfl rfl
theorem dL_law_429 : decode cL_law 429 = .ok (.iconst 2, 1) := dq_5 (k := 416) (r := 13) lwb_13 rfl
theorem dL_law_430 : decode cL_law 430 = .ok (.iadd, 1) := dq_96 (k := 416) (r := 14) lwb_13 rfl
theorem dL_law_431 : decode cL_law 431 = .ok (.iaload, 1) := dq_46 (k := 416) (r := 15) lwb_13 rfl
theorem dL_law_432 : decode cL_law 432 = .ok (.invokevirtual 175, 3) := dq_182 (k := 416) (r := 16) lwb_13 rfl rfl
theorem dL_law_435 : decode cL_law 435 = .ok (.istore 6, 2) := dq_54 (k := 416) (r := 19) lwb_13 rfl rfl
theorem dL_law_437 : decode cL_law 437 = .ok (.goto 1608, 3) := dq_167 (k := 416) (r := 21) lwb_13 rfl (by decide +kernel)
theorem dL_law_440 : decode cL_law 440 = .ok (.aload_n 1, 1) := dq_43 (k := 416) (r := 24) lwb_13 rfl
theorem dL_law_441 : decode cL_law 441 = .ok (.aload_n 0, 1) := dq_42 (k := 416) (r := 25) lwb_13 rfl
theorem dL_law_442 : decode cL_law 442 = .ok (.iload 4, 2) := dq_21 (k := 416) (r := 26) lwb_13 rfl rfl
theorem dL_law_444 : decode cL_law 444 = .ok (.iconst 1, 1) := dq_4 (k := 416) (r := 28) lwb_13 rfl
theorem dL_law_445 : decode cL_law 445 = .ok (.iadd, 1) := dq_96 (k := 416) (r := 29) lwb_13 rfl
theorem dL_law_446 : decode cL_law 446 = .ok (.iaload, 1) := dq_46 (k := 416) (r := 30) lwb_13 rfl
theorem dL_law_447 : decode cL_law 447 = .ok (.aload_n 0, 1) := dq_42 (k := 416) (r := 31) lwb_13 rfl
theorem dL_law_448 : decode cL_law 448 = .ok (.iload 4, 2) := dq_21 (k := 448) (r := 0) lwb_14 rfl rfl
theorem dL_law_450 : decode cL_law 450 = .ok (.iconst 2, 1) := dq_5 (k := 448) (r := 2) lwb_14 rfl
theorem dL_law_451 : decode cL_law 451 = .ok (.iadd, 1) := dq_96 (k := 448) (r := 3) lwb_14 rfl
theorem dL_law_452 : decode cL_law 452 = .ok (.iaload, 1) := dq_46 (k := 448) (r := 4) lwb_14 rfl
theorem dL_law_453 : decode cL_law 453 = .ok (.aload_n 3, 1) := dq_45 (k := 448) (r := 5) lwb_14 rfl
theorem dL_law_454 : decode cL_law 454 = .ok (.invokestatic 176, 3) := dq_184 (k := 448) (r := 6) lwb_14 rfl rfl
theorem dL_law_457 : decode cL_law 457 = .ok (.istore 5, 2) := dq_54 (k := 448) (r := 9) lwb_14 rfl rfl
theorem dL_law_459 : decode cL_law 459 = .ok (.aload_n 2, 1) := dq_44 (k := 448) (r := 11) lwb_14 rfl
theorem dL_law_460 : decode cL_law 460 = .ok (.aload_n 0, 1) := dq_42 (k := 448) (r := 12) lwb_14 rfl
theorem dL_law_461 : decode cL_law 461 = .ok (.iload 4, 2) := dq_21 (k := 448) (r := 13) lwb_14 rfl rfl
theorem dL_law_463 : decode cL_law 463 = .ok (.iconst 1, 1) := dq_4 (k := 448) (r := 15) lwb_14 rfl
theorem dL_law_464 : decode cL_law 464 = .ok (.iadd, 1) := dq_96 (k := 448) (r := 16) lwb_14 rfl
theorem dL_law_465 : decode cL_law 465 = .ok (.iaload, 1) := dq_46 (k := 448) (r := 17) lwb_14 rfl
theorem dL_law_466 : decode cL_law 466 = .ok (.aload_n 0, 1) := dq_42 (k := 448) (r := 18) lwb_14 rfl
theorem dL_law_467 : decode cL_law 467 = .ok (.iload 4, 2) := dq_21 (k := 448) (r := 19) lwb_14 rfl rfl
theorem dL_law_469 : decode cL_law 469 = .ok (.iconst 2, 1) := dq_5 (k := 448) (r := 21) lwb_14 rfl
theorem dL_law_470 : decode cL_law 470 = .ok (.iadd, 1) := dq_96 (k := 448) (r := 22) lwb_14 rfl
theorem dL_law_471 : decode cL_law 471 = .ok (.iaload, 1) := dq_46 (k := 448) (r := 23) lwb_14 rfl
theorem dL_law_472 : decode cL_law 472 = .ok (.invokevirtual 178, 3) := dq_182 (k := 448) (r := 24) lwb_14 rfl rfl
theorem dL_law_475 : decode cL_law 475 = .ok (.istore 6, 2) := dq_54 (k := 448) (r := 27) lwb_14 rfl rfl
theorem dL_law_477 : decode cL_law 477 = .ok (.goto 1568, 3) := dq_167 (k := 448) (r := 29) lwb_14 rfl (by decide +kernel)
theorem dL_law_480 : decode cL_law 480 = .ok (.aload_n 1, 1) := dq_43 (k := 480) (r := 0) lwb_15 rfl
theorem dL_law_481 : decode cL_law 481 = .ok (.aload_n 0, 1) := dq_42 (k := 480) (r := 1) lwb_15 rfl
theorem dL_law_482 : decode cL_law 482 = .ok (.iload 4, 2) := dq_21 (k := 480) (r := 2) lwb_15 rfl rfl
theorem dL_law_484 : decode cL_law 484 = .ok (.iconst 1, 1) := dq_4 (k := 480) (r := 4) lwb_15 rfl
theorem dL_law_485 : decode cL_law 485 = .ok (.iadd, 1) := dq_96 (k := 480) (r := 5) lwb_15 rfl
theorem dL_law_486 : decode cL_law 486 = .ok (.iaload, 1) := dq_46 (k := 480) (r := 6) lwb_15 rfl
theorem dL_law_487 : decode cL_law 487 = .ok (.aload_n 0, 1) := dq_42 (k := 480) (r := 7) lwb_15 rfl
theorem dL_law_488 : decode cL_law 488 = .ok (.iload 4, 2) := dq_21 (k := 480) (r := 8) lwb_15 rfl rfl
theorem dL_law_490 : decode cL_law 490 = .ok (.iconst 2, 1) := dq_5 (k := 480) (r := 10) lwb_15 rfl
theorem dL_law_491 : decode cL_law 491 = .ok (.iadd, 1) := dq_96 (k := 480) (r := 11) lwb_15 rfl
theorem dL_law_492 : decode cL_law 492 = .ok (.iaload, 1) := dq_46 (k := 480) (r := 12) lwb_15 rfl
theorem dL_law_493 : decode cL_law 493 = .ok (.aload_n 3, 1) := dq_45 (k := 480) (r := 13) lwb_15 rfl
theorem dL_law_494 : decode cL_law 494 = .ok (.invokestatic 179, 3) := dq_184 (k := 480) (r := 14) lwb_15 rfl rfl
theorem dL_law_497 : decode cL_law 497 = .ok (.istore 5, 2) := dq_54 (k := 480) (r := 17) lwb_15 rfl rfl
theorem dL_law_499 : decode cL_law 499 = .ok (.aload_n 2, 1) := dq_44 (k := 480) (r := 19) lwb_15 rfl
theorem dL_law_500 : decode cL_law 500 = .ok (.aload_n 0, 1) := dq_42 (k := 480) (r := 20) lwb_15 rfl
theorem dL_law_501 : decode cL_law 501 = .ok (.iload 4, 2) := dq_21 (k := 480) (r := 21) lwb_15 rfl rfl
theorem dL_law_503 : decode cL_law 503 = .ok (.iconst 1, 1) := dq_4 (k := 480) (r := 23) lwb_15 rfl
theorem dL_law_504 : decode cL_law 504 = .ok (.iadd, 1) := dq_96 (k := 480) (r := 24) lwb_15 rfl
theorem dL_law_505 : decode cL_law 505 = .ok (.iaload, 1) := dq_46 (k := 480) (r := 25) lwb_15 rfl
theorem dL_law_506 : decode cL_law 506 = .ok (.aload_n 0, 1) := dq_42 (k := 480) (r := 26) lwb_15 rfl
theorem dL_law_507 : decode cL_law 507 = .ok (.iload 4, 2) := dq_21 (k := 480) (r := 27) lwb_15 rfl rfl
theorem dL_law_509 : decode cL_law 509 = .ok (.iconst 2, 1) := dq_5 (k := 480) (r := 29) lwb_15 rfl
theorem dL_law_510 : decode cL_law 510 = .ok (.iadd, 1) := dq_96 (k := 480) (r := 30) lwb_15 rfl
theorem dL_law_511 : decode cL_law 511 = .ok (.iaload, 1) := dq_46 (k := 480) (r := 31) lwb_15 rfl
theorem dL_law_512 : decode cL_law 512 = .ok (.invokevirtual 181, 3) := dq_182 (k := 512) (r := 0) lwb_16 rfl rfl
theorem dL_law_515 : decode cL_law 515 = .ok (.istore 6, 2) := dq_54 (k := 512) (r := 3) lwb_16 rfl rfl
theorem dL_law_517 : decode cL_law 517 = .ok (.goto 1528, 3) := dq_167 (k := 512) (r := 5) lwb_16 rfl (by decide +kernel)
theorem dL_law_520 : decode cL_law 520 = .ok (.aload_n 1, 1) := dq_43 (k := 512) (r := 8) lwb_16 rfl
theorem dL_law_521 : decode cL_law 521 = .ok (.aload_n 0, 1) := dq_42 (k := 512) (r := 9) lwb_16 rfl
theorem dL_law_522 : decode cL_law 522 = .ok (.iload 4, 2) := dq_21 (k := 512) (r := 10) lwb_16 rfl rfl
theorem dL_law_524 : decode cL_law 524 = .ok (.iconst 1, 1) := dq_4 (k := 512) (r := 12) lwb_16 rfl
theorem dL_law_525 : decode cL_law 525 = .ok (.iadd, 1) := dq_96 (k := 512) (r := 13) lwb_16 rfl
theorem dL_law_526 : decode cL_law 526 = .ok (.iaload, 1) := dq_46 (k := 512) (r := 14) lwb_16 rfl
theorem dL_law_527 : decode cL_law 527 = .ok (.aload_n 3, 1) := dq_45 (k := 512) (r := 15) lwb_16 rfl
theorem dL_law_528 : decode cL_law 528 = .ok (.invokestatic 182, 3) := dq_184 (k := 512) (r := 16) lwb_16 rfl rfl
theorem dL_law_531 : decode cL_law 531 = .ok (.istore 5, 2) := dq_54 (k := 512) (r := 19) lwb_16 rfl rfl
theorem dL_law_533 : decode cL_law 533 = .ok (.aload_n 2, 1) := dq_44 (k := 512) (r := 21) lwb_16 rfl
theorem dL_law_534 : decode cL_law 534 = .ok (.aload_n 0, 1) := dq_42 (k := 512) (r := 22) lwb_16 rfl
theorem dL_law_535 : decode cL_law 535 = .ok (.iload 4, 2) := dq_21 (k := 512) (r := 23) lwb_16 rfl rfl
theorem dL_law_537 : decode cL_law 537 = .ok (.iconst 1, 1) := dq_4 (k := 512) (r := 25) lwb_16 rfl
theorem dL_law_538 : decode cL_law 538 = .ok (.iadd, 1) := dq_96 (k := 512) (r := 26) lwb_16 rfl
theorem dL_law_539 : decode cL_law 539 = .ok (.iaload, 1) := dq_46 (k := 512) (r := 27) lwb_16 rfl
theorem dL_law_540 : decode cL_law 540 = .ok (.invokevirtual 185, 3) := dq_182 (k := 512) (r := 28) lwb_16 rfl rfl
theorem dL_law_543 : decode cL_law 543 = .ok (.istore 6, 2) := dq_54 (k := 512) (r := 31) lwb_16 rfl rfl
theorem dL_law_545 : decode cL_law 545 = .ok (.goto 1500, 3) := dq_167 (k := 544) (r := 1) lwb_17 rfl (by decide +kernel)
theorem dL_law_548 : decode cL_law 548 = .ok (.aload_n 1, 1) := dq_43 (k := 544) (r := 4) lwb_17 rfl
theorem dL_law_549 : decode cL_law 549 = .ok (.aload_n 0, 1) := dq_42 (k := 544) (r := 5) lwb_17 rfl
theorem dL_law_550 : decode cL_law 550 = .ok (.iload 4, 2) := dq_21 (k := 544) (r := 6) lwb_17 rfl rfl
theorem dL_law_552 : decode cL_law 552 = .ok (.iconst 1, 1) := dq_4 (k := 544) (r := 8) lwb_17 rfl
theorem dL_law_553 : decode cL_law 553 = .ok (.iadd, 1) := dq_96 (k := 544) (r := 9) lwb_17 rfl
theorem dL_law_554 : decode cL_law 554 = .ok (.iaload, 1) := dq_46 (k := 544) (r := 10) lwb_17 rfl
theorem dL_law_555 : decode cL_law 555 = .ok (.aload_n 3, 1) := dq_45 (k := 544) (r := 11) lwb_17 rfl
theorem dL_law_556 : decode cL_law 556 = .ok (.invokestatic 186, 3) := dq_184 (k := 544) (r := 12) lwb_17 rfl rfl
theorem dL_law_559 : decode cL_law 559 = .ok (.istore 5, 2) := dq_54 (k := 544) (r := 15) lwb_17 rfl rfl
theorem dL_law_561 : decode cL_law 561 = .ok (.aload_n 2, 1) := dq_44 (k := 544) (r := 17) lwb_17 rfl
theorem dL_law_562 : decode cL_law 562 = .ok (.aload_n 0, 1) := dq_42 (k := 544) (r := 18) lwb_17 rfl
theorem dL_law_563 : decode cL_law 563 = .ok (.iload 4, 2) := dq_21 (k := 544) (r := 19) lwb_17 rfl rfl
theorem dL_law_565 : decode cL_law 565 = .ok (.iconst 1, 1) := dq_4 (k := 544) (r := 21) lwb_17 rfl
theorem dL_law_566 : decode cL_law 566 = .ok (.iadd, 1) := dq_96 (k := 544) (r := 22) lwb_17 rfl
theorem dL_law_567 : decode cL_law 567 = .ok (.iaload, 1) := dq_46 (k := 544) (r := 23) lwb_17 rfl
theorem dL_law_568 : decode cL_law 568 = .ok (.invokevirtual 188, 3) := dq_182 (k := 544) (r := 24) lwb_17 rfl rfl
theorem dL_law_571 : decode cL_law 571 = .ok (.istore 6, 2) := dq_54 (k := 544) (r := 27) lwb_17 rfl rfl
theorem dL_law_573 : decode cL_law 573 = .ok (.goto 1472, 3) := dq_167 (k := 544) (r := 29) lwb_17 rfl (by decide +kernel)
theorem dL_law_576 : decode cL_law 576 = .ok (.aload_n 1, 1) := dq_43 (k := 576) (r := 0) lwb_18 rfl
theorem dL_law_577 : decode cL_law 577 = .ok (.aload_n 0, 1) := dq_42 (k := 576) (r := 1) lwb_18 rfl
theorem dL_law_578 : decode cL_law 578 = .ok (.iload 4, 2) := dq_21 (k := 576) (r := 2) lwb_18 rfl rfl
theorem dL_law_580 : decode cL_law 580 = .ok (.iconst 1, 1) := dq_4 (k := 576) (r := 4) lwb_18 rfl
theorem dL_law_581 : decode cL_law 581 = .ok (.iadd, 1) := dq_96 (k := 576) (r := 5) lwb_18 rfl
theorem dL_law_582 : decode cL_law 582 = .ok (.iaload, 1) := dq_46 (k := 576) (r := 6) lwb_18 rfl
theorem dL_law_583 : decode cL_law 583 = .ok (.aload_n 0, 1) := dq_42 (k := 576) (r := 7) lwb_18 rfl
theorem dL_law_584 : decode cL_law 584 = .ok (.iload 4, 2) := dq_21 (k := 576) (r := 8) lwb_18 rfl rfl
theorem dL_law_586 : decode cL_law 586 = .ok (.iconst 2, 1) := dq_5 (k := 576) (r := 10) lwb_18 rfl
theorem dL_law_587 : decode cL_law 587 = .ok (.iadd, 1) := dq_96 (k := 576) (r := 11) lwb_18 rfl
theorem dL_law_588 : decode cL_law 588 = .ok (.iaload, 1) := dq_46 (k := 576) (r := 12) lwb_18 rfl
theorem dL_law_589 : decode cL_law 589 = .ok (.aload_n 0, 1) := dq_42 (k := 576) (r := 13) lwb_18 rfl
theorem dL_law_590 : decode cL_law 590 = .ok (.iload 4, 2) := dq_21 (k := 576) (r := 14) lwb_18 rfl rfl
theorem dL_law_592 : decode cL_law 592 = .ok (.iconst 3, 1) := dq_6 (k := 576) (r := 16) lwb_18 rfl
theorem dL_law_593 : decode cL_law 593 = .ok (.iadd, 1) := dq_96 (k := 576) (r := 17) lwb_18 rfl
theorem dL_law_594 : decode cL_law 594 = .ok (.iaload, 1) := dq_46 (k := 576) (r := 18) lwb_18 rfl
theorem dL_law_595 : decode cL_law 595 = .ok (.aload_n 3, 1) := dq_45 (k := 576) (r := 19) lwb_18 rfl
theorem dL_law_596 : decode cL_law 596 = .ok (.invokestatic 189, 3) := dq_184 (k := 576) (r := 20) lwb_18 rfl rfl
theorem dL_law_599 : decode cL_law 599 = .ok (.istore 5, 2) := dq_54 (k := 576) (r := 23) lwb_18 rfl rfl
theorem dL_law_601 : decode cL_law 601 = .ok (.aload_n 2, 1) := dq_44 (k := 576) (r := 25) lwb_18 rfl
theorem dL_law_602 : decode cL_law 602 = .ok (.aload_n 0, 1) := dq_42 (k := 576) (r := 26) lwb_18 rfl
theorem dL_law_603 : decode cL_law 603 = .ok (.iload 4, 2) := dq_21 (k := 576) (r := 27) lwb_18 rfl rfl
theorem dL_law_605 : decode cL_law 605 = .ok (.iconst 1, 1) := dq_4 (k := 576) (r := 29) lwb_18 rfl
theorem dL_law_606 : decode cL_law 606 = .ok (.iadd, 1) := dq_96 (k := 576) (r := 30) lwb_18 rfl
theorem dL_law_607 : decode cL_law 607 = .ok (.iaload, 1) := dq_46 (k := 576) (r := 31) lwb_18 rfl
theorem dL_law_608 : decode cL_law 608 = .ok (.aload_n 0, 1) := dq_42 (k := 608) (r := 0) lwb_19 rfl
theorem dL_law_609 : decode cL_law 609 = .ok (.iload 4, 2) := dq_21 (k := 608) (r := 1) lwb_19 rfl rfl
theorem dL_law_611 : decode cL_law 611 = .ok (.iconst 2, 1) := dq_5 (k := 608) (r := 3) lwb_19 rfl
theorem dL_law_612 : decode cL_law 612 = .ok (.iadd, 1) := dq_96 (k := 608) (r := 4) lwb_19 rfl
theorem dL_law_613 : decode cL_law 613 = .ok (.iaload, 1) := dq_46 (k := 608) (r := 5) lwb_19 rfl
theorem dL_law_614 : decode cL_law 614 = .ok (.aload_n 0, 1) := dq_42 (k := 608) (r := 6) lwb_19 rfl
theorem dL_law_615 : decode cL_law 615 = .ok (.iload 4, 2) := dq_21 (k := 608) (r := 7) lwb_19 rfl rfl
theorem dL_law_617 : decode cL_law 617 = .ok (.iconst 3, 1) := dq_6 (k := 608) (r := 9) lwb_19 rfl
theorem dL_law_618 : decode cL_law 618 = .ok (.iadd, 1) := dq_96 (k := 608) (r := 10) lwb_19 rfl
theorem dL_law_619 : decode cL_law 619 = .ok (.iaload, 1) := dq_46 (k := 608) (r := 11) lwb_19 rfl
theorem dL_law_620 : decode cL_law 620 = .ok (.invokevirtual 191, 3) := dq_182 (k := 608) (r := 12) lwb_19 rfl rfl
theorem dL_law_623 : decode cL_law 623 = .ok (.istore 6, 2) := dq_54 (k := 608) (r := 15) lwb_19 rfl rfl
theorem dL_law_625 : decode cL_law 625 = .ok (.goto 1420, 3) := dq_167 (k := 608) (r := 17) lwb_19 rfl (by decide +kernel)
theorem dL_law_628 : decode cL_law 628 = .ok (.aload_n 1, 1) := dq_43 (k := 608) (r := 20) lwb_19 rfl
theorem dL_law_629 : decode cL_law 629 = .ok (.aload_n 0, 1) := dq_42 (k := 608) (r := 21) lwb_19 rfl
theorem dL_law_630 : decode cL_law 630 = .ok (.iload 4, 2) := dq_21 (k := 608) (r := 22) lwb_19 rfl rfl
theorem dL_law_632 : decode cL_law 632 = .ok (.iconst 1, 1) := dq_4 (k := 608) (r := 24) lwb_19 rfl
theorem dL_law_633 : decode cL_law 633 = .ok (.iadd, 1) := dq_96 (k := 608) (r := 25) lwb_19 rfl
theorem dL_law_634 : decode cL_law 634 = .ok (.iaload, 1) := dq_46 (k := 608) (r := 26) lwb_19 rfl
theorem dL_law_635 : decode cL_law 635 = .ok (.aload_n 0, 1) := dq_42 (k := 608) (r := 27) lwb_19 rfl
theorem dL_law_636 : decode cL_law 636 = .ok (.iload 4, 2) := dq_21 (k := 608) (r := 28) lwb_19 rfl rfl
theorem dL_law_638 : decode cL_law 638 = .ok (.iconst 2, 1) := dq_5 (k := 608) (r := 30) lwb_19 rfl
theorem dL_law_639 : decode cL_law 639 = .ok (.iadd, 1) := dq_96 (k := 608) (r := 31) lwb_19 rfl
theorem dL_law_640 : decode cL_law 640 = .ok (.iaload, 1) := dq_46 (k := 640) (r := 0) lwb_20 rfl
theorem dL_law_641 : decode cL_law 641 = .ok (.aload_n 0, 1) := dq_42 (k := 640) (r := 1) lwb_20 rfl
theorem dL_law_642 : decode cL_law 642 = .ok (.iload 4, 2) := dq_21 (k := 640) (r := 2) lwb_20 rfl rfl
theorem dL_law_644 : decode cL_law 644 = .ok (.iconst 3, 1) := dq_6 (k := 640) (r := 4) lwb_20 rfl
theorem dL_law_645 : decode cL_law 645 = .ok (.iadd, 1) := dq_96 (k := 640) (r := 5) lwb_20 rfl
theorem dL_law_646 : decode cL_law 646 = .ok (.iaload, 1) := dq_46 (k := 640) (r := 6) lwb_20 rfl
theorem dL_law_647 : decode cL_law 647 = .ok (.aload_n 3, 1) := dq_45 (k := 640) (r := 7) lwb_20 rfl
theorem dL_law_648 : decode cL_law 648 = .ok (.invokestatic 192, 3) := dq_184 (k := 640) (r := 8) lwb_20 rfl rfl
theorem dL_law_651 : decode cL_law 651 = .ok (.istore 5, 2) := dq_54 (k := 640) (r := 11) lwb_20 rfl rfl
theorem dL_law_653 : decode cL_law 653 = .ok (.aload_n 2, 1) := dq_44 (k := 640) (r := 13) lwb_20 rfl
theorem dL_law_654 : decode cL_law 654 = .ok (.aload_n 0, 1) := dq_42 (k := 640) (r := 14) lwb_20 rfl
theorem dL_law_655 : decode cL_law 655 = .ok (.iload 4, 2) := dq_21 (k := 640) (r := 15) lwb_20 rfl rfl
theorem dL_law_657 : decode cL_law 657 = .ok (.iconst 1, 1) := dq_4 (k := 640) (r := 17) lwb_20 rfl
theorem dL_law_658 : decode cL_law 658 = .ok (.iadd, 1) := dq_96 (k := 640) (r := 18) lwb_20 rfl
theorem dL_law_659 : decode cL_law 659 = .ok (.iaload, 1) := dq_46 (k := 640) (r := 19) lwb_20 rfl
theorem dL_law_660 : decode cL_law 660 = .ok (.aload_n 0, 1) := dq_42 (k := 640) (r := 20) lwb_20 rfl
theorem dL_law_661 : decode cL_law 661 = .ok (.iload 4, 2) := dq_21 (k := 640) (r := 21) lwb_20 rfl rfl
theorem dL_law_663 : decode cL_law 663 = .ok (.iconst 2, 1) := dq_5 (k := 640) (r := 23) lwb_20 rfl
theorem dL_law_664 : decode cL_law 664 = .ok (.iadd, 1) := dq_96 (k := 640) (r := 24) lwb_20 rfl
theorem dL_law_665 : decode cL_law 665 = .ok (.iaload, 1) := dq_46 (k := 640) (r := 25) lwb_20 rfl
theorem dL_law_666 : decode cL_law 666 = .ok (.aload_n 0, 1) := dq_42 (k := 640) (r := 26) lwb_20 rfl
theorem dL_law_667 : decode cL_law 667 = .ok (.iload 4, 2) := dq_21 (k := 640) (r := 27) lwb_20 rfl rfl
theorem dL_law_669 : decode cL_law 669 = .ok (.iconst 3, 1) := dq_6 (k := 640) (r := 29) lwb_20 rfl
theorem dL_law_670 : decode cL_law 670 = .ok (.iadd, 1) := dq_96 (k := 640) (r := 30) lwb_20 rfl
theorem dL_law_671 : decode cL_law 671 = .ok (.iaload, 1) := dq_46 (k := 640) (r := 31) lwb_20 rfl
theorem dL_law_672 : decode cL_law 672 = .ok (.invokevirtual 194, 3) := dq_182 (k := 672) (r := 0) lwb_21 rfl rfl
theorem dL_law_675 : decode cL_law 675 = .ok (.istore 6, 2) := dq_54 (k := 672) (r := 3) lwb_21 rfl rfl
theorem dL_law_677 : decode cL_law 677 = .ok (.goto 1368, 3) := dq_167 (k := 672) (r := 5) lwb_21 rfl (by decide +kernel)
theorem dL_law_680 : decode cL_law 680 = .ok (.aload_n 1, 1) := dq_43 (k := 672) (r := 8) lwb_21 rfl
theorem dL_law_681 : decode cL_law 681 = .ok (.aload_n 0, 1) := dq_42 (k := 672) (r := 9) lwb_21 rfl
theorem dL_law_682 : decode cL_law 682 = .ok (.iload 4, 2) := dq_21 (k := 672) (r := 10) lwb_21 rfl rfl
theorem dL_law_684 : decode cL_law 684 = .ok (.iconst 1, 1) := dq_4 (k := 672) (r := 12) lwb_21 rfl
theorem dL_law_685 : decode cL_law 685 = .ok (.iadd, 1) := dq_96 (k := 672) (r := 13) lwb_21 rfl
theorem dL_law_686 : decode cL_law 686 = .ok (.iaload, 1) := dq_46 (k := 672) (r := 14) lwb_21 rfl
theorem dL_law_687 : decode cL_law 687 = .ok (.aload_n 0, 1) := dq_42 (k := 672) (r := 15) lwb_21 rfl
theorem dL_law_688 : decode cL_law 688 = .ok (.iload 4, 2) := dq_21 (k := 672) (r := 16) lwb_21 rfl rfl
theorem dL_law_690 : decode cL_law 690 = .ok (.iconst 2, 1) := dq_5 (k := 672) (r := 18) lwb_21 rfl
theorem dL_law_691 : decode cL_law 691 = .ok (.iadd, 1) := dq_96 (k := 672) (r := 19) lwb_21 rfl
theorem dL_law_692 : decode cL_law 692 = .ok (.iaload, 1) := dq_46 (k := 672) (r := 20) lwb_21 rfl
theorem dL_law_693 : decode cL_law 693 = .ok (.aload_n 3, 1) := dq_45 (k := 672) (r := 21) lwb_21 rfl
theorem dL_law_694 : decode cL_law 694 = .ok (.invokestatic 195, 3) := dq_184 (k := 672) (r := 22) lwb_21 rfl rfl
theorem dL_law_697 : decode cL_law 697 = .ok (.istore 5, 2) := dq_54 (k := 672) (r := 25) lwb_21 rfl rfl
theorem dL_law_699 : decode cL_law 699 = .ok (.aload_n 2, 1) := dq_44 (k := 672) (r := 27) lwb_21 rfl
theorem dL_law_700 : decode cL_law 700 = .ok (.aload_n 0, 1) := dq_42 (k := 672) (r := 28) lwb_21 rfl
theorem dL_law_701 : decode cL_law 701 = .ok (.iload 4, 2) := dq_21 (k := 672) (r := 29) lwb_21 rfl rfl
theorem dL_law_703 : decode cL_law 703 = .ok (.iconst 1, 1) := dq_4 (k := 672) (r := 31) lwb_21 rfl
theorem dL_law_704 : decode cL_law 704 = .ok (.iadd, 1) := dq_96 (k := 704) (r := 0) lwb_22 rfl
theorem dL_law_705 : decode cL_law 705 = .ok (.iaload, 1) := dq_46 (k := 704) (r := 1) lwb_22 rfl
theorem dL_law_706 : decode cL_law 706 = .ok (.aload_n 0, 1) := dq_42 (k := 704) (r := 2) lwb_22 rfl
theorem dL_law_707 : decode cL_law 707 = .ok (.iload 4, 2) := dq_21 (k := 704) (r := 3) lwb_22 rfl rfl
theorem dL_law_709 : decode cL_law 709 = .ok (.iconst 2, 1) := dq_5 (k := 704) (r := 5) lwb_22 rfl
theorem dL_law_710 : decode cL_law 710 = .ok (.iadd, 1) := dq_96 (k := 704) (r := 6) lwb_22 rfl
theorem dL_law_711 : decode cL_law 711 = .ok (.iaload, 1) := dq_46 (k := 704) (r := 7) lwb_22 rfl
theorem dL_law_712 : decode cL_law 712 = .ok (.invokevirtual 197, 3) := dq_182 (k := 704) (r := 8) lwb_22 rfl rfl
theorem dL_law_715 : decode cL_law 715 = .ok (.istore 6, 2) := dq_54 (k := 704) (r := 11) lwb_22 rfl rfl
theorem dL_law_717 : decode cL_law 717 = .ok (.goto 1328, 3) := dq_167 (k := 704) (r := 13) lwb_22 rfl (by decide +kernel)
theorem dL_law_720 : decode cL_law 720 = .ok (.aload_n 1, 1) := dq_43 (k := 704) (r := 16) lwb_22 rfl
theorem dL_law_721 : decode cL_law 721 = .ok (.aload_n 0, 1) := dq_42 (k := 704) (r := 17) lwb_22 rfl
theorem dL_law_722 : decode cL_law 722 = .ok (.iload 4, 2) := dq_21 (k := 704) (r := 18) lwb_22 rfl rfl
theorem dL_law_724 : decode cL_law 724 = .ok (.iconst 1, 1) := dq_4 (k := 704) (r := 20) lwb_22 rfl
theorem dL_law_725 : decode cL_law 725 = .ok (.iadd, 1) := dq_96 (k := 704) (r := 21) lwb_22 rfl
theorem dL_law_726 : decode cL_law 726 = .ok (.iaload, 1) := dq_46 (k := 704) (r := 22) lwb_22 rfl
theorem dL_law_727 : decode cL_law 727 = .ok (.aload_n 0, 1) := dq_42 (k := 704) (r := 23) lwb_22 rfl
theorem dL_law_728 : decode cL_law 728 = .ok (.iload 4, 2) := dq_21 (k := 704) (r := 24) lwb_22 rfl rfl
theorem dL_law_730 : decode cL_law 730 = .ok (.iconst 2, 1) := dq_5 (k := 704) (r := 26) lwb_22 rfl
theorem dL_law_731 : decode cL_law 731 = .ok (.iadd, 1) := dq_96 (k := 704) (r := 27) lwb_22 rfl
theorem dL_law_732 : decode cL_law 732 = .ok (.iaload, 1) := dq_46 (k := 704) (r := 28) lwb_22 rfl
theorem dL_law_733 : decode cL_law 733 = .ok (.aload_n 0, 1) := dq_42 (k := 704) (r := 29) lwb_22 rfl
theorem dL_law_734 : decode cL_law 734 = .ok (.iload 4, 2) := dq_21 (k := 704) (r := 30) lwb_22 rfl rfl
theorem dL_law_736 : decode cL_law 736 = .ok (.iconst 3, 1) := dq_6 (k := 736) (r := 0) lwb_23 rfl
theorem dL_law_737 : decode cL_law 737 = .ok (.iadd, 1) := dq_96 (k := 736) (r := 1) lwb_23 rfl
theorem dL_law_738 : decode cL_law 738 = .ok (.iaload, 1) := dq_46 (k := 736) (r := 2) lwb_23 rfl
theorem dL_law_739 : decode cL_law 739 = .ok (.aload_n 3, 1) := dq_45 (k := 736) (r := 3) lwb_23 rfl
theorem dL_law_740 : decode cL_law 740 = .ok (.invokestatic 198, 3) := dq_184 (k := 736) (r := 4) lwb_23 rfl rfl
theorem dL_law_743 : decode cL_law 743 = .ok (.istore 5, 2) := dq_54 (k := 736) (r := 7) lwb_23 rfl rfl
theorem dL_law_745 : decode cL_law 745 = .ok (.aload_n 2, 1) := dq_44 (k := 736) (r := 9) lwb_23 rfl
theorem dL_law_746 : decode cL_law 746 = .ok (.aload_n 0, 1) := dq_42 (k := 736) (r := 10) lwb_23 rfl
theorem dL_law_747 : decode cL_law 747 = .ok (.iload 4, 2) := dq_21 (k := 736) (r := 11) lwb_23 rfl rfl
theorem dL_law_749 : decode cL_law 749 = .ok (.iconst 1, 1) := dq_4 (k := 736) (r := 13) lwb_23 rfl
theorem dL_law_750 : decode cL_law 750 = .ok (.iadd, 1) := dq_96 (k := 736) (r := 14) lwb_23 rfl
theorem dL_law_751 : decode cL_law 751 = .ok (.iaload, 1) := dq_46 (k := 736) (r := 15) lwb_23 rfl
theorem dL_law_752 : decode cL_law 752 = .ok (.aload_n 0, 1) := dq_42 (k := 736) (r := 16) lwb_23 rfl
theorem dL_law_753 : decode cL_law 753 = .ok (.iload 4, 2) := dq_21 (k := 736) (r := 17) lwb_23 rfl rfl
theorem dL_law_755 : decode cL_law 755 = .ok (.iconst 2, 1) := dq_5 (k := 736) (r := 19) lwb_23 rfl
theorem dL_law_756 : decode cL_law 756 = .ok (.iadd, 1) := dq_96 (k := 736) (r := 20) lwb_23 rfl
theorem dL_law_757 : decode cL_law 757 = .ok (.iaload, 1) := dq_46 (k := 736) (r := 21) lwb_23 rfl
theorem dL_law_758 : decode cL_law 758 = .ok (.aload_n 0, 1) := dq_42 (k := 736) (r := 22) lwb_23 rfl
theorem dL_law_759 : decode cL_law 759 = .ok (.iload 4, 2) := dq_21 (k := 736) (r := 23) lwb_23 rfl rfl
theorem dL_law_761 : decode cL_law 761 = .ok (.iconst 3, 1) := dq_6 (k := 736) (r := 25) lwb_23 rfl
theorem dL_law_762 : decode cL_law 762 = .ok (.iadd, 1) := dq_96 (k := 736) (r := 26) lwb_23 rfl
theorem dL_law_763 : decode cL_law 763 = .ok (.iaload, 1) := dq_46 (k := 736) (r := 27) lwb_23 rfl
theorem dL_law_764 : decode cL_law 764 = .ok (.invokevirtual 200, 3) := dq_182 (k := 736) (r := 28) lwb_23 rfl rfl
theorem dL_law_767 : decode cL_law 767 = .ok (.istore 6, 2) := dq_54 (k := 736) (r := 31) lwb_23 rfl rfl
theorem dL_law_769 : decode cL_law 769 = .ok (.goto 1276, 3) := dq_167 (k := 768) (r := 1) lwb_24 rfl (by decide +kernel)
theorem dL_law_772 : decode cL_law 772 = .ok (.aload_n 1, 1) := dq_43 (k := 768) (r := 4) lwb_24 rfl
theorem dL_law_773 : decode cL_law 773 = .ok (.aload_n 0, 1) := dq_42 (k := 768) (r := 5) lwb_24 rfl
theorem dL_law_774 : decode cL_law 774 = .ok (.iload 4, 2) := dq_21 (k := 768) (r := 6) lwb_24 rfl rfl
theorem dL_law_776 : decode cL_law 776 = .ok (.iconst 1, 1) := dq_4 (k := 768) (r := 8) lwb_24 rfl
theorem dL_law_777 : decode cL_law 777 = .ok (.iadd, 1) := dq_96 (k := 768) (r := 9) lwb_24 rfl
theorem dL_law_778 : decode cL_law 778 = .ok (.iaload, 1) := dq_46 (k := 768) (r := 10) lwb_24 rfl
theorem dL_law_779 : decode cL_law 779 = .ok (.aload_n 0, 1) := dq_42 (k := 768) (r := 11) lwb_24 rfl
theorem dL_law_780 : decode cL_law 780 = .ok (.iload 4, 2) := dq_21 (k := 768) (r := 12) lwb_24 rfl rfl
theorem dL_law_782 : decode cL_law 782 = .ok (.iconst 2, 1) := dq_5 (k := 768) (r := 14) lwb_24 rfl
theorem dL_law_783 : decode cL_law 783 = .ok (.iadd, 1) := dq_96 (k := 768) (r := 15) lwb_24 rfl
theorem dL_law_784 : decode cL_law 784 = .ok (.iaload, 1) := dq_46 (k := 768) (r := 16) lwb_24 rfl
theorem dL_law_785 : decode cL_law 785 = .ok (.aload_n 0, 1) := dq_42 (k := 768) (r := 17) lwb_24 rfl
theorem dL_law_786 : decode cL_law 786 = .ok (.iload 4, 2) := dq_21 (k := 768) (r := 18) lwb_24 rfl rfl
theorem dL_law_788 : decode cL_law 788 = .ok (.iconst 3, 1) := dq_6 (k := 768) (r := 20) lwb_24 rfl
theorem dL_law_789 : decode cL_law 789 = .ok (.iadd, 1) := dq_96 (k := 768) (r := 21) lwb_24 rfl
theorem dL_law_790 : decode cL_law 790 = .ok (.iaload, 1) := dq_46 (k := 768) (r := 22) lwb_24 rfl
theorem dL_law_791 : decode cL_law 791 = .ok (.aload_n 3, 1) := dq_45 (k := 768) (r := 23) lwb_24 rfl
theorem dL_law_792 : decode cL_law 792 = .ok (.invokestatic 201, 3) := dq_184 (k := 768) (r := 24) lwb_24 rfl rfl
theorem dL_law_795 : decode cL_law 795 = .ok (.istore 5, 2) := dq_54 (k := 768) (r := 27) lwb_24 rfl rfl
theorem dL_law_797 : decode cL_law 797 = .ok (.aload_n 2, 1) := dq_44 (k := 768) (r := 29) lwb_24 rfl
theorem dL_law_798 : decode cL_law 798 = .ok (.aload_n 0, 1) := dq_42 (k := 768) (r := 30) lwb_24 rfl
theorem dL_law_799 : decode cL_law 799 = .ok (.iload 4, 2) := dq_21 (k := 768) (r := 31) lwb_24 rfl rfl
theorem dL_law_801 : decode cL_law 801 = .ok (.iconst 1, 1) := dq_4 (k := 800) (r := 1) lwb_25 rfl
theorem dL_law_802 : decode cL_law 802 = .ok (.iadd, 1) := dq_96 (k := 800) (r := 2) lwb_25 rfl
theorem dL_law_803 : decode cL_law 803 = .ok (.iaload, 1) := dq_46 (k := 800) (r := 3) lwb_25 rfl
theorem dL_law_804 : decode cL_law 804 = .ok (.aload_n 0, 1) := dq_42 (k := 800) (r := 4) lwb_25 rfl
theorem dL_law_805 : decode cL_law 805 = .ok (.iload 4, 2) := dq_21 (k := 800) (r := 5) lwb_25 rfl rfl
theorem dL_law_807 : decode cL_law 807 = .ok (.iconst 2, 1) := dq_5 (k := 800) (r := 7) lwb_25 rfl
theorem dL_law_808 : decode cL_law 808 = .ok (.iadd, 1) := dq_96 (k := 800) (r := 8) lwb_25 rfl
theorem dL_law_809 : decode cL_law 809 = .ok (.iaload, 1) := dq_46 (k := 800) (r := 9) lwb_25 rfl
theorem dL_law_810 : decode cL_law 810 = .ok (.aload_n 0, 1) := dq_42 (k := 800) (r := 10) lwb_25 rfl
theorem dL_law_811 : decode cL_law 811 = .ok (.iload 4, 2) := dq_21 (k := 800) (r := 11) lwb_25 rfl rfl
theorem dL_law_813 : decode cL_law 813 = .ok (.iconst 3, 1) := dq_6 (k := 800) (r := 13) lwb_25 rfl
theorem dL_law_814 : decode cL_law 814 = .ok (.iadd, 1) := dq_96 (k := 800) (r := 14) lwb_25 rfl
theorem dL_law_815 : decode cL_law 815 = .ok (.iaload, 1) := dq_46 (k := 800) (r := 15) lwb_25 rfl
theorem dL_law_816 : decode cL_law 816 = .ok (.invokevirtual 203, 3) := dq_182 (k := 800) (r := 16) lwb_25 rfl rfl
theorem dL_law_819 : decode cL_law 819 = .ok (.istore 6, 2) := dq_54 (k := 800) (r := 19) lwb_25 rfl rfl
theorem dL_law_821 : decode cL_law 821 = .ok (.goto 1224, 3) := dq_167 (k := 800) (r := 21) lwb_25 rfl (by decide +kernel)
theorem dL_law_824 : decode cL_law 824 = .ok (.aload_n 1, 1) := dq_43 (k := 800) (r := 24) lwb_25 rfl
theorem dL_law_825 : decode cL_law 825 = .ok (.aload_n 0, 1) := dq_42 (k := 800) (r := 25) lwb_25 rfl
theorem dL_law_826 : decode cL_law 826 = .ok (.iload 4, 2) := dq_21 (k := 800) (r := 26) lwb_25 rfl rfl
theorem dL_law_828 : decode cL_law 828 = .ok (.iconst 1, 1) := dq_4 (k := 800) (r := 28) lwb_25 rfl
theorem dL_law_829 : decode cL_law 829 = .ok (.iadd, 1) := dq_96 (k := 800) (r := 29) lwb_25 rfl
theorem dL_law_830 : decode cL_law 830 = .ok (.iaload, 1) := dq_46 (k := 800) (r := 30) lwb_25 rfl
theorem dL_law_831 : decode cL_law 831 = .ok (.aload_n 0, 1) := dq_42 (k := 800) (r := 31) lwb_25 rfl
theorem dL_law_832 : decode cL_law 832 = .ok (.iload 4, 2) := dq_21 (k := 832) (r := 0) lwb_26 rfl rfl
theorem dL_law_834 : decode cL_law 834 = .ok (.iconst 2, 1) := dq_5 (k := 832) (r := 2) lwb_26 rfl
theorem dL_law_835 : decode cL_law 835 = .ok (.iadd, 1) := dq_96 (k := 832) (r := 3) lwb_26 rfl
theorem dL_law_836 : decode cL_law 836 = .ok (.iaload, 1) := dq_46 (k := 832) (r := 4) lwb_26 rfl
theorem dL_law_837 : decode cL_law 837 = .ok (.aload_n 0, 1) := dq_42 (k := 832) (r := 5) lwb_26 rfl
theorem dL_law_838 : decode cL_law 838 = .ok (.iload 4, 2) := dq_21 (k := 832) (r := 6) lwb_26 rfl rfl
theorem dL_law_840 : decode cL_law 840 = .ok (.iconst 3, 1) := dq_6 (k := 832) (r := 8) lwb_26 rfl
theorem dL_law_841 : decode cL_law 841 = .ok (.iadd, 1) := dq_96 (k := 832) (r := 9) lwb_26 rfl
theorem dL_law_842 : decode cL_law 842 = .ok (.iaload, 1) := dq_46 (k := 832) (r := 10) lwb_26 rfl
theorem dL_law_843 : decode cL_law 843 = .ok (.aload_n 3, 1) := dq_45 (k := 832) (r := 11) lwb_26 rfl
theorem dL_law_844 : decode cL_law 844 = .ok (.invokestatic 204, 3) := dq_184 (k := 832) (r := 12) lwb_26 rfl rfl
theorem dL_law_847 : decode cL_law 847 = .ok (.istore 5, 2) := dq_54 (k := 832) (r := 15) lwb_26 rfl rfl
theorem dL_law_849 : decode cL_law 849 = .ok (.aload_n 2, 1) := dq_44 (k := 832) (r := 17) lwb_26 rfl
theorem dL_law_850 : decode cL_law 850 = .ok (.aload_n 0, 1) := dq_42 (k := 832) (r := 18) lwb_26 rfl
theorem dL_law_851 : decode cL_law 851 = .ok (.iload 4, 2) := dq_21 (k := 832) (r := 19) lwb_26 rfl rfl
theorem dL_law_853 : decode cL_law 853 = .ok (.iconst 1, 1) := dq_4 (k := 832) (r := 21) lwb_26 rfl
theorem dL_law_854 : decode cL_law 854 = .ok (.iadd, 1) := dq_96 (k := 832) (r := 22) lwb_26 rfl
theorem dL_law_855 : decode cL_law 855 = .ok (.iaload, 1) := dq_46 (k := 832) (r := 23) lwb_26 rfl
theorem dL_law_856 : decode cL_law 856 = .ok (.aload_n 0, 1) := dq_42 (k := 832) (r := 24) lwb_26 rfl
theorem dL_law_857 : decode cL_law 857 = .ok (.iload 4, 2) := dq_21 (k := 832) (r := 25) lwb_26 rfl rfl
theorem dL_law_859 : decode cL_law 859 = .ok (.iconst 2, 1) := dq_5 (k := 832) (r := 27) lwb_26 rfl
theorem dL_law_860 : decode cL_law 860 = .ok (.iadd, 1) := dq_96 (k := 832) (r := 28) lwb_26 rfl
theorem dL_law_861 : decode cL_law 861 = .ok (.iaload, 1) := dq_46 (k := 832) (r := 29) lwb_26 rfl
theorem dL_law_862 : decode cL_law 862 = .ok (.aload_n 0, 1) := dq_42 (k := 832) (r := 30) lwb_26 rfl
theorem dL_law_863 : decode cL_law 863 = .ok (.iload 4, 2) := dq_21 (k := 832) (r := 31) lwb_26 rfl rfl
theorem dL_law_865 : decode cL_law 865 = .ok (.iconst 3, 1) := dq_6 (k := 864) (r := 1) lwb_27 rfl
theorem dL_law_866 : decode cL_law 866 = .ok (.iadd, 1) := dq_96 (k := 864) (r := 2) lwb_27 rfl
theorem dL_law_867 : decode cL_law 867 = .ok (.iaload, 1) := dq_46 (k := 864) (r := 3) lwb_27 rfl
theorem dL_law_868 : decode cL_law 868 = .ok (.invokevirtual 206, 3) := dq_182 (k := 864) (r := 4) lwb_27 rfl rfl
theorem dL_law_871 : decode cL_law 871 = .ok (.istore 6, 2) := dq_54 (k := 864) (r := 7) lwb_27 rfl rfl
theorem dL_law_873 : decode cL_law 873 = .ok (.goto 1172, 3) := dq_167 (k := 864) (r := 9) lwb_27 rfl (by decide +kernel)
theorem dL_law_876 : decode cL_law 876 = .ok (.aload_n 1, 1) := dq_43 (k := 864) (r := 12) lwb_27 rfl
theorem dL_law_877 : decode cL_law 877 = .ok (.aload_n 0, 1) := dq_42 (k := 864) (r := 13) lwb_27 rfl
theorem dL_law_878 : decode cL_law 878 = .ok (.iload 4, 2) := dq_21 (k := 864) (r := 14) lwb_27 rfl rfl
theorem dL_law_880 : decode cL_law 880 = .ok (.iconst 1, 1) := dq_4 (k := 864) (r := 16) lwb_27 rfl
theorem dL_law_881 : decode cL_law 881 = .ok (.iadd, 1) := dq_96 (k := 864) (r := 17) lwb_27 rfl
theorem dL_law_882 : decode cL_law 882 = .ok (.iaload, 1) := dq_46 (k := 864) (r := 18) lwb_27 rfl
theorem dL_law_883 : decode cL_law 883 = .ok (.aload_n 0, 1) := dq_42 (k := 864) (r := 19) lwb_27 rfl
theorem dL_law_884 : decode cL_law 884 = .ok (.iload 4, 2) := dq_21 (k := 864) (r := 20) lwb_27 rfl rfl
theorem dL_law_886 : decode cL_law 886 = .ok (.iconst 2, 1) := dq_5 (k := 864) (r := 22) lwb_27 rfl
theorem dL_law_887 : decode cL_law 887 = .ok (.iadd, 1) := dq_96 (k := 864) (r := 23) lwb_27 rfl
theorem dL_law_888 : decode cL_law 888 = .ok (.iaload, 1) := dq_46 (k := 864) (r := 24) lwb_27 rfl
theorem dL_law_889 : decode cL_law 889 = .ok (.aload_n 0, 1) := dq_42 (k := 864) (r := 25) lwb_27 rfl
theorem dL_law_890 : decode cL_law 890 = .ok (.iload 4, 2) := dq_21 (k := 864) (r := 26) lwb_27 rfl rfl
theorem dL_law_892 : decode cL_law 892 = .ok (.iconst 3, 1) := dq_6 (k := 864) (r := 28) lwb_27 rfl
theorem dL_law_893 : decode cL_law 893 = .ok (.iadd, 1) := dq_96 (k := 864) (r := 29) lwb_27 rfl
theorem dL_law_894 : decode cL_law 894 = .ok (.iaload, 1) := dq_46 (k := 864) (r := 30) lwb_27 rfl
theorem dL_law_895 : decode cL_law 895 = .ok (.aload_n 0, 1) := dq_42 (k := 864) (r := 31) lwb_27 rfl
theorem dL_law_896 : decode cL_law 896 = .ok (.iload 4, 2) := dq_21 (k := 896) (r := 0) lwb_28 rfl rfl
theorem dL_law_898 : decode cL_law 898 = .ok (.iconst 4, 1) := dq_7 (k := 896) (r := 2) lwb_28 rfl
theorem dL_law_899 : decode cL_law 899 = .ok (.iadd, 1) := dq_96 (k := 896) (r := 3) lwb_28 rfl
theorem dL_law_900 : decode cL_law 900 = .ok (.iaload, 1) := dq_46 (k := 896) (r := 4) lwb_28 rfl
theorem dL_law_901 : decode cL_law 901 = .ok (.aload_n 3, 1) := dq_45 (k := 896) (r := 5) lwb_28 rfl
theorem dL_law_902 : decode cL_law 902 = .ok (.invokestatic 207, 3) := dq_184 (k := 896) (r := 6) lwb_28 rfl rfl
theorem dL_law_905 : decode cL_law 905 = .ok (.istore 5, 2) := dq_54 (k := 896) (r := 9) lwb_28 rfl rfl
theorem dL_law_907 : decode cL_law 907 = .ok (.aload_n 2, 1) := dq_44 (k := 896) (r := 11) lwb_28 rfl
theorem dL_law_908 : decode cL_law 908 = .ok (.aload_n 0, 1) := dq_42 (k := 896) (r := 12) lwb_28 rfl
theorem dL_law_909 : decode cL_law 909 = .ok (.iload 4, 2) := dq_21 (k := 896) (r := 13) lwb_28 rfl rfl
theorem dL_law_911 : decode cL_law 911 = .ok (.iconst 1, 1) := dq_4 (k := 896) (r := 15) lwb_28 rfl
theorem dL_law_912 : decode cL_law 912 = .ok (.iadd, 1) := dq_96 (k := 896) (r := 16) lwb_28 rfl
theorem dL_law_913 : decode cL_law 913 = .ok (.iaload, 1) := dq_46 (k := 896) (r := 17) lwb_28 rfl
theorem dL_law_914 : decode cL_law 914 = .ok (.aload_n 0, 1) := dq_42 (k := 896) (r := 18) lwb_28 rfl
theorem dL_law_915 : decode cL_law 915 = .ok (.iload 4, 2) := dq_21 (k := 896) (r := 19) lwb_28 rfl rfl
theorem dL_law_917 : decode cL_law 917 = .ok (.iconst 2, 1) := dq_5 (k := 896) (r := 21) lwb_28 rfl
theorem dL_law_918 : decode cL_law 918 = .ok (.iadd, 1) := dq_96 (k := 896) (r := 22) lwb_28 rfl
theorem dL_law_919 : decode cL_law 919 = .ok (.iaload, 1) := dq_46 (k := 896) (r := 23) lwb_28 rfl
theorem dL_law_920 : decode cL_law 920 = .ok (.aload_n 0, 1) := dq_42 (k := 896) (r := 24) lwb_28 rfl
theorem dL_law_921 : decode cL_law 921 = .ok (.iload 4, 2) := dq_21 (k := 896) (r := 25) lwb_28 rfl rfl
theorem dL_law_923 : decode cL_law 923 = .ok (.iconst 3, 1) := dq_6 (k := 896) (r := 27) lwb_28 rfl
theorem dL_law_924 : decode cL_law 924 = .ok (.iadd, 1) := dq_96 (k := 896) (r := 28) lwb_28 rfl
theorem dL_law_925 : decode cL_law 925 = .ok (.iaload, 1) := dq_46 (k := 896) (r := 29) lwb_28 rfl
theorem dL_law_926 : decode cL_law 926 = .ok (.aload_n 0, 1) := dq_42 (k := 896) (r := 30) lwb_28 rfl
theorem dL_law_927 : decode cL_law 927 = .ok (.iload 4, 2) := dq_21 (k := 896) (r := 31) lwb_28 rfl rfl
theorem dL_law_929 : decode cL_law 929 = .ok (.iconst 4, 1) := dq_7 (k := 928) (r := 1) lwb_29 rfl
theorem dL_law_930 : decode cL_law 930 = .ok (.iadd, 1) := dq_96 (k := 928) (r := 2) lwb_29 rfl
theorem dL_law_931 : decode cL_law 931 = .ok (.iaload, 1) := dq_46 (k := 928) (r := 3) lwb_29 rfl
theorem dL_law_932 : decode cL_law 932 = .ok (.invokevirtual 210, 3) := dq_182 (k := 928) (r := 4) lwb_29 rfl rfl
theorem dL_law_935 : decode cL_law 935 = .ok (.istore 6, 2) := dq_54 (k := 928) (r := 7) lwb_29 rfl rfl
theorem dL_law_937 : decode cL_law 937 = .ok (.goto 1108, 3) := dq_167 (k := 928) (r := 9) lwb_29 rfl (by decide +kernel)
theorem dL_law_940 : decode cL_law 940 = .ok (.aload_n 1, 1) := dq_43 (k := 928) (r := 12) lwb_29 rfl
theorem dL_law_941 : decode cL_law 941 = .ok (.aload_n 0, 1) := dq_42 (k := 928) (r := 13) lwb_29 rfl
theorem dL_law_942 : decode cL_law 942 = .ok (.iload 4, 2) := dq_21 (k := 928) (r := 14) lwb_29 rfl rfl
theorem dL_law_944 : decode cL_law 944 = .ok (.iconst 1, 1) := dq_4 (k := 928) (r := 16) lwb_29 rfl
theorem dL_law_945 : decode cL_law 945 = .ok (.iadd, 1) := dq_96 (k := 928) (r := 17) lwb_29 rfl
theorem dL_law_946 : decode cL_law 946 = .ok (.iaload, 1) := dq_46 (k := 928) (r := 18) lwb_29 rfl
theorem dL_law_947 : decode cL_law 947 = .ok (.aload_n 0, 1) := dq_42 (k := 928) (r := 19) lwb_29 rfl
theorem dL_law_948 : decode cL_law 948 = .ok (.iload 4, 2) := dq_21 (k := 928) (r := 20) lwb_29 rfl rfl
theorem dL_law_950 : decode cL_law 950 = .ok (.iconst 2, 1) := dq_5 (k := 928) (r := 22) lwb_29 rfl
theorem dL_law_951 : decode cL_law 951 = .ok (.iadd, 1) := dq_96 (k := 928) (r := 23) lwb_29 rfl
theorem dL_law_952 : decode cL_law 952 = .ok (.iaload, 1) := dq_46 (k := 928) (r := 24) lwb_29 rfl
theorem dL_law_953 : decode cL_law 953 = .ok (.aload_n 0, 1) := dq_42 (k := 928) (r := 25) lwb_29 rfl
theorem dL_law_954 : decode cL_law 954 = .ok (.iload 4, 2) := dq_21 (k := 928) (r := 26) lwb_29 rfl rfl
theorem dL_law_956 : decode cL_law 956 = .ok (.iconst 3, 1) := dq_6 (k := 928) (r := 28) lwb_29 rfl
theorem dL_law_957 : decode cL_law 957 = .ok (.iadd, 1) := dq_96 (k := 928) (r := 29) lwb_29 rfl
theorem dL_law_958 : decode cL_law 958 = .ok (.iaload, 1) := dq_46 (k := 928) (r := 30) lwb_29 rfl
theorem dL_law_959 : decode cL_law 959 = .ok (.aload_n 0, 1) := dq_42 (k := 928) (r := 31) lwb_29 rfl
theorem dL_law_960 : decode cL_law 960 = .ok (.iload 4, 2) := dq_21 (k := 960) (r := 0) lwb_30 rfl rfl
theorem dL_law_962 : decode cL_law 962 = .ok (.iconst 4, 1) := dq_7 (k := 960) (r := 2) lwb_30 rfl
theorem dL_law_963 : decode cL_law 963 = .ok (.iadd, 1) := dq_96 (k := 960) (r := 3) lwb_30 rfl
theorem dL_law_964 : decode cL_law 964 = .ok (.iaload, 1) := dq_46 (k := 960) (r := 4) lwb_30 rfl
theorem dL_law_965 : decode cL_law 965 = .ok (.aload_n 3, 1) := dq_45 (k := 960) (r := 5) lwb_30 rfl
theorem dL_law_966 : decode cL_law 966 = .ok (.invokestatic 211, 3) := dq_184 (k := 960) (r := 6) lwb_30 rfl rfl
theorem dL_law_969 : decode cL_law 969 = .ok (.istore 5, 2) := dq_54 (k := 960) (r := 9) lwb_30 rfl rfl
theorem dL_law_971 : decode cL_law 971 = .ok (.aload_n 2, 1) := dq_44 (k := 960) (r := 11) lwb_30 rfl
theorem dL_law_972 : decode cL_law 972 = .ok (.aload_n 0, 1) := dq_42 (k := 960) (r := 12) lwb_30 rfl
theorem dL_law_973 : decode cL_law 973 = .ok (.iload 4, 2) := dq_21 (k := 960) (r := 13) lwb_30 rfl rfl
theorem dL_law_975 : decode cL_law 975 = .ok (.iconst 1, 1) := dq_4 (k := 960) (r := 15) lwb_30 rfl
theorem dL_law_976 : decode cL_law 976 = .ok (.iadd, 1) := dq_96 (k := 960) (r := 16) lwb_30 rfl
theorem dL_law_977 : decode cL_law 977 = .ok (.iaload, 1) := dq_46 (k := 960) (r := 17) lwb_30 rfl
theorem dL_law_978 : decode cL_law 978 = .ok (.aload_n 0, 1) := dq_42 (k := 960) (r := 18) lwb_30 rfl
theorem dL_law_979 : decode cL_law 979 = .ok (.iload 4, 2) := dq_21 (k := 960) (r := 19) lwb_30 rfl rfl
theorem dL_law_981 : decode cL_law 981 = .ok (.iconst 2, 1) := dq_5 (k := 960) (r := 21) lwb_30 rfl
theorem dL_law_982 : decode cL_law 982 = .ok (.iadd, 1) := dq_96 (k := 960) (r := 22) lwb_30 rfl
theorem dL_law_983 : decode cL_law 983 = .ok (.iaload, 1) := dq_46 (k := 960) (r := 23) lwb_30 rfl
theorem dL_law_984 : decode cL_law 984 = .ok (.aload_n 0, 1) := dq_42 (k := 960) (r := 24) lwb_30 rfl
theorem dL_law_985 : decode cL_law 985 = .ok (.iload 4, 2) := dq_21 (k := 960) (r := 25) lwb_30 rfl rfl
theorem dL_law_987 : decode cL_law 987 = .ok (.iconst 3, 1) := dq_6 (k := 960) (r := 27) lwb_30 rfl
theorem dL_law_988 : decode cL_law 988 = .ok (.iadd, 1) := dq_96 (k := 960) (r := 28) lwb_30 rfl
theorem dL_law_989 : decode cL_law 989 = .ok (.iaload, 1) := dq_46 (k := 960) (r := 29) lwb_30 rfl
theorem dL_law_990 : decode cL_law 990 = .ok (.aload_n 0, 1) := dq_42 (k := 960) (r := 30) lwb_30 rfl
theorem dL_law_991 : decode cL_law 991 = .ok (.iload 4, 2) := dq_21 (k := 960) (r := 31) lwb_30 rfl rfl
theorem dL_law_993 : decode cL_law 993 = .ok (.iconst 4, 1) := dq_7 (k := 992) (r := 1) lwb_31 rfl
theorem dL_law_994 : decode cL_law 994 = .ok (.iadd, 1) := dq_96 (k := 992) (r := 2) lwb_31 rfl
theorem dL_law_995 : decode cL_law 995 = .ok (.iaload, 1) := dq_46 (k := 992) (r := 3) lwb_31 rfl
theorem dL_law_996 : decode cL_law 996 = .ok (.invokevirtual 213, 3) := dq_182 (k := 992) (r := 4) lwb_31 rfl rfl
theorem dL_law_999 : decode cL_law 999 = .ok (.istore 6, 2) := dq_54 (k := 992) (r := 7) lwb_31 rfl rfl
theorem dL_law_1001 : decode cL_law 1001 = .ok (.goto 1044, 3) := dq_167 (k := 992) (r := 9) lwb_31 rfl (by decide +kernel)
theorem dL_law_1004 : decode cL_law 1004 = .ok (.aload_n 1, 1) := dq_43 (k := 992) (r := 12) lwb_31 rfl
theorem dL_law_1005 : decode cL_law 1005 = .ok (.aload_n 0, 1) := dq_42 (k := 992) (r := 13) lwb_31 rfl
theorem dL_law_1006 : decode cL_law 1006 = .ok (.iload 4, 2) := dq_21 (k := 992) (r := 14) lwb_31 rfl rfl
theorem dL_law_1008 : decode cL_law 1008 = .ok (.iconst 1, 1) := dq_4 (k := 992) (r := 16) lwb_31 rfl
theorem dL_law_1009 : decode cL_law 1009 = .ok (.iadd, 1) := dq_96 (k := 992) (r := 17) lwb_31 rfl
theorem dL_law_1010 : decode cL_law 1010 = .ok (.iaload, 1) := dq_46 (k := 992) (r := 18) lwb_31 rfl
theorem dL_law_1011 : decode cL_law 1011 = .ok (.aload_n 0, 1) := dq_42 (k := 992) (r := 19) lwb_31 rfl
theorem dL_law_1012 : decode cL_law 1012 = .ok (.iload 4, 2) := dq_21 (k := 992) (r := 20) lwb_31 rfl rfl
theorem dL_law_1014 : decode cL_law 1014 = .ok (.iconst 2, 1) := dq_5 (k := 992) (r := 22) lwb_31 rfl
theorem dL_law_1015 : decode cL_law 1015 = .ok (.iadd, 1) := dq_96 (k := 992) (r := 23) lwb_31 rfl
theorem dL_law_1016 : decode cL_law 1016 = .ok (.iaload, 1) := dq_46 (k := 992) (r := 24) lwb_31 rfl
theorem dL_law_1017 : decode cL_law 1017 = .ok (.aload_n 3, 1) := dq_45 (k := 992) (r := 25) lwb_31 rfl
theorem dL_law_1018 : decode cL_law 1018 = .ok (.invokestatic 214, 3) := dq_184 (k := 992) (r := 26) lwb_31 rfl rfl
theorem dL_law_1021 : decode cL_law 1021 = .ok (.istore 5, 2) := dq_54 (k := 992) (r := 29) lwb_31 rfl rfl
theorem dL_law_1023 : decode cL_law 1023 = .ok (.aload_n 2, 1) := dq_44 (k := 992) (r := 31) lwb_31 rfl
theorem dL_law_1024 : decode cL_law 1024 = .ok (.aload_n 0, 1) := dq_42 (k := 1024) (r := 0) lwb_32 rfl
theorem dL_law_1025 : decode cL_law 1025 = .ok (.iload 4, 2) := dq_21 (k := 1024) (r := 1) lwb_32 rfl rfl
theorem dL_law_1027 : decode cL_law 1027 = .ok (.iconst 1, 1) := dq_4 (k := 1024) (r := 3) lwb_32 rfl
theorem dL_law_1028 : decode cL_law 1028 = .ok (.iadd, 1) := dq_96 (k := 1024) (r := 4) lwb_32 rfl
theorem dL_law_1029 : decode cL_law 1029 = .ok (.iaload, 1) := dq_46 (k := 1024) (r := 5) lwb_32 rfl
theorem dL_law_1030 : decode cL_law 1030 = .ok (.aload_n 0, 1) := dq_42 (k := 1024) (r := 6) lwb_32 rfl
theorem dL_law_1031 : decode cL_law 1031 = .ok (.iload 4, 2) := dq_21 (k := 1024) (r := 7) lwb_32 rfl rfl
theorem dL_law_1033 : decode cL_law 1033 = .ok (.iconst 2, 1) := dq_5 (k := 1024) (r := 9) lwb_32 rfl
theorem dL_law_1034 : decode cL_law 1034 = .ok (.iadd, 1) := dq_96 (k := 1024) (r := 10) lwb_32 rfl
theorem dL_law_1035 : decode cL_law 1035 = .ok (.iaload, 1) := dq_46 (k := 1024) (r := 11) lwb_32 rfl
theorem dL_law_1036 : decode cL_law 1036 = .ok (.invokevirtual 216, 3) := dq_182 (k := 1024) (r := 12) lwb_32 rfl rfl
theorem dL_law_1039 : decode cL_law 1039 = .ok (.istore 6, 2) := dq_54 (k := 1024) (r := 15) lwb_32 rfl rfl
theorem dL_law_1041 : decode cL_law 1041 = .ok (.goto 1004, 3) := dq_167 (k := 1024) (r := 17) lwb_32 rfl (by decide +kernel)
theorem dL_law_1044 : decode cL_law 1044 = .ok (.aload_n 1, 1) := dq_43 (k := 1024) (r := 20) lwb_32 rfl
theorem dL_law_1045 : decode cL_law 1045 = .ok (.aload_n 0, 1) := dq_42 (k := 1024) (r := 21) lwb_32 rfl
theorem dL_law_1046 : decode cL_law 1046 = .ok (.iload 4, 2) := dq_21 (k := 1024) (r := 22) lwb_32 rfl rfl
theorem dL_law_1048 : decode cL_law 1048 = .ok (.iconst 1, 1) := dq_4 (k := 1024) (r := 24) lwb_32 rfl
theorem dL_law_1049 : decode cL_law 1049 = .ok (.iadd, 1) := dq_96 (k := 1024) (r := 25) lwb_32 rfl
theorem dL_law_1050 : decode cL_law 1050 = .ok (.iaload, 1) := dq_46 (k := 1024) (r := 26) lwb_32 rfl
theorem dL_law_1051 : decode cL_law 1051 = .ok (.aload_n 0, 1) := dq_42 (k := 1024) (r := 27) lwb_32 rfl
theorem dL_law_1052 : decode cL_law 1052 = .ok (.iload 4, 2) := dq_21 (k := 1024) (r := 28) lwb_32 rfl rfl
theorem dL_law_1054 : decode cL_law 1054 = .ok (.iconst 2, 1) := dq_5 (k := 1024) (r := 30) lwb_32 rfl
theorem dL_law_1055 : decode cL_law 1055 = .ok (.iadd, 1) := dq_96 (k := 1024) (r := 31) lwb_32 rfl
theorem dL_law_1056 : decode cL_law 1056 = .ok (.iaload, 1) := dq_46 (k := 1056) (r := 0) lwb_33 rfl
theorem dL_law_1057 : decode cL_law 1057 = .ok (.aload_n 0, 1) := dq_42 (k := 1056) (r := 1) lwb_33 rfl
theorem dL_law_1058 : decode cL_law 1058 = .ok (.iload 4, 2) := dq_21 (k := 1056) (r := 2) lwb_33 rfl rfl
theorem dL_law_1060 : decode cL_law 1060 = .ok (.iconst 3, 1) := dq_6 (k := 1056) (r := 4) lwb_33 rfl
theorem dL_law_1061 : decode cL_law 1061 = .ok (.iadd, 1) := dq_96 (k := 1056) (r := 5) lwb_33 rfl
theorem dL_law_1062 : decode cL_law 1062 = .ok (.iaload, 1) := dq_46 (k := 1056) (r := 6) lwb_33 rfl
theorem dL_law_1063 : decode cL_law 1063 = .ok (.aload_n 3, 1) := dq_45 (k := 1056) (r := 7) lwb_33 rfl
theorem dL_law_1064 : decode cL_law 1064 = .ok (.invokestatic 217, 3) := dq_184 (k := 1056) (r := 8) lwb_33 rfl rfl
theorem dL_law_1067 : decode cL_law 1067 = .ok (.istore 5, 2) := dq_54 (k := 1056) (r := 11) lwb_33 rfl rfl
theorem dL_law_1069 : decode cL_law 1069 = .ok (.aload_n 2, 1) := dq_44 (k := 1056) (r := 13) lwb_33 rfl
theorem dL_law_1070 : decode cL_law 1070 = .ok (.aload_n 0, 1) := dq_42 (k := 1056) (r := 14) lwb_33 rfl
theorem dL_law_1071 : decode cL_law 1071 = .ok (.iload 4, 2) := dq_21 (k := 1056) (r := 15) lwb_33 rfl rfl
theorem dL_law_1073 : decode cL_law 1073 = .ok (.iconst 1, 1) := dq_4 (k := 1056) (r := 17) lwb_33 rfl
theorem dL_law_1074 : decode cL_law 1074 = .ok (.iadd, 1) := dq_96 (k := 1056) (r := 18) lwb_33 rfl
theorem dL_law_1075 : decode cL_law 1075 = .ok (.iaload, 1) := dq_46 (k := 1056) (r := 19) lwb_33 rfl
theorem dL_law_1076 : decode cL_law 1076 = .ok (.aload_n 0, 1) := dq_42 (k := 1056) (r := 20) lwb_33 rfl
theorem dL_law_1077 : decode cL_law 1077 = .ok (.iload 4, 2) := dq_21 (k := 1056) (r := 21) lwb_33 rfl rfl
theorem dL_law_1079 : decode cL_law 1079 = .ok (.iconst 2, 1) := dq_5 (k := 1056) (r := 23) lwb_33 rfl
theorem dL_law_1080 : decode cL_law 1080 = .ok (.iadd, 1) := dq_96 (k := 1056) (r := 24) lwb_33 rfl
theorem dL_law_1081 : decode cL_law 1081 = .ok (.iaload, 1) := dq_46 (k := 1056) (r := 25) lwb_33 rfl
theorem dL_law_1082 : decode cL_law 1082 = .ok (.aload_n 0, 1) := dq_42 (k := 1056) (r := 26) lwb_33 rfl
theorem dL_law_1083 : decode cL_law 1083 = .ok (.iload 4, 2) := dq_21 (k := 1056) (r := 27) lwb_33 rfl rfl
theorem dL_law_1085 : decode cL_law 1085 = .ok (.iconst 3, 1) := dq_6 (k := 1056) (r := 29) lwb_33 rfl
theorem dL_law_1086 : decode cL_law 1086 = .ok (.iadd, 1) := dq_96 (k := 1056) (r := 30) lwb_33 rfl
theorem dL_law_1087 : decode cL_law 1087 = .ok (.iaload, 1) := dq_46 (k := 1056) (r := 31) lwb_33 rfl
theorem dL_law_1088 : decode cL_law 1088 = .ok (.invokevirtual 219, 3) := dq_182 (k := 1088) (r := 0) lwb_34 rfl rfl
theorem dL_law_1091 : decode cL_law 1091 = .ok (.istore 6, 2) := dq_54 (k := 1088) (r := 3) lwb_34 rfl rfl
theorem dL_law_1093 : decode cL_law 1093 = .ok (.goto 952, 3) := dq_167 (k := 1088) (r := 5) lwb_34 rfl (by decide +kernel)
theorem dL_law_1096 : decode cL_law 1096 = .ok (.aload_n 1, 1) := dq_43 (k := 1088) (r := 8) lwb_34 rfl
theorem dL_law_1097 : decode cL_law 1097 = .ok (.aload_n 0, 1) := dq_42 (k := 1088) (r := 9) lwb_34 rfl
theorem dL_law_1098 : decode cL_law 1098 = .ok (.iload 4, 2) := dq_21 (k := 1088) (r := 10) lwb_34 rfl rfl
theorem dL_law_1100 : decode cL_law 1100 = .ok (.iconst 1, 1) := dq_4 (k := 1088) (r := 12) lwb_34 rfl
theorem dL_law_1101 : decode cL_law 1101 = .ok (.iadd, 1) := dq_96 (k := 1088) (r := 13) lwb_34 rfl
theorem dL_law_1102 : decode cL_law 1102 = .ok (.iaload, 1) := dq_46 (k := 1088) (r := 14) lwb_34 rfl
theorem dL_law_1103 : decode cL_law 1103 = .ok (.aload_n 0, 1) := dq_42 (k := 1088) (r := 15) lwb_34 rfl
theorem dL_law_1104 : decode cL_law 1104 = .ok (.iload 4, 2) := dq_21 (k := 1088) (r := 16) lwb_34 rfl rfl
theorem dL_law_1106 : decode cL_law 1106 = .ok (.iconst 2, 1) := dq_5 (k := 1088) (r := 18) lwb_34 rfl
theorem dL_law_1107 : decode cL_law 1107 = .ok (.iadd, 1) := dq_96 (k := 1088) (r := 19) lwb_34 rfl
theorem dL_law_1108 : decode cL_law 1108 = .ok (.iaload, 1) := dq_46 (k := 1088) (r := 20) lwb_34 rfl
theorem dL_law_1109 : decode cL_law 1109 = .ok (.aload_n 0, 1) := dq_42 (k := 1088) (r := 21) lwb_34 rfl
theorem dL_law_1110 : decode cL_law 1110 = .ok (.iload 4, 2) := dq_21 (k := 1088) (r := 22) lwb_34 rfl rfl
theorem dL_law_1112 : decode cL_law 1112 = .ok (.iconst 3, 1) := dq_6 (k := 1088) (r := 24) lwb_34 rfl
theorem dL_law_1113 : decode cL_law 1113 = .ok (.iadd, 1) := dq_96 (k := 1088) (r := 25) lwb_34 rfl
theorem dL_law_1114 : decode cL_law 1114 = .ok (.iaload, 1) := dq_46 (k := 1088) (r := 26) lwb_34 rfl
theorem dL_law_1115 : decode cL_law 1115 = .ok (.aload_n 3, 1) := dq_45 (k := 1088) (r := 27) lwb_34 rfl
theorem dL_law_1116 : decode cL_law 1116 = .ok (.invokestatic 220, 3) := dq_184 (k := 1088) (r := 28) lwb_34 rfl rfl
theorem dL_law_1119 : decode cL_law 1119 = .ok (.istore 5, 2) := dq_54 (k := 1088) (r := 31) lwb_34 rfl rfl
theorem dL_law_1121 : decode cL_law 1121 = .ok (.aload_n 2, 1) := dq_44 (k := 1120) (r := 1) lwb_35 rfl
theorem dL_law_1122 : decode cL_law 1122 = .ok (.aload_n 0, 1) := dq_42 (k := 1120) (r := 2) lwb_35 rfl
theorem dL_law_1123 : decode cL_law 1123 = .ok (.iload 4, 2) := dq_21 (k := 1120) (r := 3) lwb_35 rfl rfl
theorem dL_law_1125 : decode cL_law 1125 = .ok (.iconst 1, 1) := dq_4 (k := 1120) (r := 5) lwb_35 rfl
theorem dL_law_1126 : decode cL_law 1126 = .ok (.iadd, 1) := dq_96 (k := 1120) (r := 6) lwb_35 rfl
theorem dL_law_1127 : decode cL_law 1127 = .ok (.iaload, 1) := dq_46 (k := 1120) (r := 7) lwb_35 rfl
theorem dL_law_1128 : decode cL_law 1128 = .ok (.aload_n 0, 1) := dq_42 (k := 1120) (r := 8) lwb_35 rfl
theorem dL_law_1129 : decode cL_law 1129 = .ok (.iload 4, 2) := dq_21 (k := 1120) (r := 9) lwb_35 rfl rfl
theorem dL_law_1131 : decode cL_law 1131 = .ok (.iconst 2, 1) := dq_5 (k := 1120) (r := 11) lwb_35 rfl
theorem dL_law_1132 : decode cL_law 1132 = .ok (.iadd, 1) := dq_96 (k := 1120) (r := 12) lwb_35 rfl
theorem dL_law_1133 : decode cL_law 1133 = .ok (.iaload, 1) := dq_46 (k := 1120) (r := 13) lwb_35 rfl
theorem dL_law_1134 : decode cL_law 1134 = .ok (.aload_n 0, 1) := dq_42 (k := 1120) (r := 14) lwb_35 rfl
theorem dL_law_1135 : decode cL_law 1135 = .ok (.iload 4, 2) := dq_21 (k := 1120) (r := 15) lwb_35 rfl rfl
theorem dL_law_1137 : decode cL_law 1137 = .ok (.iconst 3, 1) := dq_6 (k := 1120) (r := 17) lwb_35 rfl
theorem dL_law_1138 : decode cL_law 1138 = .ok (.iadd, 1) := dq_96 (k := 1120) (r := 18) lwb_35 rfl
theorem dL_law_1139 : decode cL_law 1139 = .ok (.iaload, 1) := dq_46 (k := 1120) (r := 19) lwb_35 rfl
theorem dL_law_1140 : decode cL_law 1140 = .ok (.invokevirtual 222, 3) := dq_182 (k := 1120) (r := 20) lwb_35 rfl rfl
theorem dL_law_1143 : decode cL_law 1143 = .ok (.istore 6, 2) := dq_54 (k := 1120) (r := 23) lwb_35 rfl rfl
theorem dL_law_1145 : decode cL_law 1145 = .ok (.goto 900, 3) := dq_167 (k := 1120) (r := 25) lwb_35 rfl (by decide +kernel)
theorem dL_law_1148 : decode cL_law 1148 = .ok (.aload_n 1, 1) := dq_43 (k := 1120) (r := 28) lwb_35 rfl
theorem dL_law_1149 : decode cL_law 1149 = .ok (.aload_n 0, 1) := dq_42 (k := 1120) (r := 29) lwb_35 rfl
theorem dL_law_1150 : decode cL_law 1150 = .ok (.iload 4, 2) := dq_21 (k := 1120) (r := 30) lwb_35 rfl rfl
theorem dL_law_1152 : decode cL_law 1152 = .ok (.iconst 1, 1) := dq_4 (k := 1152) (r := 0) lwb_36 rfl
theorem dL_law_1153 : decode cL_law 1153 = .ok (.iadd, 1) := dq_96 (k := 1152) (r := 1) lwb_36 rfl
theorem dL_law_1154 : decode cL_law 1154 = .ok (.iaload, 1) := dq_46 (k := 1152) (r := 2) lwb_36 rfl
theorem dL_law_1155 : decode cL_law 1155 = .ok (.aload_n 0, 1) := dq_42 (k := 1152) (r := 3) lwb_36 rfl
theorem dL_law_1156 : decode cL_law 1156 = .ok (.iload 4, 2) := dq_21 (k := 1152) (r := 4) lwb_36 rfl rfl
theorem dL_law_1158 : decode cL_law 1158 = .ok (.iconst 2, 1) := dq_5 (k := 1152) (r := 6) lwb_36 rfl
theorem dL_law_1159 : decode cL_law 1159 = .ok (.iadd, 1) := dq_96 (k := 1152) (r := 7) lwb_36 rfl
theorem dL_law_1160 : decode cL_law 1160 = .ok (.iaload, 1) := dq_46 (k := 1152) (r := 8) lwb_36 rfl
theorem dL_law_1161 : decode cL_law 1161 = .ok (.aload_n 3, 1) := dq_45 (k := 1152) (r := 9) lwb_36 rfl
theorem dL_law_1162 : decode cL_law 1162 = .ok (.invokestatic 223, 3) := dq_184 (k := 1152) (r := 10) lwb_36 rfl rfl
theorem dL_law_1165 : decode cL_law 1165 = .ok (.istore 5, 2) := dq_54 (k := 1152) (r := 13) lwb_36 rfl rfl
theorem dL_law_1167 : decode cL_law 1167 = .ok (.aload_n 2, 1) := dq_44 (k := 1152) (r := 15) lwb_36 rfl
theorem dL_law_1168 : decode cL_law 1168 = .ok (.aload_n 0, 1) := dq_42 (k := 1152) (r := 16) lwb_36 rfl
theorem dL_law_1169 : decode cL_law 1169 = .ok (.iload 4, 2) := dq_21 (k := 1152) (r := 17) lwb_36 rfl rfl
theorem dL_law_1171 : decode cL_law 1171 = .ok (.iconst 1, 1) := dq_4 (k := 1152) (r := 19) lwb_36 rfl
theorem dL_law_1172 : decode cL_law 1172 = .ok (.iadd, 1) := dq_96 (k := 1152) (r := 20) lwb_36 rfl
theorem dL_law_1173 : decode cL_law 1173 = .ok (.iaload, 1) := dq_46 (k := 1152) (r := 21) lwb_36 rfl
theorem dL_law_1174 : decode cL_law 1174 = .ok (.aload_n 0, 1) := dq_42 (k := 1152) (r := 22) lwb_36 rfl
theorem dL_law_1175 : decode cL_law 1175 = .ok (.iload 4, 2) := dq_21 (k := 1152) (r := 23) lwb_36 rfl rfl
theorem dL_law_1177 : decode cL_law 1177 = .ok (.iconst 2, 1) := dq_5 (k := 1152) (r := 25) lwb_36 rfl
theorem dL_law_1178 : decode cL_law 1178 = .ok (.iadd, 1) := dq_96 (k := 1152) (r := 26) lwb_36 rfl
theorem dL_law_1179 : decode cL_law 1179 = .ok (.iaload, 1) := dq_46 (k := 1152) (r := 27) lwb_36 rfl
theorem dL_law_1180 : decode cL_law 1180 = .ok (.invokevirtual 225, 3) := dq_182 (k := 1152) (r := 28) lwb_36 rfl rfl
theorem dL_law_1183 : decode cL_law 1183 = .ok (.istore 6, 2) := dq_54 (k := 1152) (r := 31) lwb_36 rfl rfl
theorem dL_law_1185 : decode cL_law 1185 = .ok (.goto 860, 3) := dq_167 (k := 1184) (r := 1) lwb_37 rfl (by decide +kernel)
theorem dL_law_1188 : decode cL_law 1188 = .ok (.aload_n 1, 1) := dq_43 (k := 1184) (r := 4) lwb_37 rfl
theorem dL_law_1189 : decode cL_law 1189 = .ok (.aload_n 0, 1) := dq_42 (k := 1184) (r := 5) lwb_37 rfl
theorem dL_law_1190 : decode cL_law 1190 = .ok (.iload 4, 2) := dq_21 (k := 1184) (r := 6) lwb_37 rfl rfl
theorem dL_law_1192 : decode cL_law 1192 = .ok (.iconst 1, 1) := dq_4 (k := 1184) (r := 8) lwb_37 rfl
theorem dL_law_1193 : decode cL_law 1193 = .ok (.iadd, 1) := dq_96 (k := 1184) (r := 9) lwb_37 rfl
theorem dL_law_1194 : decode cL_law 1194 = .ok (.iaload, 1) := dq_46 (k := 1184) (r := 10) lwb_37 rfl
theorem dL_law_1195 : decode cL_law 1195 = .ok (.aload_n 3, 1) := dq_45 (k := 1184) (r := 11) lwb_37 rfl
theorem dL_law_1196 : decode cL_law 1196 = .ok (.invokestatic 226, 3) := dq_184 (k := 1184) (r := 12) lwb_37 rfl rfl
theorem dL_law_1199 : decode cL_law 1199 = .ok (.istore 5, 2) := dq_54 (k := 1184) (r := 15) lwb_37 rfl rfl
theorem dL_law_1201 : decode cL_law 1201 = .ok (.aload_n 2, 1) := dq_44 (k := 1184) (r := 17) lwb_37 rfl
theorem dL_law_1202 : decode cL_law 1202 = .ok (.aload_n 0, 1) := dq_42 (k := 1184) (r := 18) lwb_37 rfl
theorem dL_law_1203 : decode cL_law 1203 = .ok (.iload 4, 2) := dq_21 (k := 1184) (r := 19) lwb_37 rfl rfl
theorem dL_law_1205 : decode cL_law 1205 = .ok (.iconst 1, 1) := dq_4 (k := 1184) (r := 21) lwb_37 rfl
theorem dL_law_1206 : decode cL_law 1206 = .ok (.iadd, 1) := dq_96 (k := 1184) (r := 22) lwb_37 rfl
theorem dL_law_1207 : decode cL_law 1207 = .ok (.iaload, 1) := dq_46 (k := 1184) (r := 23) lwb_37 rfl
theorem dL_law_1208 : decode cL_law 1208 = .ok (.invokevirtual 228, 3) := dq_182 (k := 1184) (r := 24) lwb_37 rfl rfl
theorem dL_law_1211 : decode cL_law 1211 = .ok (.istore 6, 2) := dq_54 (k := 1184) (r := 27) lwb_37 rfl rfl
theorem dL_law_1213 : decode cL_law 1213 = .ok (.goto 832, 3) := dq_167 (k := 1184) (r := 29) lwb_37 rfl (by decide +kernel)
theorem dL_law_1216 : decode cL_law 1216 = .ok (.aload_n 1, 1) := dq_43 (k := 1216) (r := 0) lwb_38 rfl
theorem dL_law_1217 : decode cL_law 1217 = .ok (.aload_n 0, 1) := dq_42 (k := 1216) (r := 1) lwb_38 rfl
theorem dL_law_1218 : decode cL_law 1218 = .ok (.iload 4, 2) := dq_21 (k := 1216) (r := 2) lwb_38 rfl rfl
theorem dL_law_1220 : decode cL_law 1220 = .ok (.iconst 1, 1) := dq_4 (k := 1216) (r := 4) lwb_38 rfl
theorem dL_law_1221 : decode cL_law 1221 = .ok (.iadd, 1) := dq_96 (k := 1216) (r := 5) lwb_38 rfl
theorem dL_law_1222 : decode cL_law 1222 = .ok (.iaload, 1) := dq_46 (k := 1216) (r := 6) lwb_38 rfl
theorem dL_law_1223 : decode cL_law 1223 = .ok (.aload_n 3, 1) := dq_45 (k := 1216) (r := 7) lwb_38 rfl
theorem dL_law_1224 : decode cL_law 1224 = .ok (.invokestatic 229, 3) := dq_184 (k := 1216) (r := 8) lwb_38 rfl rfl
theorem dL_law_1227 : decode cL_law 1227 = .ok (.istore 5, 2) := dq_54 (k := 1216) (r := 11) lwb_38 rfl rfl
theorem dL_law_1229 : decode cL_law 1229 = .ok (.aload_n 2, 1) := dq_44 (k := 1216) (r := 13) lwb_38 rfl
theorem dL_law_1230 : decode cL_law 1230 = .ok (.aload_n 0, 1) := dq_42 (k := 1216) (r := 14) lwb_38 rfl
theorem dL_law_1231 : decode cL_law 1231 = .ok (.iload 4, 2) := dq_21 (k := 1216) (r := 15) lwb_38 rfl rfl
theorem dL_law_1233 : decode cL_law 1233 = .ok (.iconst 1, 1) := dq_4 (k := 1216) (r := 17) lwb_38 rfl
theorem dL_law_1234 : decode cL_law 1234 = .ok (.iadd, 1) := dq_96 (k := 1216) (r := 18) lwb_38 rfl
theorem dL_law_1235 : decode cL_law 1235 = .ok (.iaload, 1) := dq_46 (k := 1216) (r := 19) lwb_38 rfl
theorem dL_law_1236 : decode cL_law 1236 = .ok (.invokevirtual 231, 3) := dq_182 (k := 1216) (r := 20) lwb_38 rfl rfl
theorem dL_law_1239 : decode cL_law 1239 = .ok (.istore 6, 2) := dq_54 (k := 1216) (r := 23) lwb_38 rfl rfl
theorem dL_law_1241 : decode cL_law 1241 = .ok (.goto 804, 3) := dq_167 (k := 1216) (r := 25) lwb_38 rfl (by decide +kernel)
theorem dL_law_1244 : decode cL_law 1244 = .ok (.aload_n 1, 1) := dq_43 (k := 1216) (r := 28) lwb_38 rfl
theorem dL_law_1245 : decode cL_law 1245 = .ok (.invokevirtual 232, 3) := dq_182 (k := 1216) (r := 29) lwb_38 rfl rfl
theorem dL_law_1248 : decode cL_law 1248 = .ok (.pop, 1) := dq_87 (k := 1248) (r := 0) lwb_39 rfl
theorem dL_law_1249 : decode cL_law 1249 = .ok (.aload_n 2, 1) := dq_44 (k := 1248) (r := 1) lwb_39 rfl
theorem dL_law_1250 : decode cL_law 1250 = .ok (.invokevirtual 236, 3) := dq_182 (k := 1248) (r := 2) lwb_39 rfl rfl
theorem dL_law_1253 : decode cL_law 1253 = .ok (.pop, 1) := dq_87 (k := 1248) (r := 5) lwb_39 rfl
theorem dL_law_1254 : decode cL_law 1254 = .ok (.goto 791, 3) := dq_167 (k := 1248) (r := 6) lwb_39 rfl (by decide +kernel)
theorem dL_law_1257 : decode cL_law 1257 = .ok (.aload_n 1, 1) := dq_43 (k := 1248) (r := 9) lwb_39 rfl
theorem dL_law_1258 : decode cL_law 1258 = .ok (.aload_n 0, 1) := dq_42 (k := 1248) (r := 10) lwb_39 rfl
theorem dL_law_1259 : decode cL_law 1259 = .ok (.iload 4, 2) := dq_21 (k := 1248) (r := 11) lwb_39 rfl rfl
theorem dL_law_1261 : decode cL_law 1261 = .ok (.iconst 1, 1) := dq_4 (k := 1248) (r := 13) lwb_39 rfl
theorem dL_law_1262 : decode cL_law 1262 = .ok (.iadd, 1) := dq_96 (k := 1248) (r := 14) lwb_39 rfl
theorem dL_law_1263 : decode cL_law 1263 = .ok (.iaload, 1) := dq_46 (k := 1248) (r := 15) lwb_39 rfl
theorem dL_law_1264 : decode cL_law 1264 = .ok (.ifCond .eq 7, 3) := dq_153 (k := 1248) (r := 16) lwb_39 rfl (by decide +kernel)
theorem dL_law_1267 : decode cL_law 1267 = .ok (.iconst 1, 1) := dq_4 (k := 1248) (r := 19) lwb_39 rfl
theorem dL_law_1268 : decode cL_law 1268 = .ok (.goto 4, 3) := dq_167 (k := 1248) (r := 20) lwb_39 rfl (by decide +kernel)
theorem dL_law_1271 : decode cL_law 1271 = .ok (.iconst 0, 1) := dq_3 (k := 1248) (r := 23) lwb_39 rfl
theorem dL_law_1272 : decode cL_law 1272 = .ok (.invokevirtual 237, 3) := dq_182 (k := 1248) (r := 24) lwb_39 rfl rfl
theorem dL_law_1275 : decode cL_law 1275 = .ok (.pop, 1) := dq_87 (k := 1248) (r := 27) lwb_39 rfl
theorem dL_law_1276 : decode cL_law 1276 = .ok (.aload_n 2, 1) := dq_44 (k := 1248) (r := 28) lwb_39 rfl
theorem dL_law_1277 : decode cL_law 1277 = .ok (.aload_n 0, 1) := dq_42 (k := 1248) (r := 29) lwb_39 rfl
theorem dL_law_1278 : decode cL_law 1278 = .ok (.iload 4, 2) := dq_21 (k := 1248) (r := 30) lwb_39 rfl rfl
theorem dL_law_1280 : decode cL_law 1280 = .ok (.iconst 1, 1) := dq_4 (k := 1280) (r := 0) lwb_40 rfl
theorem dL_law_1281 : decode cL_law 1281 = .ok (.iadd, 1) := dq_96 (k := 1280) (r := 1) lwb_40 rfl
theorem dL_law_1282 : decode cL_law 1282 = .ok (.iaload, 1) := dq_46 (k := 1280) (r := 2) lwb_40 rfl
theorem dL_law_1283 : decode cL_law 1283 = .ok (.ifCond .eq 7, 3) := dq_153 (k := 1280) (r := 3) lwb_40 rfl (by decide +kernel)
theorem dL_law_1286 : decode cL_law 1286 = .ok (.iconst 1, 1) := dq_4 (k := 1280) (r := 6) lwb_40 rfl
theorem dL_law_1287 : decode cL_law 1287 = .ok (.goto 4, 3) := dq_167 (k := 1280) (r := 7) lwb_40 rfl (by decide +kernel)
theorem dL_law_1290 : decode cL_law 1290 = .ok (.iconst 0, 1) := dq_3 (k := 1280) (r := 10) lwb_40 rfl
theorem dL_law_1291 : decode cL_law 1291 = .ok (.invokevirtual 241, 3) := dq_182 (k := 1280) (r := 11) lwb_40 rfl rfl
theorem dL_law_1294 : decode cL_law 1294 = .ok (.pop, 1) := dq_87 (k := 1280) (r := 14) lwb_40 rfl
theorem dL_law_1295 : decode cL_law 1295 = .ok (.goto 750, 3) := dq_167 (k := 1280) (r := 15) lwb_40 rfl (by decide +kernel)
theorem dL_law_1298 : decode cL_law 1298 = .ok (.aload_n 1, 1) := dq_43 (k := 1280) (r := 18) lwb_40 rfl
theorem dL_law_1299 : decode cL_law 1299 = .ok (.invokevirtual 242, 3) := dq_182 (k := 1280) (r := 19) lwb_40 rfl rfl
theorem dL_law_1302 : decode cL_law 1302 = .ok (.pop, 1) := dq_87 (k := 1280) (r := 22) lwb_40 rfl
theorem dL_law_1303 : decode cL_law 1303 = .ok (.aload_n 2, 1) := dq_44 (k := 1280) (r := 23) lwb_40 rfl
theorem dL_law_1304 : decode cL_law 1304 = .ok (.invokevirtual 245, 3) := dq_182 (k := 1280) (r := 24) lwb_40 rfl rfl
theorem dL_law_1307 : decode cL_law 1307 = .ok (.pop, 1) := dq_87 (k := 1280) (r := 27) lwb_40 rfl
theorem dL_law_1308 : decode cL_law 1308 = .ok (.goto 737, 3) := dq_167 (k := 1280) (r := 28) lwb_40 rfl (by decide +kernel)
theorem dL_law_1311 : decode cL_law 1311 = .ok (.aload_n 1, 1) := dq_43 (k := 1280) (r := 31) lwb_40 rfl
theorem dL_law_1312 : decode cL_law 1312 = .ok (.aload_n 0, 1) := dq_42 (k := 1312) (r := 0) lwb_41 rfl
theorem dL_law_1313 : decode cL_law 1313 = .ok (.iload 4, 2) := dq_21 (k := 1312) (r := 1) lwb_41 rfl rfl
theorem dL_law_1315 : decode cL_law 1315 = .ok (.iconst 1, 1) := dq_4 (k := 1312) (r := 3) lwb_41 rfl
theorem dL_law_1316 : decode cL_law 1316 = .ok (.iadd, 1) := dq_96 (k := 1312) (r := 4) lwb_41 rfl
theorem dL_law_1317 : decode cL_law 1317 = .ok (.iaload, 1) := dq_46 (k := 1312) (r := 5) lwb_41 rfl
theorem dL_law_1318 : decode cL_law 1318 = .ok (.aload_n 0, 1) := dq_42 (k := 1312) (r := 6) lwb_41 rfl
theorem dL_law_1319 : decode cL_law 1319 = .ok (.iload 4, 2) := dq_21 (k := 1312) (r := 7) lwb_41 rfl rfl
theorem dL_law_1321 : decode cL_law 1321 = .ok (.iconst 2, 1) := dq_5 (k := 1312) (r := 9) lwb_41 rfl
theorem dL_law_1322 : decode cL_law 1322 = .ok (.iadd, 1) := dq_96 (k := 1312) (r := 10) lwb_41 rfl
theorem dL_law_1323 : decode cL_law 1323 = .ok (.iaload, 1) := dq_46 (k := 1312) (r := 11) lwb_41 rfl
theorem dL_law_1324 : decode cL_law 1324 = .ok (.aload_n 3, 1) := dq_45 (k := 1312) (r := 12) lwb_41 rfl
theorem dL_law_1325 : decode cL_law 1325 = .ok (.invokestatic 246, 3) := dq_184 (k := 1312) (r := 13) lwb_41 rfl rfl
theorem dL_law_1328 : decode cL_law 1328 = .ok (.istore 5, 2) := dq_54 (k := 1312) (r := 16) lwb_41 rfl rfl
theorem dL_law_1330 : decode cL_law 1330 = .ok (.aload_n 2, 1) := dq_44 (k := 1312) (r := 18) lwb_41 rfl
theorem dL_law_1331 : decode cL_law 1331 = .ok (.aload_n 0, 1) := dq_42 (k := 1312) (r := 19) lwb_41 rfl
theorem dL_law_1332 : decode cL_law 1332 = .ok (.iload 4, 2) := dq_21 (k := 1312) (r := 20) lwb_41 rfl rfl
theorem dL_law_1334 : decode cL_law 1334 = .ok (.iconst 1, 1) := dq_4 (k := 1312) (r := 22) lwb_41 rfl
theorem dL_law_1335 : decode cL_law 1335 = .ok (.iadd, 1) := dq_96 (k := 1312) (r := 23) lwb_41 rfl
theorem dL_law_1336 : decode cL_law 1336 = .ok (.iaload, 1) := dq_46 (k := 1312) (r := 24) lwb_41 rfl
theorem dL_law_1337 : decode cL_law 1337 = .ok (.aload_n 0, 1) := dq_42 (k := 1312) (r := 25) lwb_41 rfl
theorem dL_law_1338 : decode cL_law 1338 = .ok (.iload 4, 2) := dq_21 (k := 1312) (r := 26) lwb_41 rfl rfl
theorem dL_law_1340 : decode cL_law 1340 = .ok (.iconst 2, 1) := dq_5 (k := 1312) (r := 28) lwb_41 rfl
theorem dL_law_1341 : decode cL_law 1341 = .ok (.iadd, 1) := dq_96 (k := 1312) (r := 29) lwb_41 rfl
theorem dL_law_1342 : decode cL_law 1342 = .ok (.iaload, 1) := dq_46 (k := 1312) (r := 30) lwb_41 rfl
theorem dL_law_1343 : decode cL_law 1343 = .ok (.invokevirtual 248, 3) := dq_182 (k := 1312) (r := 31) lwb_41 rfl rfl
theorem dL_law_1346 : decode cL_law 1346 = .ok (.istore 6, 2) := dq_54 (k := 1344) (r := 2) lwb_42 rfl rfl
theorem dL_law_1348 : decode cL_law 1348 = .ok (.goto 697, 3) := dq_167 (k := 1344) (r := 4) lwb_42 rfl (by decide +kernel)
theorem dL_law_1351 : decode cL_law 1351 = .ok (.aload_n 1, 1) := dq_43 (k := 1344) (r := 7) lwb_42 rfl
theorem dL_law_1352 : decode cL_law 1352 = .ok (.aload_n 0, 1) := dq_42 (k := 1344) (r := 8) lwb_42 rfl
theorem dL_law_1353 : decode cL_law 1353 = .ok (.iload 4, 2) := dq_21 (k := 1344) (r := 9) lwb_42 rfl rfl
theorem dL_law_1355 : decode cL_law 1355 = .ok (.iconst 1, 1) := dq_4 (k := 1344) (r := 11) lwb_42 rfl
theorem dL_law_1356 : decode cL_law 1356 = .ok (.iadd, 1) := dq_96 (k := 1344) (r := 12) lwb_42 rfl
theorem dL_law_1357 : decode cL_law 1357 = .ok (.iaload, 1) := dq_46 (k := 1344) (r := 13) lwb_42 rfl
theorem dL_law_1358 : decode cL_law 1358 = .ok (.aload_n 3, 1) := dq_45 (k := 1344) (r := 14) lwb_42 rfl
theorem dL_law_1359 : decode cL_law 1359 = .ok (.invokestatic 249, 3) := dq_184 (k := 1344) (r := 15) lwb_42 rfl rfl
theorem dL_law_1362 : decode cL_law 1362 = .ok (.istore 5, 2) := dq_54 (k := 1344) (r := 18) lwb_42 rfl rfl
theorem dL_law_1364 : decode cL_law 1364 = .ok (.aload_n 2, 1) := dq_44 (k := 1344) (r := 20) lwb_42 rfl
theorem dL_law_1365 : decode cL_law 1365 = .ok (.aload_n 0, 1) := dq_42 (k := 1344) (r := 21) lwb_42 rfl
theorem dL_law_1366 : decode cL_law 1366 = .ok (.iload 4, 2) := dq_21 (k := 1344) (r := 22) lwb_42 rfl rfl
theorem dL_law_1368 : decode cL_law 1368 = .ok (.iconst 1, 1) := dq_4 (k := 1344) (r := 24) lwb_42 rfl
theorem dL_law_1369 : decode cL_law 1369 = .ok (.iadd, 1) := dq_96 (k := 1344) (r := 25) lwb_42 rfl
theorem dL_law_1370 : decode cL_law 1370 = .ok (.iaload, 1) := dq_46 (k := 1344) (r := 26) lwb_42 rfl
theorem dL_law_1371 : decode cL_law 1371 = .ok (.invokevirtual 251, 3) := dq_182 (k := 1344) (r := 27) lwb_42 rfl rfl
theorem dL_law_1374 : decode cL_law 1374 = .ok (.istore 6, 2) := dq_54 (k := 1344) (r := 30) lwb_42 rfl rfl
theorem dL_law_1376 : decode cL_law 1376 = .ok (.goto 669, 3) := dq_167 (k := 1376) (r := 0) lwb_43 rfl (by decide +kernel)
theorem dL_law_1379 : decode cL_law 1379 = .ok (.aload_n 1, 1) := dq_43 (k := 1376) (r := 3) lwb_43 rfl
theorem dL_law_1380 : decode cL_law 1380 = .ok (.aload_n 0, 1) := dq_42 (k := 1376) (r := 4) lwb_43 rfl
theorem dL_law_1381 : decode cL_law 1381 = .ok (.iload 4, 2) := dq_21 (k := 1376) (r := 5) lwb_43 rfl rfl
theorem dL_law_1383 : decode cL_law 1383 = .ok (.iconst 1, 1) := dq_4 (k := 1376) (r := 7) lwb_43 rfl
theorem dL_law_1384 : decode cL_law 1384 = .ok (.iadd, 1) := dq_96 (k := 1376) (r := 8) lwb_43 rfl
theorem dL_law_1385 : decode cL_law 1385 = .ok (.iaload, 1) := dq_46 (k := 1376) (r := 9) lwb_43 rfl
theorem dL_law_1386 : decode cL_law 1386 = .ok (.aload_n 3, 1) := dq_45 (k := 1376) (r := 10) lwb_43 rfl
theorem dL_law_1387 : decode cL_law 1387 = .ok (.invokestatic 252, 3) := dq_184 (k := 1376) (r := 11) lwb_43 rfl rfl
theorem dL_law_1390 : decode cL_law 1390 = .ok (.istore 5, 2) := dq_54 (k := 1376) (r := 14) lwb_43 rfl rfl
theorem dL_law_1392 : decode cL_law 1392 = .ok (.aload_n 2, 1) := dq_44 (k := 1376) (r := 16) lwb_43 rfl
theorem dL_law_1393 : decode cL_law 1393 = .ok (.aload_n 0, 1) := dq_42 (k := 1376) (r := 17) lwb_43 rfl
theorem dL_law_1394 : decode cL_law 1394 = .ok (.iload 4, 2) := dq_21 (k := 1376) (r := 18) lwb_43 rfl rfl
theorem dL_law_1396 : decode cL_law 1396 = .ok (.iconst 1, 1) := dq_4 (k := 1376) (r := 20) lwb_43 rfl
theorem dL_law_1397 : decode cL_law 1397 = .ok (.iadd, 1) := dq_96 (k := 1376) (r := 21) lwb_43 rfl
theorem dL_law_1398 : decode cL_law 1398 = .ok (.iaload, 1) := dq_46 (k := 1376) (r := 22) lwb_43 rfl
theorem dL_law_1399 : decode cL_law 1399 = .ok (.invokevirtual 254, 3) := dq_182 (k := 1376) (r := 23) lwb_43 rfl rfl
theorem dL_law_1402 : decode cL_law 1402 = .ok (.istore 6, 2) := dq_54 (k := 1376) (r := 26) lwb_43 rfl rfl
theorem dL_law_1404 : decode cL_law 1404 = .ok (.goto 641, 3) := dq_167 (k := 1376) (r := 28) lwb_43 rfl (by decide +kernel)
theorem dL_law_1407 : decode cL_law 1407 = .ok (.aload_n 1, 1) := dq_43 (k := 1376) (r := 31) lwb_43 rfl
theorem dL_law_1408 : decode cL_law 1408 = .ok (.aload_n 0, 1) := dq_42 (k := 1408) (r := 0) lwb_44 rfl
theorem dL_law_1409 : decode cL_law 1409 = .ok (.iload 4, 2) := dq_21 (k := 1408) (r := 1) lwb_44 rfl rfl
theorem dL_law_1411 : decode cL_law 1411 = .ok (.iconst 1, 1) := dq_4 (k := 1408) (r := 3) lwb_44 rfl
theorem dL_law_1412 : decode cL_law 1412 = .ok (.iadd, 1) := dq_96 (k := 1408) (r := 4) lwb_44 rfl
theorem dL_law_1413 : decode cL_law 1413 = .ok (.iaload, 1) := dq_46 (k := 1408) (r := 5) lwb_44 rfl
theorem dL_law_1414 : decode cL_law 1414 = .ok (.aload_n 3, 1) := dq_45 (k := 1408) (r := 6) lwb_44 rfl
theorem dL_law_1415 : decode cL_law 1415 = .ok (.invokestatic 255, 3) := dq_184 (k := 1408) (r := 7) lwb_44 rfl rfl
theorem dL_law_1418 : decode cL_law 1418 = .ok (.istore 5, 2) := dq_54 (k := 1408) (r := 10) lwb_44 rfl rfl
theorem dL_law_1420 : decode cL_law 1420 = .ok (.aload_n 2, 1) := dq_44 (k := 1408) (r := 12) lwb_44 rfl
theorem dL_law_1421 : decode cL_law 1421 = .ok (.aload_n 0, 1) := dq_42 (k := 1408) (r := 13) lwb_44 rfl
theorem dL_law_1422 : decode cL_law 1422 = .ok (.iload 4, 2) := dq_21 (k := 1408) (r := 14) lwb_44 rfl rfl
theorem dL_law_1424 : decode cL_law 1424 = .ok (.iconst 1, 1) := dq_4 (k := 1408) (r := 16) lwb_44 rfl
theorem dL_law_1425 : decode cL_law 1425 = .ok (.iadd, 1) := dq_96 (k := 1408) (r := 17) lwb_44 rfl
theorem dL_law_1426 : decode cL_law 1426 = .ok (.iaload, 1) := dq_46 (k := 1408) (r := 18) lwb_44 rfl
theorem dL_law_1427 : decode cL_law 1427 = .ok (.invokevirtual 257, 3) := dq_182 (k := 1408) (r := 19) lwb_44 rfl rfl
theorem dL_law_1430 : decode cL_law 1430 = .ok (.istore 6, 2) := dq_54 (k := 1408) (r := 22) lwb_44 rfl rfl
theorem dL_law_1432 : decode cL_law 1432 = .ok (.goto 613, 3) := dq_167 (k := 1408) (r := 24) lwb_44 rfl (by decide +kernel)
theorem dL_law_1435 : decode cL_law 1435 = .ok (.aload_n 1, 1) := dq_43 (k := 1408) (r := 27) lwb_44 rfl
theorem dL_law_1436 : decode cL_law 1436 = .ok (.aload_n 0, 1) := dq_42 (k := 1408) (r := 28) lwb_44 rfl
theorem dL_law_1437 : decode cL_law 1437 = .ok (.iload 4, 2) := dq_21 (k := 1408) (r := 29) lwb_44 rfl rfl
theorem dL_law_1439 : decode cL_law 1439 = .ok (.iconst 1, 1) := dq_4 (k := 1408) (r := 31) lwb_44 rfl
theorem dL_law_1440 : decode cL_law 1440 = .ok (.iadd, 1) := dq_96 (k := 1440) (r := 0) lwb_45 rfl
theorem dL_law_1441 : decode cL_law 1441 = .ok (.iaload, 1) := dq_46 (k := 1440) (r := 1) lwb_45 rfl
theorem dL_law_1442 : decode cL_law 1442 = .ok (.aload_n 3, 1) := dq_45 (k := 1440) (r := 2) lwb_45 rfl
theorem dL_law_1443 : decode cL_law 1443 = .ok (.invokestatic 258, 3) := dq_184 (k := 1440) (r := 3) lwb_45 rfl rfl
theorem dL_law_1446 : decode cL_law 1446 = .ok (.istore 5, 2) := dq_54 (k := 1440) (r := 6) lwb_45 rfl rfl
theorem dL_law_1448 : decode cL_law 1448 = .ok (.aload_n 2, 1) := dq_44 (k := 1440) (r := 8) lwb_45 rfl
theorem dL_law_1449 : decode cL_law 1449 = .ok (.aload_n 0, 1) := dq_42 (k := 1440) (r := 9) lwb_45 rfl
theorem dL_law_1450 : decode cL_law 1450 = .ok (.iload 4, 2) := dq_21 (k := 1440) (r := 10) lwb_45 rfl rfl
theorem dL_law_1452 : decode cL_law 1452 = .ok (.iconst 1, 1) := dq_4 (k := 1440) (r := 12) lwb_45 rfl
theorem dL_law_1453 : decode cL_law 1453 = .ok (.iadd, 1) := dq_96 (k := 1440) (r := 13) lwb_45 rfl
theorem dL_law_1454 : decode cL_law 1454 = .ok (.iaload, 1) := dq_46 (k := 1440) (r := 14) lwb_45 rfl
theorem dL_law_1455 : decode cL_law 1455 = .ok (.invokevirtual 260, 3) := dq_182 (k := 1440) (r := 15) lwb_45 rfl rfl
theorem dL_law_1458 : decode cL_law 1458 = .ok (.istore 6, 2) := dq_54 (k := 1440) (r := 18) lwb_45 rfl rfl
theorem dL_law_1460 : decode cL_law 1460 = .ok (.goto 585, 3) := dq_167 (k := 1440) (r := 20) lwb_45 rfl (by decide +kernel)
theorem dL_law_1463 : decode cL_law 1463 = .ok (.aload_n 1, 1) := dq_43 (k := 1440) (r := 23) lwb_45 rfl
theorem dL_law_1464 : decode cL_law 1464 = .ok (.aload_n 0, 1) := dq_42 (k := 1440) (r := 24) lwb_45 rfl
theorem dL_law_1465 : decode cL_law 1465 = .ok (.iload 4, 2) := dq_21 (k := 1440) (r := 25) lwb_45 rfl rfl
theorem dL_law_1467 : decode cL_law 1467 = .ok (.iconst 1, 1) := dq_4 (k := 1440) (r := 27) lwb_45 rfl
theorem dL_law_1468 : decode cL_law 1468 = .ok (.iadd, 1) := dq_96 (k := 1440) (r := 28) lwb_45 rfl
theorem dL_law_1469 : decode cL_law 1469 = .ok (.iaload, 1) := dq_46 (k := 1440) (r := 29) lwb_45 rfl
theorem dL_law_1470 : decode cL_law 1470 = .ok (.aload_n 3, 1) := dq_45 (k := 1440) (r := 30) lwb_45 rfl
theorem dL_law_1471 : decode cL_law 1471 = .ok (.invokestatic 261, 3) := dq_184 (k := 1440) (r := 31) lwb_45 rfl rfl
theorem dL_law_1474 : decode cL_law 1474 = .ok (.istore 5, 2) := dq_54 (k := 1472) (r := 2) lwb_46 rfl rfl
theorem dL_law_1476 : decode cL_law 1476 = .ok (.aload_n 2, 1) := dq_44 (k := 1472) (r := 4) lwb_46 rfl
theorem dL_law_1477 : decode cL_law 1477 = .ok (.aload_n 0, 1) := dq_42 (k := 1472) (r := 5) lwb_46 rfl
theorem dL_law_1478 : decode cL_law 1478 = .ok (.iload 4, 2) := dq_21 (k := 1472) (r := 6) lwb_46 rfl rfl
theorem dL_law_1480 : decode cL_law 1480 = .ok (.iconst 1, 1) := dq_4 (k := 1472) (r := 8) lwb_46 rfl
theorem dL_law_1481 : decode cL_law 1481 = .ok (.iadd, 1) := dq_96 (k := 1472) (r := 9) lwb_46 rfl
theorem dL_law_1482 : decode cL_law 1482 = .ok (.iaload, 1) := dq_46 (k := 1472) (r := 10) lwb_46 rfl
theorem dL_law_1483 : decode cL_law 1483 = .ok (.invokevirtual 263, 3) := dq_182 (k := 1472) (r := 11) lwb_46 rfl rfl
theorem dL_law_1486 : decode cL_law 1486 = .ok (.istore 6, 2) := dq_54 (k := 1472) (r := 14) lwb_46 rfl rfl
theorem dL_law_1488 : decode cL_law 1488 = .ok (.goto 557, 3) := dq_167 (k := 1472) (r := 16) lwb_46 rfl (by decide +kernel)
theorem dL_law_1491 : decode cL_law 1491 = .ok (.aload_n 1, 1) := dq_43 (k := 1472) (r := 19) lwb_46 rfl
theorem dL_law_1492 : decode cL_law 1492 = .ok (.aload_n 0, 1) := dq_42 (k := 1472) (r := 20) lwb_46 rfl
theorem dL_law_1493 : decode cL_law 1493 = .ok (.iload 4, 2) := dq_21 (k := 1472) (r := 21) lwb_46 rfl rfl
theorem dL_law_1495 : decode cL_law 1495 = .ok (.iconst 1, 1) := dq_4 (k := 1472) (r := 23) lwb_46 rfl
theorem dL_law_1496 : decode cL_law 1496 = .ok (.iadd, 1) := dq_96 (k := 1472) (r := 24) lwb_46 rfl
theorem dL_law_1497 : decode cL_law 1497 = .ok (.iaload, 1) := dq_46 (k := 1472) (r := 25) lwb_46 rfl
theorem dL_law_1498 : decode cL_law 1498 = .ok (.aload_n 3, 1) := dq_45 (k := 1472) (r := 26) lwb_46 rfl
theorem dL_law_1499 : decode cL_law 1499 = .ok (.invokestatic 264, 3) := dq_184 (k := 1472) (r := 27) lwb_46 rfl rfl
theorem dL_law_1502 : decode cL_law 1502 = .ok (.istore 5, 2) := dq_54 (k := 1472) (r := 30) lwb_46 rfl rfl
theorem dL_law_1504 : decode cL_law 1504 = .ok (.aload_n 2, 1) := dq_44 (k := 1504) (r := 0) lwb_47 rfl
theorem dL_law_1505 : decode cL_law 1505 = .ok (.aload_n 0, 1) := dq_42 (k := 1504) (r := 1) lwb_47 rfl
theorem dL_law_1506 : decode cL_law 1506 = .ok (.iload 4, 2) := dq_21 (k := 1504) (r := 2) lwb_47 rfl rfl
theorem dL_law_1508 : decode cL_law 1508 = .ok (.iconst 1, 1) := dq_4 (k := 1504) (r := 4) lwb_47 rfl
theorem dL_law_1509 : decode cL_law 1509 = .ok (.iadd, 1) := dq_96 (k := 1504) (r := 5) lwb_47 rfl
theorem dL_law_1510 : decode cL_law 1510 = .ok (.iaload, 1) := dq_46 (k := 1504) (r := 6) lwb_47 rfl
theorem dL_law_1511 : decode cL_law 1511 = .ok (.invokevirtual 266, 3) := dq_182 (k := 1504) (r := 7) lwb_47 rfl rfl
theorem dL_law_1514 : decode cL_law 1514 = .ok (.istore 6, 2) := dq_54 (k := 1504) (r := 10) lwb_47 rfl rfl
theorem dL_law_1516 : decode cL_law 1516 = .ok (.goto 529, 3) := dq_167 (k := 1504) (r := 12) lwb_47 rfl (by decide +kernel)
theorem dL_law_1519 : decode cL_law 1519 = .ok (.aload_n 1, 1) := dq_43 (k := 1504) (r := 15) lwb_47 rfl
theorem dL_law_1520 : decode cL_law 1520 = .ok (.aload_n 0, 1) := dq_42 (k := 1504) (r := 16) lwb_47 rfl
theorem dL_law_1521 : decode cL_law 1521 = .ok (.iload 4, 2) := dq_21 (k := 1504) (r := 17) lwb_47 rfl rfl
theorem dL_law_1523 : decode cL_law 1523 = .ok (.iconst 1, 1) := dq_4 (k := 1504) (r := 19) lwb_47 rfl
theorem dL_law_1524 : decode cL_law 1524 = .ok (.iadd, 1) := dq_96 (k := 1504) (r := 20) lwb_47 rfl
theorem dL_law_1525 : decode cL_law 1525 = .ok (.iaload, 1) := dq_46 (k := 1504) (r := 21) lwb_47 rfl
theorem dL_law_1526 : decode cL_law 1526 = .ok (.aload_n 0, 1) := dq_42 (k := 1504) (r := 22) lwb_47 rfl
theorem dL_law_1527 : decode cL_law 1527 = .ok (.iload 4, 2) := dq_21 (k := 1504) (r := 23) lwb_47 rfl rfl
theorem dL_law_1529 : decode cL_law 1529 = .ok (.iconst 2, 1) := dq_5 (k := 1504) (r := 25) lwb_47 rfl
theorem dL_law_1530 : decode cL_law 1530 = .ok (.iadd, 1) := dq_96 (k := 1504) (r := 26) lwb_47 rfl
theorem dL_law_1531 : decode cL_law 1531 = .ok (.iaload, 1) := dq_46 (k := 1504) (r := 27) lwb_47 rfl
theorem dL_law_1532 : decode cL_law 1532 = .ok (.aload_n 3, 1) := dq_45 (k := 1504) (r := 28) lwb_47 rfl
theorem dL_law_1533 : decode cL_law 1533 = .ok (.invokestatic 267, 3) := dq_184 (k := 1504) (r := 29) lwb_47 rfl rfl
theorem dL_law_1536 : decode cL_law 1536 = .ok (.istore 5, 2) := dq_54 (k := 1536) (r := 0) lwb_48 rfl rfl
theorem dL_law_1538 : decode cL_law 1538 = .ok (.aload_n 2, 1) := dq_44 (k := 1536) (r := 2) lwb_48 rfl
theorem dL_law_1539 : decode cL_law 1539 = .ok (.aload_n 0, 1) := dq_42 (k := 1536) (r := 3) lwb_48 rfl
theorem dL_law_1540 : decode cL_law 1540 = .ok (.iload 4, 2) := dq_21 (k := 1536) (r := 4) lwb_48 rfl rfl
theorem dL_law_1542 : decode cL_law 1542 = .ok (.iconst 1, 1) := dq_4 (k := 1536) (r := 6) lwb_48 rfl
theorem dL_law_1543 : decode cL_law 1543 = .ok (.iadd, 1) := dq_96 (k := 1536) (r := 7) lwb_48 rfl
theorem dL_law_1544 : decode cL_law 1544 = .ok (.iaload, 1) := dq_46 (k := 1536) (r := 8) lwb_48 rfl
theorem dL_law_1545 : decode cL_law 1545 = .ok (.aload_n 0, 1) := dq_42 (k := 1536) (r := 9) lwb_48 rfl
theorem dL_law_1546 : decode cL_law 1546 = .ok (.iload 4, 2) := dq_21 (k := 1536) (r := 10) lwb_48 rfl rfl
theorem dL_law_1548 : decode cL_law 1548 = .ok (.iconst 2, 1) := dq_5 (k := 1536) (r := 12) lwb_48 rfl
theorem dL_law_1549 : decode cL_law 1549 = .ok (.iadd, 1) := dq_96 (k := 1536) (r := 13) lwb_48 rfl
theorem dL_law_1550 : decode cL_law 1550 = .ok (.iaload, 1) := dq_46 (k := 1536) (r := 14) lwb_48 rfl
theorem dL_law_1551 : decode cL_law 1551 = .ok (.invokevirtual 269, 3) := dq_182 (k := 1536) (r := 15) lwb_48 rfl rfl
theorem dL_law_1554 : decode cL_law 1554 = .ok (.istore 6, 2) := dq_54 (k := 1536) (r := 18) lwb_48 rfl rfl
theorem dL_law_1556 : decode cL_law 1556 = .ok (.goto 489, 3) := dq_167 (k := 1536) (r := 20) lwb_48 rfl (by decide +kernel)
theorem dL_law_1559 : decode cL_law 1559 = .ok (.aload_n 1, 1) := dq_43 (k := 1536) (r := 23) lwb_48 rfl
theorem dL_law_1560 : decode cL_law 1560 = .ok (.aload_n 0, 1) := dq_42 (k := 1536) (r := 24) lwb_48 rfl
theorem dL_law_1561 : decode cL_law 1561 = .ok (.iload 4, 2) := dq_21 (k := 1536) (r := 25) lwb_48 rfl rfl
theorem dL_law_1563 : decode cL_law 1563 = .ok (.iconst 1, 1) := dq_4 (k := 1536) (r := 27) lwb_48 rfl
theorem dL_law_1564 : decode cL_law 1564 = .ok (.iadd, 1) := dq_96 (k := 1536) (r := 28) lwb_48 rfl
theorem dL_law_1565 : decode cL_law 1565 = .ok (.iaload, 1) := dq_46 (k := 1536) (r := 29) lwb_48 rfl
theorem dL_law_1566 : decode cL_law 1566 = .ok (.aload_n 3, 1) := dq_45 (k := 1536) (r := 30) lwb_48 rfl
theorem dL_law_1567 : decode cL_law 1567 = .ok (.invokestatic 270, 3) := dq_184 (k := 1536) (r := 31) lwb_48 rfl rfl
theorem dL_law_1570 : decode cL_law 1570 = .ok (.istore 5, 2) := dq_54 (k := 1568) (r := 2) lwb_49 rfl rfl
theorem dL_law_1572 : decode cL_law 1572 = .ok (.aload_n 2, 1) := dq_44 (k := 1568) (r := 4) lwb_49 rfl
theorem dL_law_1573 : decode cL_law 1573 = .ok (.aload_n 0, 1) := dq_42 (k := 1568) (r := 5) lwb_49 rfl
theorem dL_law_1574 : decode cL_law 1574 = .ok (.iload 4, 2) := dq_21 (k := 1568) (r := 6) lwb_49 rfl rfl
theorem dL_law_1576 : decode cL_law 1576 = .ok (.iconst 1, 1) := dq_4 (k := 1568) (r := 8) lwb_49 rfl
theorem dL_law_1577 : decode cL_law 1577 = .ok (.iadd, 1) := dq_96 (k := 1568) (r := 9) lwb_49 rfl
theorem dL_law_1578 : decode cL_law 1578 = .ok (.iaload, 1) := dq_46 (k := 1568) (r := 10) lwb_49 rfl
theorem dL_law_1579 : decode cL_law 1579 = .ok (.invokevirtual 272, 3) := dq_182 (k := 1568) (r := 11) lwb_49 rfl rfl
theorem dL_law_1582 : decode cL_law 1582 = .ok (.istore 6, 2) := dq_54 (k := 1568) (r := 14) lwb_49 rfl rfl
theorem dL_law_1584 : decode cL_law 1584 = .ok (.goto 461, 3) := dq_167 (k := 1568) (r := 16) lwb_49 rfl (by decide +kernel)
theorem dL_law_1587 : decode cL_law 1587 = .ok (.aload_n 1, 1) := dq_43 (k := 1568) (r := 19) lwb_49 rfl
theorem dL_law_1588 : decode cL_law 1588 = .ok (.aload_n 0, 1) := dq_42 (k := 1568) (r := 20) lwb_49 rfl
theorem dL_law_1589 : decode cL_law 1589 = .ok (.iload 4, 2) := dq_21 (k := 1568) (r := 21) lwb_49 rfl rfl
theorem dL_law_1591 : decode cL_law 1591 = .ok (.iconst 1, 1) := dq_4 (k := 1568) (r := 23) lwb_49 rfl
theorem dL_law_1592 : decode cL_law 1592 = .ok (.iadd, 1) := dq_96 (k := 1568) (r := 24) lwb_49 rfl
theorem dL_law_1593 : decode cL_law 1593 = .ok (.iaload, 1) := dq_46 (k := 1568) (r := 25) lwb_49 rfl
theorem dL_law_1594 : decode cL_law 1594 = .ok (.aload_n 3, 1) := dq_45 (k := 1568) (r := 26) lwb_49 rfl
theorem dL_law_1595 : decode cL_law 1595 = .ok (.invokestatic 273, 3) := dq_184 (k := 1568) (r := 27) lwb_49 rfl rfl
theorem dL_law_1598 : decode cL_law 1598 = .ok (.istore 5, 2) := dq_54 (k := 1568) (r := 30) lwb_49 rfl rfl
theorem dL_law_1600 : decode cL_law 1600 = .ok (.aload_n 2, 1) := dq_44 (k := 1600) (r := 0) lwb_50 rfl
theorem dL_law_1601 : decode cL_law 1601 = .ok (.aload_n 0, 1) := dq_42 (k := 1600) (r := 1) lwb_50 rfl
theorem dL_law_1602 : decode cL_law 1602 = .ok (.iload 4, 2) := dq_21 (k := 1600) (r := 2) lwb_50 rfl rfl
theorem dL_law_1604 : decode cL_law 1604 = .ok (.iconst 1, 1) := dq_4 (k := 1600) (r := 4) lwb_50 rfl
theorem dL_law_1605 : decode cL_law 1605 = .ok (.iadd, 1) := dq_96 (k := 1600) (r := 5) lwb_50 rfl
theorem dL_law_1606 : decode cL_law 1606 = .ok (.iaload, 1) := dq_46 (k := 1600) (r := 6) lwb_50 rfl
theorem dL_law_1607 : decode cL_law 1607 = .ok (.invokevirtual 275, 3) := dq_182 (k := 1600) (r := 7) lwb_50 rfl rfl
theorem dL_law_1610 : decode cL_law 1610 = .ok (.istore 6, 2) := dq_54 (k := 1600) (r := 10) lwb_50 rfl rfl
theorem dL_law_1612 : decode cL_law 1612 = .ok (.goto 433, 3) := dq_167 (k := 1600) (r := 12) lwb_50 rfl (by decide +kernel)
theorem dL_law_1615 : decode cL_law 1615 = .ok (.aload_n 1, 1) := dq_43 (k := 1600) (r := 15) lwb_50 rfl
theorem dL_law_1616 : decode cL_law 1616 = .ok (.aload_n 0, 1) := dq_42 (k := 1600) (r := 16) lwb_50 rfl
theorem dL_law_1617 : decode cL_law 1617 = .ok (.iload 4, 2) := dq_21 (k := 1600) (r := 17) lwb_50 rfl rfl
theorem dL_law_1619 : decode cL_law 1619 = .ok (.iconst 1, 1) := dq_4 (k := 1600) (r := 19) lwb_50 rfl
theorem dL_law_1620 : decode cL_law 1620 = .ok (.iadd, 1) := dq_96 (k := 1600) (r := 20) lwb_50 rfl
theorem dL_law_1621 : decode cL_law 1621 = .ok (.iaload, 1) := dq_46 (k := 1600) (r := 21) lwb_50 rfl
theorem dL_law_1622 : decode cL_law 1622 = .ok (.aload_n 3, 1) := dq_45 (k := 1600) (r := 22) lwb_50 rfl
theorem dL_law_1623 : decode cL_law 1623 = .ok (.invokestatic 276, 3) := dq_184 (k := 1600) (r := 23) lwb_50 rfl rfl
theorem dL_law_1626 : decode cL_law 1626 = .ok (.istore 5, 2) := dq_54 (k := 1600) (r := 26) lwb_50 rfl rfl
theorem dL_law_1628 : decode cL_law 1628 = .ok (.aload_n 2, 1) := dq_44 (k := 1600) (r := 28) lwb_50 rfl
theorem dL_law_1629 : decode cL_law 1629 = .ok (.aload_n 0, 1) := dq_42 (k := 1600) (r := 29) lwb_50 rfl
theorem dL_law_1630 : decode cL_law 1630 = .ok (.iload 4, 2) := dq_21 (k := 1600) (r := 30) lwb_50 rfl rfl
theorem dL_law_1632 : decode cL_law 1632 = .ok (.iconst 1, 1) := dq_4 (k := 1632) (r := 0) lwb_51 rfl
theorem dL_law_1633 : decode cL_law 1633 = .ok (.iadd, 1) := dq_96 (k := 1632) (r := 1) lwb_51 rfl
theorem dL_law_1634 : decode cL_law 1634 = .ok (.iaload, 1) := dq_46 (k := 1632) (r := 2) lwb_51 rfl
theorem dL_law_1635 : decode cL_law 1635 = .ok (.invokevirtual 278, 3) := dq_182 (k := 1632) (r := 3) lwb_51 rfl rfl
theorem dL_law_1638 : decode cL_law 1638 = .ok (.astore 6, 2) := dq_58 (k := 1632) (r := 6) lwb_51 rfl rfl
theorem dL_law_1640 : decode cL_law 1640 = .ok (.goto 405, 3) := dq_167 (k := 1632) (r := 8) lwb_51 rfl (by decide +kernel)
theorem dL_law_1643 : decode cL_law 1643 = .ok (.aload_n 1, 1) := dq_43 (k := 1632) (r := 11) lwb_51 rfl
theorem dL_law_1644 : decode cL_law 1644 = .ok (.aload_n 0, 1) := dq_42 (k := 1632) (r := 12) lwb_51 rfl
theorem dL_law_1645 : decode cL_law 1645 = .ok (.iload 4, 2) := dq_21 (k := 1632) (r := 13) lwb_51 rfl rfl
theorem dL_law_1647 : decode cL_law 1647 = .ok (.iconst 1, 1) := dq_4 (k := 1632) (r := 15) lwb_51 rfl
theorem dL_law_1648 : decode cL_law 1648 = .ok (.iadd, 1) := dq_96 (k := 1632) (r := 16) lwb_51 rfl
theorem dL_law_1649 : decode cL_law 1649 = .ok (.iaload, 1) := dq_46 (k := 1632) (r := 17) lwb_51 rfl
theorem dL_law_1650 : decode cL_law 1650 = .ok (.aload_n 0, 1) := dq_42 (k := 1632) (r := 18) lwb_51 rfl
theorem dL_law_1651 : decode cL_law 1651 = .ok (.iload 4, 2) := dq_21 (k := 1632) (r := 19) lwb_51 rfl rfl
theorem dL_law_1653 : decode cL_law 1653 = .ok (.iconst 2, 1) := dq_5 (k := 1632) (r := 21) lwb_51 rfl
theorem dL_law_1654 : decode cL_law 1654 = .ok (.iadd, 1) := dq_96 (k := 1632) (r := 22) lwb_51 rfl
theorem dL_law_1655 : decode cL_law 1655 = .ok (.iaload, 1) := dq_46 (k := 1632) (r := 23) lwb_51 rfl
theorem dL_law_1656 : decode cL_law 1656 = .ok (.aload_n 3, 1) := dq_45 (k := 1632) (r := 24) lwb_51 rfl
theorem dL_law_1657 : decode cL_law 1657 = .ok (.invokestatic 279, 3) := dq_184 (k := 1632) (r := 25) lwb_51 rfl rfl
theorem dL_law_1660 : decode cL_law 1660 = .ok (.istore 5, 2) := dq_54 (k := 1632) (r := 28) lwb_51 rfl rfl
theorem dL_law_1662 : decode cL_law 1662 = .ok (.aload_n 2, 1) := dq_44 (k := 1632) (r := 30) lwb_51 rfl
theorem dL_law_1663 : decode cL_law 1663 = .ok (.aload_n 0, 1) := dq_42 (k := 1632) (r := 31) lwb_51 rfl
theorem dL_law_1664 : decode cL_law 1664 = .ok (.iload 4, 2) := dq_21 (k := 1664) (r := 0) lwb_52 rfl rfl
theorem dL_law_1666 : decode cL_law 1666 = .ok (.iconst 1, 1) := dq_4 (k := 1664) (r := 2) lwb_52 rfl
theorem dL_law_1667 : decode cL_law 1667 = .ok (.iadd, 1) := dq_96 (k := 1664) (r := 3) lwb_52 rfl
theorem dL_law_1668 : decode cL_law 1668 = .ok (.iaload, 1) := dq_46 (k := 1664) (r := 4) lwb_52 rfl
theorem dL_law_1669 : decode cL_law 1669 = .ok (.aload_n 0, 1) := dq_42 (k := 1664) (r := 5) lwb_52 rfl
theorem dL_law_1670 : decode cL_law 1670 = .ok (.iload 4, 2) := dq_21 (k := 1664) (r := 6) lwb_52 rfl rfl
theorem dL_law_1672 : decode cL_law 1672 = .ok (.iconst 2, 1) := dq_5 (k := 1664) (r := 8) lwb_52 rfl
theorem dL_law_1673 : decode cL_law 1673 = .ok (.iadd, 1) := dq_96 (k := 1664) (r := 9) lwb_52 rfl
theorem dL_law_1674 : decode cL_law 1674 = .ok (.iaload, 1) := dq_46 (k := 1664) (r := 10) lwb_52 rfl
theorem dL_law_1675 : decode cL_law 1675 = .ok (.invokevirtual 281, 3) := dq_182 (k := 1664) (r := 11) lwb_52 rfl rfl
theorem dL_law_1678 : decode cL_law 1678 = .ok (.istore 6, 2) := dq_54 (k := 1664) (r := 14) lwb_52 rfl rfl
theorem dL_law_1680 : decode cL_law 1680 = .ok (.goto 365, 3) := dq_167 (k := 1664) (r := 16) lwb_52 rfl (by decide +kernel)
theorem dL_law_1683 : decode cL_law 1683 = .ok (.aload_n 1, 1) := dq_43 (k := 1664) (r := 19) lwb_52 rfl
theorem dL_law_1684 : decode cL_law 1684 = .ok (.aload_n 0, 1) := dq_42 (k := 1664) (r := 20) lwb_52 rfl
theorem dL_law_1685 : decode cL_law 1685 = .ok (.iload 4, 2) := dq_21 (k := 1664) (r := 21) lwb_52 rfl rfl
theorem dL_law_1687 : decode cL_law 1687 = .ok (.iconst 1, 1) := dq_4 (k := 1664) (r := 23) lwb_52 rfl
theorem dL_law_1688 : decode cL_law 1688 = .ok (.iadd, 1) := dq_96 (k := 1664) (r := 24) lwb_52 rfl
theorem dL_law_1689 : decode cL_law 1689 = .ok (.iaload, 1) := dq_46 (k := 1664) (r := 25) lwb_52 rfl
theorem dL_law_1690 : decode cL_law 1690 = .ok (.aload_n 0, 1) := dq_42 (k := 1664) (r := 26) lwb_52 rfl
theorem dL_law_1691 : decode cL_law 1691 = .ok (.iload 4, 2) := dq_21 (k := 1664) (r := 27) lwb_52 rfl rfl
theorem dL_law_1693 : decode cL_law 1693 = .ok (.iconst 2, 1) := dq_5 (k := 1664) (r := 29) lwb_52 rfl
theorem dL_law_1694 : decode cL_law 1694 = .ok (.iadd, 1) := dq_96 (k := 1664) (r := 30) lwb_52 rfl
theorem dL_law_1695 : decode cL_law 1695 = .ok (.iaload, 1) := dq_46 (k := 1664) (r := 31) lwb_52 rfl
theorem dL_law_1696 : decode cL_law 1696 = .ok (.aload_n 3, 1) := dq_45 (k := 1696) (r := 0) lwb_53 rfl
theorem dL_law_1697 : decode cL_law 1697 = .ok (.invokestatic 282, 3) := dq_184 (k := 1696) (r := 1) lwb_53 rfl rfl
theorem dL_law_1700 : decode cL_law 1700 = .ok (.istore 5, 2) := dq_54 (k := 1696) (r := 4) lwb_53 rfl rfl
theorem dL_law_1702 : decode cL_law 1702 = .ok (.aload_n 2, 1) := dq_44 (k := 1696) (r := 6) lwb_53 rfl
theorem dL_law_1703 : decode cL_law 1703 = .ok (.aload_n 0, 1) := dq_42 (k := 1696) (r := 7) lwb_53 rfl
theorem dL_law_1704 : decode cL_law 1704 = .ok (.iload 4, 2) := dq_21 (k := 1696) (r := 8) lwb_53 rfl rfl
theorem dL_law_1706 : decode cL_law 1706 = .ok (.iconst 1, 1) := dq_4 (k := 1696) (r := 10) lwb_53 rfl
theorem dL_law_1707 : decode cL_law 1707 = .ok (.iadd, 1) := dq_96 (k := 1696) (r := 11) lwb_53 rfl
theorem dL_law_1708 : decode cL_law 1708 = .ok (.iaload, 1) := dq_46 (k := 1696) (r := 12) lwb_53 rfl
theorem dL_law_1709 : decode cL_law 1709 = .ok (.aload_n 0, 1) := dq_42 (k := 1696) (r := 13) lwb_53 rfl
theorem dL_law_1710 : decode cL_law 1710 = .ok (.iload 4, 2) := dq_21 (k := 1696) (r := 14) lwb_53 rfl rfl
theorem dL_law_1712 : decode cL_law 1712 = .ok (.iconst 2, 1) := dq_5 (k := 1696) (r := 16) lwb_53 rfl
theorem dL_law_1713 : decode cL_law 1713 = .ok (.iadd, 1) := dq_96 (k := 1696) (r := 17) lwb_53 rfl
theorem dL_law_1714 : decode cL_law 1714 = .ok (.iaload, 1) := dq_46 (k := 1696) (r := 18) lwb_53 rfl
theorem dL_law_1715 : decode cL_law 1715 = .ok (.invokevirtual 284, 3) := dq_182 (k := 1696) (r := 19) lwb_53 rfl rfl
theorem dL_law_1718 : decode cL_law 1718 = .ok (.istore 6, 2) := dq_54 (k := 1696) (r := 22) lwb_53 rfl rfl
theorem dL_law_1720 : decode cL_law 1720 = .ok (.goto 325, 3) := dq_167 (k := 1696) (r := 24) lwb_53 rfl (by decide +kernel)
theorem dL_law_1723 : decode cL_law 1723 = .ok (.aload_n 1, 1) := dq_43 (k := 1696) (r := 27) lwb_53 rfl
theorem dL_law_1724 : decode cL_law 1724 = .ok (.aload_n 0, 1) := dq_42 (k := 1696) (r := 28) lwb_53 rfl
theorem dL_law_1725 : decode cL_law 1725 = .ok (.iload 4, 2) := dq_21 (k := 1696) (r := 29) lwb_53 rfl rfl
theorem dL_law_1727 : decode cL_law 1727 = .ok (.iconst 1, 1) := dq_4 (k := 1696) (r := 31) lwb_53 rfl
theorem dL_law_1728 : decode cL_law 1728 = .ok (.iadd, 1) := dq_96 (k := 1728) (r := 0) lwb_54 rfl
theorem dL_law_1729 : decode cL_law 1729 = .ok (.iaload, 1) := dq_46 (k := 1728) (r := 1) lwb_54 rfl
theorem dL_law_1730 : decode cL_law 1730 = .ok (.aload_n 0, 1) := dq_42 (k := 1728) (r := 2) lwb_54 rfl
theorem dL_law_1731 : decode cL_law 1731 = .ok (.iload 4, 2) := dq_21 (k := 1728) (r := 3) lwb_54 rfl rfl
theorem dL_law_1733 : decode cL_law 1733 = .ok (.iconst 2, 1) := dq_5 (k := 1728) (r := 5) lwb_54 rfl
theorem dL_law_1734 : decode cL_law 1734 = .ok (.iadd, 1) := dq_96 (k := 1728) (r := 6) lwb_54 rfl
theorem dL_law_1735 : decode cL_law 1735 = .ok (.iaload, 1) := dq_46 (k := 1728) (r := 7) lwb_54 rfl
theorem dL_law_1736 : decode cL_law 1736 = .ok (.aload_n 3, 1) := dq_45 (k := 1728) (r := 8) lwb_54 rfl
theorem dL_law_1737 : decode cL_law 1737 = .ok (.invokestatic 285, 3) := dq_184 (k := 1728) (r := 9) lwb_54 rfl rfl
theorem dL_law_1740 : decode cL_law 1740 = .ok (.istore 5, 2) := dq_54 (k := 1728) (r := 12) lwb_54 rfl rfl
theorem dL_law_1742 : decode cL_law 1742 = .ok (.aload_n 2, 1) := dq_44 (k := 1728) (r := 14) lwb_54 rfl
theorem dL_law_1743 : decode cL_law 1743 = .ok (.aload_n 0, 1) := dq_42 (k := 1728) (r := 15) lwb_54 rfl
theorem dL_law_1744 : decode cL_law 1744 = .ok (.iload 4, 2) := dq_21 (k := 1728) (r := 16) lwb_54 rfl rfl
theorem dL_law_1746 : decode cL_law 1746 = .ok (.iconst 1, 1) := dq_4 (k := 1728) (r := 18) lwb_54 rfl
theorem dL_law_1747 : decode cL_law 1747 = .ok (.iadd, 1) := dq_96 (k := 1728) (r := 19) lwb_54 rfl
theorem dL_law_1748 : decode cL_law 1748 = .ok (.iaload, 1) := dq_46 (k := 1728) (r := 20) lwb_54 rfl
theorem dL_law_1749 : decode cL_law 1749 = .ok (.aload_n 0, 1) := dq_42 (k := 1728) (r := 21) lwb_54 rfl
theorem dL_law_1750 : decode cL_law 1750 = .ok (.iload 4, 2) := dq_21 (k := 1728) (r := 22) lwb_54 rfl rfl
theorem dL_law_1752 : decode cL_law 1752 = .ok (.iconst 2, 1) := dq_5 (k := 1728) (r := 24) lwb_54 rfl
theorem dL_law_1753 : decode cL_law 1753 = .ok (.iadd, 1) := dq_96 (k := 1728) (r := 25) lwb_54 rfl
theorem dL_law_1754 : decode cL_law 1754 = .ok (.iaload, 1) := dq_46 (k := 1728) (r := 26) lwb_54 rfl
theorem dL_law_1755 : decode cL_law 1755 = .ok (.invokevirtual 287, 3) := dq_182 (k := 1728) (r := 27) lwb_54 rfl rfl
theorem dL_law_1758 : decode cL_law 1758 = .ok (.istore 6, 2) := dq_54 (k := 1728) (r := 30) lwb_54 rfl rfl
theorem dL_law_1760 : decode cL_law 1760 = .ok (.goto 285, 3) := dq_167 (k := 1760) (r := 0) lwb_55 rfl (by decide +kernel)
theorem dL_law_1763 : decode cL_law 1763 = .ok (.aload_n 1, 1) := dq_43 (k := 1760) (r := 3) lwb_55 rfl
theorem dL_law_1764 : decode cL_law 1764 = .ok (.aload_n 0, 1) := dq_42 (k := 1760) (r := 4) lwb_55 rfl
theorem dL_law_1765 : decode cL_law 1765 = .ok (.iload 4, 2) := dq_21 (k := 1760) (r := 5) lwb_55 rfl rfl
theorem dL_law_1767 : decode cL_law 1767 = .ok (.iconst 1, 1) := dq_4 (k := 1760) (r := 7) lwb_55 rfl
theorem dL_law_1768 : decode cL_law 1768 = .ok (.iadd, 1) := dq_96 (k := 1760) (r := 8) lwb_55 rfl
theorem dL_law_1769 : decode cL_law 1769 = .ok (.iaload, 1) := dq_46 (k := 1760) (r := 9) lwb_55 rfl
theorem dL_law_1770 : decode cL_law 1770 = .ok (.aload_n 0, 1) := dq_42 (k := 1760) (r := 10) lwb_55 rfl
theorem dL_law_1771 : decode cL_law 1771 = .ok (.iload 4, 2) := dq_21 (k := 1760) (r := 11) lwb_55 rfl rfl
theorem dL_law_1773 : decode cL_law 1773 = .ok (.iconst 2, 1) := dq_5 (k := 1760) (r := 13) lwb_55 rfl
theorem dL_law_1774 : decode cL_law 1774 = .ok (.iadd, 1) := dq_96 (k := 1760) (r := 14) lwb_55 rfl
theorem dL_law_1775 : decode cL_law 1775 = .ok (.iaload, 1) := dq_46 (k := 1760) (r := 15) lwb_55 rfl
theorem dL_law_1776 : decode cL_law 1776 = .ok (.aload_n 3, 1) := dq_45 (k := 1760) (r := 16) lwb_55 rfl
theorem dL_law_1777 : decode cL_law 1777 = .ok (.invokestatic 288, 3) := dq_184 (k := 1760) (r := 17) lwb_55 rfl rfl
theorem dL_law_1780 : decode cL_law 1780 = .ok (.istore 5, 2) := dq_54 (k := 1760) (r := 20) lwb_55 rfl rfl
theorem dL_law_1782 : decode cL_law 1782 = .ok (.aload_n 2, 1) := dq_44 (k := 1760) (r := 22) lwb_55 rfl
theorem dL_law_1783 : decode cL_law 1783 = .ok (.aload_n 0, 1) := dq_42 (k := 1760) (r := 23) lwb_55 rfl
theorem dL_law_1784 : decode cL_law 1784 = .ok (.iload 4, 2) := dq_21 (k := 1760) (r := 24) lwb_55 rfl rfl
theorem dL_law_1786 : decode cL_law 1786 = .ok (.iconst 1, 1) := dq_4 (k := 1760) (r := 26) lwb_55 rfl
theorem dL_law_1787 : decode cL_law 1787 = .ok (.iadd, 1) := dq_96 (k := 1760) (r := 27) lwb_55 rfl
theorem dL_law_1788 : decode cL_law 1788 = .ok (.iaload, 1) := dq_46 (k := 1760) (r := 28) lwb_55 rfl
theorem dL_law_1789 : decode cL_law 1789 = .ok (.aload_n 0, 1) := dq_42 (k := 1760) (r := 29) lwb_55 rfl
theorem dL_law_1790 : decode cL_law 1790 = .ok (.iload 4, 2) := dq_21 (k := 1760) (r := 30) lwb_55 rfl rfl
theorem dL_law_1792 : decode cL_law 1792 = .ok (.iconst 2, 1) := dq_5 (k := 1792) (r := 0) lwb_56 rfl
theorem dL_law_1793 : decode cL_law 1793 = .ok (.iadd, 1) := dq_96 (k := 1792) (r := 1) lwb_56 rfl
theorem dL_law_1794 : decode cL_law 1794 = .ok (.iaload, 1) := dq_46 (k := 1792) (r := 2) lwb_56 rfl
theorem dL_law_1795 : decode cL_law 1795 = .ok (.invokevirtual 290, 3) := dq_182 (k := 1792) (r := 3) lwb_56 rfl rfl
theorem dL_law_1798 : decode cL_law 1798 = .ok (.istore 6, 2) := dq_54 (k := 1792) (r := 6) lwb_56 rfl rfl
theorem dL_law_1800 : decode cL_law 1800 = .ok (.goto 245, 3) := dq_167 (k := 1792) (r := 8) lwb_56 rfl (by decide +kernel)
theorem dL_law_1803 : decode cL_law 1803 = .ok (.aload_n 1, 1) := dq_43 (k := 1792) (r := 11) lwb_56 rfl
theorem dL_law_1804 : decode cL_law 1804 = .ok (.aload_n 0, 1) := dq_42 (k := 1792) (r := 12) lwb_56 rfl
theorem dL_law_1805 : decode cL_law 1805 = .ok (.iload 4, 2) := dq_21 (k := 1792) (r := 13) lwb_56 rfl rfl
theorem dL_law_1807 : decode cL_law 1807 = .ok (.iconst 1, 1) := dq_4 (k := 1792) (r := 15) lwb_56 rfl
theorem dL_law_1808 : decode cL_law 1808 = .ok (.iadd, 1) := dq_96 (k := 1792) (r := 16) lwb_56 rfl
theorem dL_law_1809 : decode cL_law 1809 = .ok (.iaload, 1) := dq_46 (k := 1792) (r := 17) lwb_56 rfl
theorem dL_law_1810 : decode cL_law 1810 = .ok (.aload_n 0, 1) := dq_42 (k := 1792) (r := 18) lwb_56 rfl
theorem dL_law_1811 : decode cL_law 1811 = .ok (.iload 4, 2) := dq_21 (k := 1792) (r := 19) lwb_56 rfl rfl
theorem dL_law_1813 : decode cL_law 1813 = .ok (.iconst 2, 1) := dq_5 (k := 1792) (r := 21) lwb_56 rfl
theorem dL_law_1814 : decode cL_law 1814 = .ok (.iadd, 1) := dq_96 (k := 1792) (r := 22) lwb_56 rfl
theorem dL_law_1815 : decode cL_law 1815 = .ok (.iaload, 1) := dq_46 (k := 1792) (r := 23) lwb_56 rfl
theorem dL_law_1816 : decode cL_law 1816 = .ok (.aload_n 3, 1) := dq_45 (k := 1792) (r := 24) lwb_56 rfl
theorem dL_law_1817 : decode cL_law 1817 = .ok (.invokestatic 291, 3) := dq_184 (k := 1792) (r := 25) lwb_56 rfl rfl
theorem dL_law_1820 : decode cL_law 1820 = .ok (.istore 5, 2) := dq_54 (k := 1792) (r := 28) lwb_56 rfl rfl
theorem dL_law_1822 : decode cL_law 1822 = .ok (.aload_n 2, 1) := dq_44 (k := 1792) (r := 30) lwb_56 rfl
theorem dL_law_1823 : decode cL_law 1823 = .ok (.aload_n 0, 1) := dq_42 (k := 1792) (r := 31) lwb_56 rfl
theorem dL_law_1824 : decode cL_law 1824 = .ok (.iload 4, 2) := dq_21 (k := 1824) (r := 0) lwb_57 rfl rfl
theorem dL_law_1826 : decode cL_law 1826 = .ok (.iconst 1, 1) := dq_4 (k := 1824) (r := 2) lwb_57 rfl
theorem dL_law_1827 : decode cL_law 1827 = .ok (.iadd, 1) := dq_96 (k := 1824) (r := 3) lwb_57 rfl
theorem dL_law_1828 : decode cL_law 1828 = .ok (.iaload, 1) := dq_46 (k := 1824) (r := 4) lwb_57 rfl
theorem dL_law_1829 : decode cL_law 1829 = .ok (.aload_n 0, 1) := dq_42 (k := 1824) (r := 5) lwb_57 rfl
theorem dL_law_1830 : decode cL_law 1830 = .ok (.iload 4, 2) := dq_21 (k := 1824) (r := 6) lwb_57 rfl rfl
theorem dL_law_1832 : decode cL_law 1832 = .ok (.iconst 2, 1) := dq_5 (k := 1824) (r := 8) lwb_57 rfl
theorem dL_law_1833 : decode cL_law 1833 = .ok (.iadd, 1) := dq_96 (k := 1824) (r := 9) lwb_57 rfl
theorem dL_law_1834 : decode cL_law 1834 = .ok (.iaload, 1) := dq_46 (k := 1824) (r := 10) lwb_57 rfl
theorem dL_law_1835 : decode cL_law 1835 = .ok (.invokevirtual 293, 3) := dq_182 (k := 1824) (r := 11) lwb_57 rfl rfl
theorem dL_law_1838 : decode cL_law 1838 = .ok (.istore 6, 2) := dq_54 (k := 1824) (r := 14) lwb_57 rfl rfl
theorem dL_law_1840 : decode cL_law 1840 = .ok (.goto 205, 3) := dq_167 (k := 1824) (r := 16) lwb_57 rfl (by decide +kernel)
theorem dL_law_1843 : decode cL_law 1843 = .ok (.aload_n 1, 1) := dq_43 (k := 1824) (r := 19) lwb_57 rfl
theorem dL_law_1844 : decode cL_law 1844 = .ok (.aload_n 0, 1) := dq_42 (k := 1824) (r := 20) lwb_57 rfl
theorem dL_law_1845 : decode cL_law 1845 = .ok (.iload 4, 2) := dq_21 (k := 1824) (r := 21) lwb_57 rfl rfl
theorem dL_law_1847 : decode cL_law 1847 = .ok (.iconst 1, 1) := dq_4 (k := 1824) (r := 23) lwb_57 rfl
theorem dL_law_1848 : decode cL_law 1848 = .ok (.iadd, 1) := dq_96 (k := 1824) (r := 24) lwb_57 rfl
theorem dL_law_1849 : decode cL_law 1849 = .ok (.iaload, 1) := dq_46 (k := 1824) (r := 25) lwb_57 rfl
theorem dL_law_1850 : decode cL_law 1850 = .ok (.aload_n 0, 1) := dq_42 (k := 1824) (r := 26) lwb_57 rfl
theorem dL_law_1851 : decode cL_law 1851 = .ok (.iload 4, 2) := dq_21 (k := 1824) (r := 27) lwb_57 rfl rfl
theorem dL_law_1853 : decode cL_law 1853 = .ok (.iconst 2, 1) := dq_5 (k := 1824) (r := 29) lwb_57 rfl
theorem dL_law_1854 : decode cL_law 1854 = .ok (.iadd, 1) := dq_96 (k := 1824) (r := 30) lwb_57 rfl
theorem dL_law_1855 : decode cL_law 1855 = .ok (.iaload, 1) := dq_46 (k := 1824) (r := 31) lwb_57 rfl
theorem dL_law_1856 : decode cL_law 1856 = .ok (.aload_n 3, 1) := dq_45 (k := 1856) (r := 0) lwb_58 rfl
theorem dL_law_1857 : decode cL_law 1857 = .ok (.invokestatic 294, 3) := dq_184 (k := 1856) (r := 1) lwb_58 rfl rfl
theorem dL_law_1860 : decode cL_law 1860 = .ok (.istore 5, 2) := dq_54 (k := 1856) (r := 4) lwb_58 rfl rfl
theorem dL_law_1862 : decode cL_law 1862 = .ok (.aload_n 2, 1) := dq_44 (k := 1856) (r := 6) lwb_58 rfl
theorem dL_law_1863 : decode cL_law 1863 = .ok (.aload_n 0, 1) := dq_42 (k := 1856) (r := 7) lwb_58 rfl
theorem dL_law_1864 : decode cL_law 1864 = .ok (.iload 4, 2) := dq_21 (k := 1856) (r := 8) lwb_58 rfl rfl
theorem dL_law_1866 : decode cL_law 1866 = .ok (.iconst 1, 1) := dq_4 (k := 1856) (r := 10) lwb_58 rfl
theorem dL_law_1867 : decode cL_law 1867 = .ok (.iadd, 1) := dq_96 (k := 1856) (r := 11) lwb_58 rfl
theorem dL_law_1868 : decode cL_law 1868 = .ok (.iaload, 1) := dq_46 (k := 1856) (r := 12) lwb_58 rfl
theorem dL_law_1869 : decode cL_law 1869 = .ok (.aload_n 0, 1) := dq_42 (k := 1856) (r := 13) lwb_58 rfl
theorem dL_law_1870 : decode cL_law 1870 = .ok (.iload 4, 2) := dq_21 (k := 1856) (r := 14) lwb_58 rfl rfl
theorem dL_law_1872 : decode cL_law 1872 = .ok (.iconst 2, 1) := dq_5 (k := 1856) (r := 16) lwb_58 rfl
theorem dL_law_1873 : decode cL_law 1873 = .ok (.iadd, 1) := dq_96 (k := 1856) (r := 17) lwb_58 rfl
theorem dL_law_1874 : decode cL_law 1874 = .ok (.iaload, 1) := dq_46 (k := 1856) (r := 18) lwb_58 rfl
theorem dL_law_1875 : decode cL_law 1875 = .ok (.invokevirtual 296, 3) := dq_182 (k := 1856) (r := 19) lwb_58 rfl rfl
theorem dL_law_1878 : decode cL_law 1878 = .ok (.istore 6, 2) := dq_54 (k := 1856) (r := 22) lwb_58 rfl rfl
theorem dL_law_1880 : decode cL_law 1880 = .ok (.goto 165, 3) := dq_167 (k := 1856) (r := 24) lwb_58 rfl (by decide +kernel)
theorem dL_law_1883 : decode cL_law 1883 = .ok (.aload_n 1, 1) := dq_43 (k := 1856) (r := 27) lwb_58 rfl
theorem dL_law_1884 : decode cL_law 1884 = .ok (.aload_n 0, 1) := dq_42 (k := 1856) (r := 28) lwb_58 rfl
theorem dL_law_1885 : decode cL_law 1885 = .ok (.iload 4, 2) := dq_21 (k := 1856) (r := 29) lwb_58 rfl rfl
theorem dL_law_1887 : decode cL_law 1887 = .ok (.iconst 1, 1) := dq_4 (k := 1856) (r := 31) lwb_58 rfl
theorem dL_law_1888 : decode cL_law 1888 = .ok (.iadd, 1) := dq_96 (k := 1888) (r := 0) lwb_59 rfl
theorem dL_law_1889 : decode cL_law 1889 = .ok (.iaload, 1) := dq_46 (k := 1888) (r := 1) lwb_59 rfl
theorem dL_law_1890 : decode cL_law 1890 = .ok (.aload_n 0, 1) := dq_42 (k := 1888) (r := 2) lwb_59 rfl
theorem dL_law_1891 : decode cL_law 1891 = .ok (.iload 4, 2) := dq_21 (k := 1888) (r := 3) lwb_59 rfl rfl
theorem dL_law_1893 : decode cL_law 1893 = .ok (.iconst 2, 1) := dq_5 (k := 1888) (r := 5) lwb_59 rfl
theorem dL_law_1894 : decode cL_law 1894 = .ok (.iadd, 1) := dq_96 (k := 1888) (r := 6) lwb_59 rfl
theorem dL_law_1895 : decode cL_law 1895 = .ok (.iaload, 1) := dq_46 (k := 1888) (r := 7) lwb_59 rfl
theorem dL_law_1896 : decode cL_law 1896 = .ok (.aload_n 3, 1) := dq_45 (k := 1888) (r := 8) lwb_59 rfl
theorem dL_law_1897 : decode cL_law 1897 = .ok (.invokestatic 297, 3) := dq_184 (k := 1888) (r := 9) lwb_59 rfl rfl
theorem dL_law_1900 : decode cL_law 1900 = .ok (.istore 5, 2) := dq_54 (k := 1888) (r := 12) lwb_59 rfl rfl
theorem dL_law_1902 : decode cL_law 1902 = .ok (.aload_n 2, 1) := dq_44 (k := 1888) (r := 14) lwb_59 rfl
theorem dL_law_1903 : decode cL_law 1903 = .ok (.aload_n 0, 1) := dq_42 (k := 1888) (r := 15) lwb_59 rfl
theorem dL_law_1904 : decode cL_law 1904 = .ok (.iload 4, 2) := dq_21 (k := 1888) (r := 16) lwb_59 rfl rfl
theorem dL_law_1906 : decode cL_law 1906 = .ok (.iconst 1, 1) := dq_4 (k := 1888) (r := 18) lwb_59 rfl
theorem dL_law_1907 : decode cL_law 1907 = .ok (.iadd, 1) := dq_96 (k := 1888) (r := 19) lwb_59 rfl
theorem dL_law_1908 : decode cL_law 1908 = .ok (.iaload, 1) := dq_46 (k := 1888) (r := 20) lwb_59 rfl
theorem dL_law_1909 : decode cL_law 1909 = .ok (.aload_n 0, 1) := dq_42 (k := 1888) (r := 21) lwb_59 rfl
theorem dL_law_1910 : decode cL_law 1910 = .ok (.iload 4, 2) := dq_21 (k := 1888) (r := 22) lwb_59 rfl rfl
theorem dL_law_1912 : decode cL_law 1912 = .ok (.iconst 2, 1) := dq_5 (k := 1888) (r := 24) lwb_59 rfl
theorem dL_law_1913 : decode cL_law 1913 = .ok (.iadd, 1) := dq_96 (k := 1888) (r := 25) lwb_59 rfl
theorem dL_law_1914 : decode cL_law 1914 = .ok (.iaload, 1) := dq_46 (k := 1888) (r := 26) lwb_59 rfl
theorem dL_law_1915 : decode cL_law 1915 = .ok (.invokevirtual 299, 3) := dq_182 (k := 1888) (r := 27) lwb_59 rfl rfl
theorem dL_law_1918 : decode cL_law 1918 = .ok (.istore 6, 2) := dq_54 (k := 1888) (r := 30) lwb_59 rfl rfl
theorem dL_law_1920 : decode cL_law 1920 = .ok (.goto 125, 3) := dq_167 (k := 1920) (r := 0) lwb_60 rfl (by decide +kernel)
theorem dL_law_1923 : decode cL_law 1923 = .ok (.aload_n 1, 1) := dq_43 (k := 1920) (r := 3) lwb_60 rfl
theorem dL_law_1924 : decode cL_law 1924 = .ok (.aload_n 0, 1) := dq_42 (k := 1920) (r := 4) lwb_60 rfl
theorem dL_law_1925 : decode cL_law 1925 = .ok (.iload 4, 2) := dq_21 (k := 1920) (r := 5) lwb_60 rfl rfl
theorem dL_law_1927 : decode cL_law 1927 = .ok (.iconst 1, 1) := dq_4 (k := 1920) (r := 7) lwb_60 rfl
theorem dL_law_1928 : decode cL_law 1928 = .ok (.iadd, 1) := dq_96 (k := 1920) (r := 8) lwb_60 rfl
theorem dL_law_1929 : decode cL_law 1929 = .ok (.iaload, 1) := dq_46 (k := 1920) (r := 9) lwb_60 rfl
theorem dL_law_1930 : decode cL_law 1930 = .ok (.aload_n 3, 1) := dq_45 (k := 1920) (r := 10) lwb_60 rfl
theorem dL_law_1931 : decode cL_law 1931 = .ok (.invokestatic 300, 3) := dq_184 (k := 1920) (r := 11) lwb_60 rfl rfl
theorem dL_law_1934 : decode cL_law 1934 = .ok (.istore 5, 2) := dq_54 (k := 1920) (r := 14) lwb_60 rfl rfl
theorem dL_law_1936 : decode cL_law 1936 = .ok (.aload_n 2, 1) := dq_44 (k := 1920) (r := 16) lwb_60 rfl
theorem dL_law_1937 : decode cL_law 1937 = .ok (.aload_n 0, 1) := dq_42 (k := 1920) (r := 17) lwb_60 rfl
theorem dL_law_1938 : decode cL_law 1938 = .ok (.iload 4, 2) := dq_21 (k := 1920) (r := 18) lwb_60 rfl rfl
theorem dL_law_1940 : decode cL_law 1940 = .ok (.iconst 1, 1) := dq_4 (k := 1920) (r := 20) lwb_60 rfl
theorem dL_law_1941 : decode cL_law 1941 = .ok (.iadd, 1) := dq_96 (k := 1920) (r := 21) lwb_60 rfl
theorem dL_law_1942 : decode cL_law 1942 = .ok (.iaload, 1) := dq_46 (k := 1920) (r := 22) lwb_60 rfl
theorem dL_law_1943 : decode cL_law 1943 = .ok (.invokevirtual 302, 3) := dq_182 (k := 1920) (r := 23) lwb_60 rfl rfl
theorem dL_law_1946 : decode cL_law 1946 = .ok (.astore 6, 2) := dq_58 (k := 1920) (r := 26) lwb_60 rfl rfl
theorem dL_law_1948 : decode cL_law 1948 = .ok (.goto 97, 3) := dq_167 (k := 1920) (r := 28) lwb_60 rfl (by decide +kernel)
theorem dL_law_1951 : decode cL_law 1951 = .ok (.aload_n 1, 1) := dq_43 (k := 1920) (r := 31) lwb_60 rfl
theorem dL_law_1952 : decode cL_law 1952 = .ok (.invokevirtual 303, 3) := dq_182 (k := 1952) (r := 0) lwb_61 rfl rfl
theorem dL_law_1955 : decode cL_law 1955 = .ok (.pop, 1) := dq_87 (k := 1952) (r := 3) lwb_61 rfl
theorem dL_law_1956 : decode cL_law 1956 = .ok (.aload_n 2, 1) := dq_44 (k := 1952) (r := 4) lwb_61 rfl
theorem dL_law_1957 : decode cL_law 1957 = .ok (.invokevirtual 307, 3) := dq_182 (k := 1952) (r := 5) lwb_61 rfl rfl
theorem dL_law_1960 : decode cL_law 1960 = .ok (.pop, 1) := dq_87 (k := 1952) (r := 8) lwb_61 rfl
theorem dL_law_1961 : decode cL_law 1961 = .ok (.goto 84, 3) := dq_167 (k := 1952) (r := 9) lwb_61 rfl (by decide +kernel)
theorem dL_law_1964 : decode cL_law 1964 = .ok (.aload_n 1, 1) := dq_43 (k := 1952) (r := 12) lwb_61 rfl
theorem dL_law_1965 : decode cL_law 1965 = .ok (.invokevirtual 308, 3) := dq_182 (k := 1952) (r := 13) lwb_61 rfl rfl
theorem dL_law_1968 : decode cL_law 1968 = .ok (.pop, 1) := dq_87 (k := 1952) (r := 16) lwb_61 rfl
theorem dL_law_1969 : decode cL_law 1969 = .ok (.aload_n 2, 1) := dq_44 (k := 1952) (r := 17) lwb_61 rfl
theorem dL_law_1970 : decode cL_law 1970 = .ok (.invokevirtual 311, 3) := dq_182 (k := 1952) (r := 18) lwb_61 rfl rfl
theorem dL_law_1973 : decode cL_law 1973 = .ok (.pop, 1) := dq_87 (k := 1952) (r := 21) lwb_61 rfl
theorem dL_law_1974 : decode cL_law 1974 = .ok (.goto 71, 3) := dq_167 (k := 1952) (r := 22) lwb_61 rfl (by decide +kernel)
theorem dL_law_1977 : decode cL_law 1977 = .ok (.aload_n 1, 1) := dq_43 (k := 1952) (r := 25) lwb_61 rfl
theorem dL_law_1978 : decode cL_law 1978 = .ok (.aload_n 0, 1) := dq_42 (k := 1952) (r := 26) lwb_61 rfl
theorem dL_law_1979 : decode cL_law 1979 = .ok (.iload 4, 2) := dq_21 (k := 1952) (r := 27) lwb_61 rfl rfl
theorem dL_law_1981 : decode cL_law 1981 = .ok (.iconst 1, 1) := dq_4 (k := 1952) (r := 29) lwb_61 rfl
theorem dL_law_1982 : decode cL_law 1982 = .ok (.iadd, 1) := dq_96 (k := 1952) (r := 30) lwb_61 rfl
theorem dL_law_1983 : decode cL_law 1983 = .ok (.iaload, 1) := dq_46 (k := 1952) (r := 31) lwb_61 rfl
theorem dL_law_1984 : decode cL_law 1984 = .ok (.aload_n 3, 1) := dq_45 (k := 1984) (r := 0) lwb_62 rfl
theorem dL_law_1985 : decode cL_law 1985 = .ok (.invokestatic 312, 3) := dq_184 (k := 1984) (r := 1) lwb_62 rfl rfl
theorem dL_law_1988 : decode cL_law 1988 = .ok (.istore 5, 2) := dq_54 (k := 1984) (r := 4) lwb_62 rfl rfl
theorem dL_law_1990 : decode cL_law 1990 = .ok (.aload_n 2, 1) := dq_44 (k := 1984) (r := 6) lwb_62 rfl
theorem dL_law_1991 : decode cL_law 1991 = .ok (.aload_n 0, 1) := dq_42 (k := 1984) (r := 7) lwb_62 rfl
theorem dL_law_1992 : decode cL_law 1992 = .ok (.iload 4, 2) := dq_21 (k := 1984) (r := 8) lwb_62 rfl rfl
theorem dL_law_1994 : decode cL_law 1994 = .ok (.iconst 1, 1) := dq_4 (k := 1984) (r := 10) lwb_62 rfl
theorem dL_law_1995 : decode cL_law 1995 = .ok (.iadd, 1) := dq_96 (k := 1984) (r := 11) lwb_62 rfl
theorem dL_law_1996 : decode cL_law 1996 = .ok (.iaload, 1) := dq_46 (k := 1984) (r := 12) lwb_62 rfl
theorem dL_law_1997 : decode cL_law 1997 = .ok (.invokevirtual 314, 3) := dq_182 (k := 1984) (r := 13) lwb_62 rfl rfl
theorem dL_law_2000 : decode cL_law 2000 = .ok (.istore 6, 2) := dq_54 (k := 1984) (r := 16) lwb_62 rfl rfl
theorem dL_law_2002 : decode cL_law 2002 = .ok (.goto 43, 3) := dq_167 (k := 1984) (r := 18) lwb_62 rfl (by decide +kernel)
theorem dL_law_2005 : decode cL_law 2005 = .ok (.aload_n 1, 1) := dq_43 (k := 1984) (r := 21) lwb_62 rfl
theorem dL_law_2006 : decode cL_law 2006 = .ok (.invokevirtual 315, 3) := dq_182 (k := 1984) (r := 22) lwb_62 rfl rfl
theorem dL_law_2009 : decode cL_law 2009 = .ok (.pop, 1) := dq_87 (k := 1984) (r := 25) lwb_62 rfl
theorem dL_law_2010 : decode cL_law 2010 = .ok (.aload_n 2, 1) := dq_44 (k := 1984) (r := 26) lwb_62 rfl
theorem dL_law_2011 : decode cL_law 2011 = .ok (.invokevirtual 318, 3) := dq_182 (k := 1984) (r := 27) lwb_62 rfl rfl
theorem dL_law_2014 : decode cL_law 2014 = .ok (.pop, 1) := dq_87 (k := 1984) (r := 30) lwb_62 rfl
theorem dL_law_2015 : decode cL_law 2015 = .ok (.goto 30, 3) := dq_167 (k := 1984) (r := 31) lwb_62 rfl (by decide +kernel)
theorem dL_law_2018 : decode cL_law 2018 = .ok (.aload_n 1, 1) := dq_43 (k := 2016) (r := 2) lwb_63 rfl
theorem dL_law_2019 : decode cL_law 2019 = .ok (.invokevirtual 319, 3) := dq_182 (k := 2016) (r := 3) lwb_63 rfl rfl
theorem dL_law_2022 : decode cL_law 2022 = .ok (.pop, 1) := dq_87 (k := 2016) (r := 6) lwb_63 rfl
theorem dL_law_2023 : decode cL_law 2023 = .ok (.aload_n 2, 1) := dq_44 (k := 2016) (r := 7) lwb_63 rfl
theorem dL_law_2024 : decode cL_law 2024 = .ok (.invokevirtual 323, 3) := dq_182 (k := 2016) (r := 8) lwb_63 rfl rfl
theorem dL_law_2027 : decode cL_law 2027 = .ok (.pop, 1) := dq_87 (k := 2016) (r := 11) lwb_63 rfl
theorem dL_law_2028 : decode cL_law 2028 = .ok (.goto 17, 3) := dq_167 (k := 2016) (r := 12) lwb_63 rfl (by decide +kernel)
theorem dL_law_2031 : decode cL_law 2031 = .ok (.aload_n 1, 1) := dq_43 (k := 2016) (r := 15) lwb_63 rfl
theorem dL_law_2032 : decode cL_law 2032 = .ok (.invokevirtual 324, 3) := dq_182 (k := 2016) (r := 16) lwb_63 rfl rfl
theorem dL_law_2035 : decode cL_law 2035 = .ok (.aload_n 2, 1) := dq_44 (k := 2016) (r := 19) lwb_63 rfl
theorem dL_law_2036 : decode cL_law 2036 = .ok (.invokevirtual 328, 3) := dq_182 (k := 2016) (r := 20) lwb_63 rfl rfl
theorem dL_law_2039 : decode cL_law 2039 = .ok (.lcmp, 1) := dq_148 (k := 2016) (r := 23) lwb_63 rfl
theorem dL_law_2040 : decode cL_law 2040 = .ok (.ifCond .eq 5, 3) := dq_153 (k := 2016) (r := 24) lwb_63 rfl (by decide +kernel)
theorem dL_law_2043 : decode cL_law 2043 = .ok (.iconst 0, 1) := dq_3 (k := 2016) (r := 27) lwb_63 rfl
theorem dL_law_2044 : decode cL_law 2044 = .ok (.ireturn, 1) := dq_172 (k := 2016) (r := 28) lwb_63 rfl
theorem dL_law_2045 : decode cL_law 2045 = .ok (.iinc 4 5, 3) := by decide +kernel
theorem dL_law_2048 : decode cL_law 2048 = .ok (.goto (-2021), 3) := dq_167 (k := 2048) (r := 0) lwb_64 rfl (by decide +kernel)
theorem dL_law_2051 : decode cL_law 2051 = .ok (.iconst 1, 1) := dq_4 (k := 2048) (r := 3) lwb_64 rfl
theorem dL_law_2052 : decode cL_law 2052 = .ok (.ireturn, 1) := dq_172 (k := 2048) (r := 4) lwb_64 rfl
