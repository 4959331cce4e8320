/-! the words of the law that the tables lack: private methods of a class above, asked of an object of the class below -/
theorem sel_sub {C : String} {y z : MethodName} {s : State} {args : Array Value} (hy : y.cls ≠ "java/lang/invoke/MethodHandle" ∧ y.cls ≠ "java/lang/invoke/VarHandle") (hcl : z.cls = y.cls) (hsz : (Cond.selects C z z).before args s = true) (hzi : (Cond.instanceMethod z).before args s = true) (hpriv : (Cond.privateMethod y).before args s = true) (hinst : (Cond.instanceMethod y).before args s = true) : (Cond.selects C y y).before args s = true := by
  obtain ⟨mk, methM, hnamed, hmethM, -, -⟩ := Cond.instanceMethod_spec hinst
  obtain ⟨mz, methZ, hnz, hmz, -, -⟩ := Cond.instanceMethod_spec hzi
  have hfound : s.methodFound? y.cls y.name y.desc = some mk := State.methodFound?_of_named hnamed hy
  have hfz : s.methodFound? z.cls z.name z.desc = some mz := State.methodFound?_of_named hnz (by rw [hcl]; exact hy)
  have hcls : s.vm.findClass y.cls = some mk.cls := findClass_of_methodNamed hnamed
  have hclz : s.vm.findClass z.cls = some mz.cls := findClass_of_methodNamed hnz
  rw [hcl, hcls] at hclz
  have e : mk.cls = mz.cls := Option.some.inj hclz
  have hsel : ∀ c, selectMethod {} s.vm c mk = .method mk := fun c => selectMethod_private hmethM (Cond.privateMethod_at hpriv mk methM hnamed hmethM)
  simp only [Cond.before, Cond.holds, Cond.value, hfz, hnz] at hsz
  cases hC : s.vm.findClass C with
  | none => rw [hC] at hsz; simp at hsz
  | some c =>
    rw [hC] at hsz
    dsimp only at hsz
    have hk : (s.vm.classes[mz.cls]?).any (fun k => !k.isInterface) = true := by
      revert hsz
      generalize (s.vm.classes[mz.cls]?).any (fun k => !k.isInterface) = q
      generalize selectMethod {} s.vm c mz = r
      cases r with
      | method m' => cases q <;> simp
      | none => intro h; simp at h
      | refused => intro h; simp at h
      | several => intro h; simp at h
    simp only [Cond.before, Cond.holds, Cond.value, hC, hfound, hnamed, hsel]
    rw [e, hk]
    simp
noncomputable def asb : List MethodName := [⟨"java/lang/AbstractStringBuilder", "appendNull", "()Ljava/lang/AbstractStringBuilder;"⟩, ⟨"java/lang/AbstractStringBuilder", "ensureCapacityInternal", "(I)V"⟩, ⟨"java/lang/AbstractStringBuilder", "inflate", "()V"⟩, ⟨"java/lang/AbstractStringBuilder", "inflateIfNeededFor", "(Ljava/lang/String;)V"⟩, ⟨"java/lang/AbstractStringBuilder", "newCapacity", "(I)I"⟩, ⟨"java/lang/AbstractStringBuilder", "putStringAt", "(ILjava/lang/String;)V"⟩]
noncomputable def asbZ : MethodName := ⟨"java/lang/AbstractStringBuilder", "isLatin1", "()Z"⟩
theorem asb_ok : ∀ y ∈ asb, (y.cls ≠ "java/lang/invoke/MethodHandle" ∧ y.cls ≠ "java/lang/invoke/VarHandle") ∧ asbZ.cls = y.cls ∧ Cond.privateMethod y ∈ lw_tbl ∧ Cond.instanceMethod y ∈ lw_tbl := by decide +kernel
theorem asb_z : Cond.selects "java/lang/StringBuilder" asbZ asbZ ∈ lw_tbl ∧ Cond.instanceMethod asbZ ∈ lw_tbl := by decide +kernel
noncomputable def lw_tbx : List Cond := asb.map (fun y => Cond.selects "java/lang/StringBuilder" y y) ++ lw_tbl
theorem lw_tbx_of {w : Cond} (h : w ∈ lw_tbl) : w ∈ lw_tbx := List.mem_append.mpr (Or.inr h)
theorem lw_tbx_b {args : Array Value} {s : State} (hts : ∀ w ∈ lw_tbl, w.before args s = true) : ∀ w ∈ lw_tbx, w.before args s = true := by
  intro w hw
  rcases List.mem_append.mp hw with hw | hw
  · obtain ⟨y, hy, rfl⟩ := List.mem_map.mp hw
    obtain ⟨h1, h2, h3, h4⟩ := asb_ok y hy
    exact sel_sub h1 h2 (hts _ asb_z.1) (hts _ asb_z.2) (hts _ h3) (hts _ h4)
  · exact hts w hw
