/-! ===== the JDK's own constant: compact strings ===== -/
def kJ (_ : Nat → Nat) (A : Nat → Prop) (U : State) : Prop := va_Z "java/lang/String" "COMPACT_STRINGS" "Z" (.int 1) A U U.heap ∧ True
theorem kJ.down {J : Nat → Nat} {A B : Nat → Prop} {s U : State} {H : Heap} {locs : List Loc} (h : kJ J A s) (hS : va_S A s.heap H locs) (hU : U.heap = H) (hW : s.WarmedH U.vm) (hAB : ∀ q, B q → A q) : kJ J B U := by
  obtain ⟨h1, -⟩ := h
  subst hU
  exact ⟨((h1.kept hS.2.1).narrow hAB).moved hW.alike, trivial⟩
theorem kJ.same {J : Nat → Nat} {A : Nat → Prop} {u U : State} (hv : U.vm = u.vm) (hh : U.heap = u.heap) (h : kJ J A u) : kJ J A U := by
  obtain ⟨h1, -⟩ := h
  have ha : u.vm.Alike U.vm := by rw [hv]; exact Vm.Alike.refl u.vm
  unfold kJ
  rw [hh]
  exact ⟨h1.moved ha, trivial⟩
def soB (sb va : Nat) (ml : Int32) (n : Nat) : va_W := [(sb, .inr (1, [.ref va, .int 0, .int ml, .int (nI n)]))]
def baB (ty : Nat → ClassId) (va : Nat) (f : pS) : va_W := [(va, .inl (ty 4, 16, .inl f))]
