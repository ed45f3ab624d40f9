/-! the outer array that multianewarray makes, by the library's own words for it (JvmDerived.Shelf42.MA1) -/
theorem px_outer (cA : ClassId) (h0 : Nat) : Jvm.Free.Multi.outerC cA 5 h0 5 = arrV cA 5 (fun j => va_rf (if j < 5 then some (h0 + 1 + j) else none)) := by
  obtain ⟨o1, o2, o3⟩ := Jvm.Free.Multi.outerC_facts cA 5 h0 5
  have os := fun (j : Nat) (hj : j < 5) => Jvm.Free.Multi.outerC_slot cA 5 h0 5 j hj
  have e : Jvm.Free.Multi.outerC cA 5 h0 5 = { cls := cA, slots := (Jvm.Free.Multi.outerC cA 5 h0 5).slots, vm := .none } := rfl
  rw [e]
  have hs : (Jvm.Free.Multi.outerC cA 5 h0 5).slots = Array.ofFn (n := 5) fun j : Fin 5 => va_rf (if j.val < 5 then some (h0 + 1 + j.val) else none) := by
    apply Array.ext
    · rw [o3, Array.size_ofFn]
    · intro i h1 h2
      have h3 := os i (by omega)
      rw [Array.getElem?_eq_getElem h1] at h3
      rw [Option.some.inj h3, Array.getElem_ofFn, if_pos (by omega), if_pos (by omega)]
      rfl
  rw [hs]
  rfl
