/-! the reference: its object at m, with its rows behind it; its state is the row at m + 1 -/
section PMO
variable {G : px_G} {T : px_T} {R : px_R} {m : Nat}
end PMO
def px_set {α : Type} (I : Nat → α) (a : Nat) (g : α) : Nat → α := fun b => if b = a then g else I b
theorem px_up_set {I : px_I} {a k : Nat} {v : Int32} : px_up I a k v = px_set I a (upd (I a) k v) := rfl
theorem px_set_self {α : Type} {I : Nat → α} {a : Nat} {g : α} : px_set I a g a = g := if_pos rfl
theorem px_set_ne {α : Type} {I : Nat → α} {a b : Nat} {g : α} (h : b ≠ a) : px_set I a g b = I b := if_neg h
theorem px_set_set {α : Type} {I : Nat → α} {a : Nat} {g g' : α} : px_set (px_set I a g) a g' = px_set I a g' := by
  funext b
  by_cases h : b = a
  · subst h; rw [px_set_self, px_set_self]
  · rw [px_set_ne h, px_set_ne h, px_set_ne h]
theorem px_set_id {α : Type} {I : Nat → α} {a : Nat} : px_set I a (I a) = I := by
  funext b
  by_cases h : b = a
  · subst h; rw [px_set_self]
  · rw [px_set_ne h]
section ML
variable {l : Launch} {G : px_G} {T : px_T} {I : px_I} {J : px_J} {R : px_R} {μ : px_M} {m : Nat}
theorem f_mn_alt (a b : Int32) : f_mn a b = if a < b then a else b := by
  unfold f_mn
  by_cases h : b < a
  · rw [if_pos h, if_neg (fun q => Int32.lt_irrefl (Int32.lt_trans h q))]
  · by_cases h2 : a < b
    · rw [if_neg h, if_pos h2]
    · rw [if_neg h, if_neg h2]
      exact Int32.le_antisymm (Int32.not_lt.mp h) (Int32.not_lt.mp h2)
theorem z_add (x : Int32) : 0 + x = x := by simp
theorem px_K_eq {l : Launch} {G : px_G} {lv : Nat} {M : px_D} {As : List Value} {μ μ1 μ2 : px_M} {V V2 : Option Value} (h : px_K l G lv M As μ V μ1) (e : V = V2) (e2 : μ1 = μ2) : px_K l G lv M As μ V2 μ2 := by subst e; subst e2; exact h
theorem mem_id (T : px_T) (I : px_I) (J : px_J) (R : px_R) (a : Nat) : (T, px_set I a (I a), J, R) = (T, I, J, R) := by rw [px_set_id]
end ML
