section MN
variable {l : Launch} {G : px_G} {T : px_T} {I : px_I} {J : px_J} {R : px_R} {μ : px_M} {m : Nat}
theorem px_up_sub0 {a k : Nat} : px_up I a k (I a k - 0) = I := by
  funext c j
  rw [px_up_at]
  by_cases h : c = a ∧ j = k
  · rw [if_pos h, h.1, h.2]; simp
  · rw [if_neg h]
theorem px_up_add0 {a k : Nat} : px_up I a k (I a k + 0) = I := by
  funext c j
  rw [px_up_at]
  by_cases h : c = a ∧ j = k
  · rw [if_pos h, h.1, h.2]; simp
  · rw [if_neg h]
end MN
