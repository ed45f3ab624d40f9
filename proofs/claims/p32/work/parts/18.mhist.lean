section MH
variable {l : Launch} {G : px_G} {T : px_T} {I : px_I} {J : px_J} {R : px_R} {μ : px_M} {m : Nat}
/-- the first n places of row a are those of f (from its place b on), the others as they were -/
def px_cpf (I : px_I) (a b n : Nat) (f : Nat → Int32) : px_I := fun c => if c = a then fun j => if b ≤ j ∧ j < b + n then f (j - b) else I a j else I c
theorem px_cpf_0 {a b : Nat} {f : Nat → Int32} : px_cpf I a b 0 f = I := by
  funext c j
  unfold px_cpf
  by_cases h : c = a
  · rw [if_pos h, if_neg (by omega), h]
  · rw [if_neg h]
theorem px_cpf_s {a b n : Nat} {f : Nat → Int32} : px_up (px_cpf I a b n f) a (b + n) (f n) = px_cpf I a b (n + 1) f := by
  funext c j
  rw [px_up_at]
  unfold px_cpf
  by_cases h : c = a
  · subst h
    simp only [if_true]
    by_cases hj : j = b + n
    · subst hj
      simp
    · rw [if_neg (by omega)]
      by_cases q : b ≤ j ∧ j < b + n
      · rw [if_pos q, if_pos (by omega)]
      · rw [if_neg q, if_neg (by omega)]
  · rw [if_neg (fun q => h q.1), if_neg h, if_neg h]
theorem px_cpf_ne {a b n c : Nat} {f : Nat → Int32} (h : c ≠ a) : px_cpf I a b n f c = I c := if_neg h
theorem px_cpf_in {a b n j : Nat} {f : Nat → Int32} (h : b ≤ j ∧ j < b + n) : px_cpf I a b n f a j = f (j - b) := by unfold px_cpf; rw [if_pos rfl, if_pos h]
theorem px_cpf_out {a b n j : Nat} {f : Nat → Int32} (h : ¬ (b ≤ j ∧ j < b + n)) : px_cpf I a b n f a j = I a j := by unfold px_cpf; rw [if_pos rfl, if_neg h]
/-- the history with one state more -/
def h_push (kn : Nat) (H : Nat → px_s) (σ : px_s) : Nat × (Nat → px_s) := if kn = 6 then (6, fun i => if i < 5 then H (i + 1) else σ) else (kn + 1, fun i => if i < kn then H i else σ)
theorem h_push_le (kn : Nat) (H : Nat → px_s) (σ : px_s) (h : kn ≤ 6) : (h_push kn H σ).1 ≤ 6 := by
  unfold h_push
  split
  · exact Nat.le_refl _
  · show kn + 1 ≤ 6; omega
end MH
