abbrev px_p : Type := Nat × (Nat → Int32)
section CRD
def px_pa (G : px_G) (T : px_T) (R : px_R) (a : Nat) : Prop := px_at G T a 2 0 ∧ R a 0 = some (a + 1) ∧ px_at G T (a + 1) 9 80
def px_re (G : px_G) (T : px_T) (R : px_R) (r a : Nat) : Prop := px_at G T r 3 0 ∧ R r 0 = some a
variable {l : Launch} {G : px_G} {T : px_T} {I : px_I} {J : px_J} {R : px_R} {μ : px_M} {a r : Nat} {σ : px_s} {p : px_p} {s : Nat}
theorem pa_a (h : px_pa G T R a) : px_at G T a 2 0 := h.1
theorem pa_r (h : px_pa G T R a) : R a 0 = some (a + 1) := h.2.1
theorem pa_c (h : px_pa G T R a) : px_at G T (a + 1) 9 80 := h.2.2
/-- the pad of the class holds p -/
def px_cp (I : px_I) (a : Nat) (p : px_p) : Prop := I a 1 = nI p.1 ∧ p.1 ≤ 80 ∧ ∀ i, i < p.1 → I (a + 1) i = p.2 i
theorem out_rg {v a b : Int32} : (v < a ∨ b < v) ↔ ¬ rg v a b := ⟨fun h q => q h, fun h => Classical.byContradiction h⟩
theorem cp_congr {I' : px_I} (h : px_cp I a p) (e1 : I' a = I a) (e2 : I' (a + 1) = I (a + 1)) : px_cp I' a p := ⟨by rw [e1]; exact h.1, h.2.1, fun i hi => by rw [e2]; exact h.2.2 i hi⟩
end CRD
