/-! the whole state of an object: the numbers, the history, the slots, the pad -/
abbrev px_a : Type := px_s × (Nat × (Nat → px_s)) × ((Nat → Bool) × (Nat → px_s)) × (Nat × (Nat → Int32))
def a_kept (f : Nat → Bool) : Int32 := (if f 0 then 1 else 0) ||| (if f 1 then 2 else 0)
/-- the states that come about -/
def px_AV (A : px_a) : Prop := px_VV A.1 ∧ (∀ i, i < A.2.1.1 → px_VV (A.2.1.2 i)) ∧ (∀ s, s < 2 → A.2.2.1.1 s = true → px_VV (A.2.2.1.2 s))
def a_chg (A : px_a) (q : Int32 × px_s) : px_a := if q.1 < 0 then A else (q.2, h_push A.2.1.1 A.2.1.2 A.1, A.2.2)
section MP
variable {l : Launch} {G : px_G} {T : px_T} {I : px_I} {J : px_J} {R : px_R} {μ : px_M} {m : Nat} {A : px_a}
theorem h_push_congr {kn : Nat} {H : Nat → px_s} {σ τ : px_s} (h : ∀ k, k < 151 → σ k = τ k) : (h_push kn H σ).1 = (h_push kn H τ).1 ∧ ∀ i, ∀ k, k < 151 → (h_push kn H σ).2 i k = (h_push kn H τ).2 i k := by
  unfold h_push
  split
  · refine ⟨rfl, fun i k hk => ?_⟩
    dsimp only
    split
    · rfl
    · exact h k hk
  · refine ⟨rfl, fun i k hk => ?_⟩
    dsimp only
    split
    · rfl
    · exact h k hk
theorem nI_nneg {n : Nat} (h : n < 2 ^ 31) : ¬ nI n < 0 := by rw [Int32.lt_iff_toInt_lt, nI_ti h, show (0 : Int32).toInt = 0 from rfl]; omega
theorem rg_nneg {v a b : Int32} (h : rg v a b) (ha : 0 ≤ a.toInt) : ¬ v < 0 := by
  rw [rg_ti] at h
  rw [Int32.lt_iff_toInt_lt, show (0 : Int32).toInt = 0 from rfl]
  omega
theorem e_road {σ : px_s} (h : px_VV σ) {a b t : Int32} : (f_road σ a b t).1 < 0 → (f_road σ a b t).2 = σ := by
  unfold f_road
  intro q
  split <;> (try rfl)
  split <;> (try rfl)
  split <;> (try rfl)
  rename_i h1 h2 h3
  rw [if_neg h1, if_neg h2, if_neg h3] at q
  dsimp only at q
  rw [h.1.1.1] at q
  exact absurd q (nI_nneg (by have := h.1.1.2.1; omega))
theorem e_cart {σ : px_s} (h : px_VV σ) {a b : Int32} : (f_cart σ a b).1 < 0 → (f_cart σ a b).2 = σ := by
  unfold f_cart
  intro q
  split <;> (try rfl)
  split <;> (try rfl)
  split <;> (try rfl)
  rename_i h1 h2 h3
  rw [if_neg h1, if_neg h2, if_neg h3] at q
  dsimp only at q
  rw [h.1.1.2.2.1] at q
  exact absurd q (nI_nneg (by have := h.1.1.2.2.2; omega))
theorem e_price {σ : px_s} (h : px_VV σ) {a b : Int32} : (f_price σ a b).1 < 0 → (f_price σ a b).2 = σ := by
  unfold f_price
  intro q
  split <;> (try rfl)
  split <;> (try rfl)
  rename_i h1 h2
  rw [if_neg h1, if_neg h2] at q
  exact absurd q (rg_nneg (h.1.2.2.2.2.2.1 _ (by have := ix_le (Classical.byContradiction h1 : rg a 0 7) (k := 7) rfl; omega)) (by decide))
theorem e_guard {σ : px_s} (h : px_VV σ) {a b : Int32} : (f_guard σ a b).1 < 0 → (f_guard σ a b).2 = σ := by
  unfold f_guard
  intro q
  split <;> (try rfl)
  split <;> (try rfl)
  split <;> (try rfl)
  rename_i h1 h2 h3
  rw [if_neg h1, if_neg h2, if_neg h3] at q
  obtain ⟨-, -, -, -, -, -, -, -, r⟩ := h.1.2.1 _ (rd_lt h.1 (Classical.byContradiction h1)).2.1
  exact absurd q (rg_nneg r (by decide))
theorem e_buy {σ : px_s} (h : px_VV σ) {a b : Int32} : (f_buy σ a b).1 < 0 → (f_buy σ a b).2 = σ := by
  intro q
  have hV := V_buy (a := a) (b := b) h
  unfold f_buy at *
  dsimp only at *
  split <;> (try rfl)
  split <;> (try rfl)
  split <;> (try rfl)
  split <;> (try rfl)
  rename_i h1 h2 h3 h4
  rw [if_neg h1, if_neg h2, if_neg h3, if_neg h4] at q hV
  obtain ⟨-, hl, h6⟩ := ct_lt h.1 (Classical.byContradiction h1)
  have r := hV.2 (ix a) (by rw [nc_upd (by omega), nc_upd (by omega), nc_upd (by omega), nc_upd (by omega)]; exact hl)
  dsimp only at r
  rw [upd_ne (by omega), upd_ne (by omega), upd_ne (by omega), upd_eq rfl] at r
  exact absurd q (rg_nneg r (by decide))
theorem e_sell {σ : px_s} (h : px_VV σ) {a b : Int32} : (f_sell σ a b).1 < 0 → (f_sell σ a b).2 = σ := by
  intro q
  have hV := V_sell (a := a) (b := b) h
  unfold f_sell at *
  dsimp only at *
  split <;> (try rfl)
  split <;> (try rfl)
  split <;> (try rfl)
  split <;> (try rfl)
  rename_i h1 h2 h3 h4
  rw [if_neg h1, if_neg h2, if_neg h3, if_neg h4] at q hV
  obtain ⟨-, hl, h6⟩ := ct_lt h.1 (Classical.byContradiction h1)
  have r := hV.2 (ix a) (by rw [nc_upd (by omega), nc_upd (by omega), nc_upd (by omega), nc_upd (by omega)]; exact hl)
  dsimp only at r
  rw [upd_ne (by omega), upd_ne (by omega), upd_ne (by omega), upd_eq rfl] at r
  exact absurd q (rg_nneg r (by decide))
theorem e_go {σ : px_s} (h : px_VV σ) {a b w : Int32} : (f_go σ a b w).1 < 0 → (f_go σ a b w).2 = σ := by
  unfold f_go
  dsimp only
  intro q
  split <;> (try rfl)
  split <;> (try rfl)
  split <;> (try rfl)
  split <;> (try rfl)
  rename_i h1 h2 h3 h4
  rw [if_neg h1, if_neg h2, if_neg h3, if_neg h4] at q
  obtain ⟨-, hl, h6⟩ := ct_lt h.1 (Classical.byContradiction (fun q => h1 (Or.inl q)))
  split at q
  · exact absurd q (show ¬ (0 : Int32) < 0 by decide)
  · dsimp only at q
    split at q
    · unfold f_sneak at q
      dsimp only at q
      split at q
      · exact absurd q (show ¬ (0 : Int32) < 0 by decide)
      · exact absurd q (rg_nneg (h.1.2.2.2.1 _ hl).2 (by decide))
    · exact absurd q (show ¬ (0 : Int32) < 0 by decide)
end MP
