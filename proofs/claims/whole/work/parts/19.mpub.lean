/-! the whole state of an object: the numbers, the history, the slots, the pad -/
abbrev px_a : Type := px_s × (Nat × (Nat → px_s)) × ((Nat → Bool) × (Nat → px_s)) × (Nat × (Nat → Int32))
def a_kept (f : Nat → Bool) : Int32 := (if f 0 then 1 else 0) ||| (if f 1 then 2 else 0)
/-- the reference at m holds A -/
def px_MI (I : px_I) (m : Nat) (A : px_a) : Prop :=
  I (m + 1) = A.1 ∧ px_hi I m A.2.1.1 A.2.1.2 ∧ I m 5 = a_kept A.2.2.1.1 ∧ (∀ s, s < 2 → A.2.2.1.1 s = true → ∀ k, k < 151 → I (m + 4) (151 * s + k) = A.2.2.1.2 s k) ∧
  I m 7 = nI A.2.2.2.1 ∧ A.2.2.2.1 ≤ 80 ∧ ∀ i, i < A.2.2.2.1 → I (m + 5) i = A.2.2.2.2 i
/-- the states that come about -/
def px_AV (A : px_a) : Prop := px_VV A.1 ∧ (∀ i, i < A.2.1.1 → px_VV (A.2.1.2 i)) ∧ (∀ s, s < 2 → A.2.2.1.1 s = true → px_VV (A.2.2.1.2 s))
def px_Qm (T : px_T) (I : px_I) (J : px_J) (R : px_R) (m : Nat) (w : Value) (A : px_a) : Option Value → px_M → Prop := fun v μ' => v = some w ∧ ∃ (I' : px_I) (J' : px_J), μ' = (T, I', J', R) ∧ px_MI I' m A ∧ (∀ a, (a < m ∨ m + 7 ≤ a) → I' a = I a) ∧ ∀ a, a ≠ m + 6 → J' a = J a
def a_chg (A : px_a) (q : Int32 × px_s) : px_a := if q.1 < 0 then A else (q.2, h_push A.2.1.1 A.2.1.2 A.1, A.2.2)
section MP
variable {l : Launch} {G : px_G} {T : px_T} {I : px_I} {J : px_J} {R : px_R} {μ : px_M} {m : Nat} {A : px_a}
theorem px_hi_congr {kn : Nat} {H H2 : Nat → px_s} (h : px_hi I m kn H) (e : ∀ i, i < kn → ∀ k, k < 151 → H i k = H2 i k) : px_hi I m kn H2 := ⟨h.1, h.2.1, fun i hi k hk => (h.2.2 i hi k hk).trans (e i hi k hk)⟩
theorem h_push_congr {kn : Nat} {H : Nat → px_s} {σ τ : px_s} (h : ∀ k, k < 151 → σ k = τ k) : (h_push kn H σ).1 = (h_push kn H τ).1 ∧ ∀ i, ∀ k, k < 151 → (h_push kn H σ).2 i k = (h_push kn H τ).2 i k := by
  unfold h_push
  split
  · refine ⟨rfl, fun i k hk => ?_⟩
    dsimp only
    split
    · rfl
    · exact h k hk
  · refine ⟨rfl, fun i k hk => ?_⟩
    dsimp only
    split
    · rfl
    · exact h k hk
/-- a row of no account is written: putAside -/
theorem MI_aside (h : px_MI I m A) {f : Nat → Int32} : px_MI (px_cpf I (m + 2) 0 151 f) m A := by
  obtain ⟨h1, ⟨h2, h3, h4⟩, h5, h6, h7, h8, h9⟩ := h
  exact ⟨by rw [px_cpf_ne (by omega)]; exact h1, ⟨by rw [px_cpf_ne (by omega)]; exact h2, h3, fun i hi k hk => by rw [px_cpf_ne (by omega)]; exact h4 i hi k hk⟩, by rw [px_cpf_ne (by omega)]; exact h5, fun s hs hv k hk => by rw [px_cpf_ne (by omega)]; exact h6 s hs hv k hk, by rw [px_cpf_ne (by omega)]; exact h7, h8, fun i hi => by rw [px_cpf_ne (by omega)]; exact h9 i hi⟩
theorem hi_set (h : px_MI I m A) {σ' : px_s} {f : Nat → Int32} : px_hi (px_set (px_cpf I (m + 2) 0 151 f) (m + 1) σ') m A.2.1.1 A.2.1.2 := by
  obtain ⟨h2, h3, h4⟩ := h.2.1
  exact ⟨by rw [px_set_ne (by omega), px_cpf_ne (by omega)]; exact h2, h3, fun i hi k hk => by rw [px_set_ne (by omega), px_cpf_ne (by omega)]; exact h4 i hi k hk⟩
/-- behind a change: putAside, the change itself, changed -/
theorem chg_end (h : px_MI I m A) {q : Int32 × px_s} (he : q.1 < 0 → q.2 = A.1) {u : Option Value} {μ' : px_M}
    (hu : u = some (.int q.1) ∧ (if q.1 < 0 then μ' = (T, px_set (px_cpf I (m + 2) 0 151 A.1) (m + 1) q.2, J, R) else px_Qr T (px_set (px_cpf I (m + 2) 0 151 A.1) (m + 1) q.2) J R m (h_push A.2.1.1 A.2.1.2 ((px_set (px_cpf I (m + 2) 0 151 A.1) (m + 1) q.2) (m + 2))) none μ')) : px_Qm T I J R m (.int q.1) (a_chg A q) u μ' := by
  obtain ⟨hu1, hu2⟩ := hu
  refine ⟨hu1, ?_⟩
  by_cases hv : q.1 < 0
  · rw [if_pos hv] at hu2
    rw [a_chg, if_pos hv]
    refine ⟨_, J, hu2, ?_, fun a ha => ?_, fun a ha => rfl⟩
    · have h2 := MI_aside (f := A.1) h
      have e : px_set (px_cpf I (m + 2) 0 151 A.1) (m + 1) q.2 = px_cpf I (m + 2) 0 151 A.1 := by
        have e2 := px_set_id (I := px_cpf I (m + 2) 0 151 A.1) (a := m + 1)
        rw [h2.1] at e2
        rw [he hv]; exact e2
      rw [e]
      exact h2
    · rw [px_set_ne (by omega), px_cpf_ne (by omega)]
  · rw [if_neg hv] at hu2
    rw [a_chg, if_neg hv]
    obtain ⟨I', e, -, hh, g1, g2⟩ := hu2
    obtain ⟨h1, h2, h5, h6, h7, h8, h9⟩ := h
    have hc := h_push_congr (kn := A.2.1.1) (H := A.2.1.2) (σ := (px_set (px_cpf I (m + 2) 0 151 A.1) (m + 1) q.2) (m + 2)) (τ := A.1) (fun k hk => by rw [px_set_ne (by omega), px_cpf_in (by omega), Nat.sub_zero])
    refine ⟨I', J, e, ⟨?_, ?_, ?_, fun s hs hv' k hk => ?_, ?_, h8, fun i hi => ?_⟩, fun a ha => ?_, fun a ha => rfl⟩
    · rw [g1 _ (by omega) (by omega), px_set_self]
    · rw [hc.1] at hh
      exact px_hi_congr hh (fun i _ k hk => hc.2 i k hk)
    · rw [g2 _ (by decide), px_set_ne (by omega), px_cpf_ne (by omega)]; exact h5
    · rw [g1 _ (by omega) (by omega), px_set_ne (by omega), px_cpf_ne (by omega)]; exact h6 s hs hv' k hk
    · rw [g2 _ (by decide), px_set_ne (by omega), px_cpf_ne (by omega)]; exact h7
    · rw [g1 _ (by omega) (by omega), px_set_ne (by omega), px_cpf_ne (by omega)]; exact h9 i hi
    · rw [g1 _ (by omega) (by omega), px_set_ne (by omega), px_cpf_ne (by omega)]
theorem px_Qm_err (h : px_MI I m A) {c : Int32} {q : Int32 × px_s} (e : q = (c, A.1)) (hc : c < 0) : px_Qm T I J R m (.int q.1) (a_chg A q) (some (.int c)) (T, px_cpf I (m + 2) 0 151 A.1, J, R) := by
  subst e
  refine ⟨rfl, _, J, rfl, ?_, fun a ha => by rw [px_cpf_ne (by omega)], fun a ha => rfl⟩
  rw [a_chg, if_pos hc]
  exact MI_aside h
theorem nI_nneg {n : Nat} (h : n < 2 ^ 31) : ¬ nI n < 0 := by rw [Int32.lt_iff_toInt_lt, nI_ti h, show (0 : Int32).toInt = 0 from rfl]; omega
theorem rg_nneg {v a b : Int32} (h : rg v a b) (ha : 0 ≤ a.toInt) : ¬ v < 0 := by
  rw [rg_ti] at h
  rw [Int32.lt_iff_toInt_lt, show (0 : Int32).toInt = 0 from rfl]
  omega
theorem e_road {σ : px_s} (h : px_VV σ) {a b t : Int32} : (f_road σ a b t).1 < 0 → (f_road σ a b t).2 = σ := by
  unfold f_road
  intro q
  split <;> (try rfl)
  split <;> (try rfl)
  split <;> (try rfl)
  rename_i h1 h2 h3
  rw [if_neg h1, if_neg h2, if_neg h3] at q
  dsimp only at q
  rw [h.1.1.1] at q
  exact absurd q (nI_nneg (by have := h.1.1.2.1; omega))
theorem e_cart {σ : px_s} (h : px_VV σ) {a b : Int32} : (f_cart σ a b).1 < 0 → (f_cart σ a b).2 = σ := by
  unfold f_cart
  intro q
  split <;> (try rfl)
  split <;> (try rfl)
  split <;> (try rfl)
  rename_i h1 h2 h3
  rw [if_neg h1, if_neg h2, if_neg h3] at q
  dsimp only at q
  rw [h.1.1.2.2.1] at q
  exact absurd q (nI_nneg (by have := h.1.1.2.2.2; omega))
theorem e_price {σ : px_s} (h : px_VV σ) {a b : Int32} : (f_price σ a b).1 < 0 → (f_price σ a b).2 = σ := by
  unfold f_price
  intro q
  split <;> (try rfl)
  split <;> (try rfl)
  rename_i h1 h2
  rw [if_neg h1, if_neg h2] at q
  exact absurd q (rg_nneg (h.1.2.2.2.2.2.1 _ (by have := ix_le (Classical.byContradiction h1 : rg a 0 7) (k := 7) rfl; omega)) (by decide))
theorem e_guard {σ : px_s} (h : px_VV σ) {a b : Int32} : (f_guard σ a b).1 < 0 → (f_guard σ a b).2 = σ := by
  unfold f_guard
  intro q
  split <;> (try rfl)
  split <;> (try rfl)
  split <;> (try rfl)
  rename_i h1 h2 h3
  rw [if_neg h1, if_neg h2, if_neg h3] at q
  obtain ⟨-, -, -, -, -, -, -, -, r⟩ := h.1.2.1 _ (rd_lt h.1 (Classical.byContradiction h1)).2.1
  exact absurd q (rg_nneg r (by decide))
theorem e_buy {σ : px_s} (h : px_VV σ) {a b : Int32} : (f_buy σ a b).1 < 0 → (f_buy σ a b).2 = σ := by
  intro q
  have hV := V_buy (a := a) (b := b) h
  unfold f_buy at *
  dsimp only at *
  split <;> (try rfl)
  split <;> (try rfl)
  split <;> (try rfl)
  split <;> (try rfl)
  rename_i h1 h2 h3 h4
  rw [if_neg h1, if_neg h2, if_neg h3, if_neg h4] at q hV
  obtain ⟨-, hl, h6⟩ := ct_lt h.1 (Classical.byContradiction h1)
  have r := hV.2 (ix a) (by rw [nc_upd (by omega), nc_upd (by omega), nc_upd (by omega), nc_upd (by omega)]; exact hl)
  dsimp only at r
  rw [upd_ne (by omega), upd_ne (by omega), upd_ne (by omega), upd_eq rfl] at r
  exact absurd q (rg_nneg r (by decide))
theorem e_sell {σ : px_s} (h : px_VV σ) {a b : Int32} : (f_sell σ a b).1 < 0 → (f_sell σ a b).2 = σ := by
  intro q
  have hV := V_sell (a := a) (b := b) h
  unfold f_sell at *
  dsimp only at *
  split <;> (try rfl)
  split <;> (try rfl)
  split <;> (try rfl)
  split <;> (try rfl)
  rename_i h1 h2 h3 h4
  rw [if_neg h1, if_neg h2, if_neg h3, if_neg h4] at q hV
  obtain ⟨-, hl, h6⟩ := ct_lt h.1 (Classical.byContradiction h1)
  have r := hV.2 (ix a) (by rw [nc_upd (by omega), nc_upd (by omega), nc_upd (by omega), nc_upd (by omega)]; exact hl)
  dsimp only at r
  rw [upd_ne (by omega), upd_ne (by omega), upd_ne (by omega), upd_eq rfl] at r
  exact absurd q (rg_nneg r (by decide))
theorem e_go {σ : px_s} (h : px_VV σ) {a b w : Int32} : (f_go σ a b w).1 < 0 → (f_go σ a b w).2 = σ := by
  unfold f_go
  dsimp only
  intro q
  split <;> (try rfl)
  split <;> (try rfl)
  split <;> (try rfl)
  split <;> (try rfl)
  rename_i h1 h2 h3 h4
  rw [if_neg h1, if_neg h2, if_neg h3, if_neg h4] at q
  obtain ⟨-, hl, h6⟩ := ct_lt h.1 (Classical.byContradiction (fun q => h1 (Or.inl q)))
  split at q
  · exact absurd q (show ¬ (0 : Int32) < 0 by decide)
  · dsimp only at q
    split at q
    · unfold f_sneak at q
      dsimp only at q
      split at q
      · exact absurd q (show ¬ (0 : Int32) < 0 by decide)
      · exact absurd q (rg_nneg (h.1.2.2.2.1 _ hl).2 (by decide))
    · exact absurd q (show ¬ (0 : Int32) < 0 by decide)
end MP

