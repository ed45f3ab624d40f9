/-! sums over carts and roads, and what holds of them in every state that comes about -/
section PSM
variable {σ τ : px_s} {f g : Nat → Int32}
theorem sm_congr {n : Nat} (h : ∀ c, c < n → g c = f c) : f_sm g n = f_sm f n := by
  induction n with
  | zero => rfl
  | succ n ih => rw [f_sm, f_sm, ih (fun c hc => h c (by omega)), h n (by omega)]
theorem sm_one {n c0 : Nat} (hc : c0 < n) (h : ∀ c, c < n → c ≠ c0 → g c = f c) : f_sm g n = f_sm f n + (g c0 - f c0) := by
  induction n with
  | zero => exact absurd hc (by omega)
  | succ n ih =>
    rw [f_sm, f_sm]
    rcases (by omega : c0 < n ∨ c0 = n) with z | rfl
    · rw [ih z (fun c hc => h c (by omega)), h n (by omega) (by omega)]; grind
    · rw [sm_congr (fun c hc => h c (by omega) (by omega))]; grind
def f_pt4 (σ : px_s) (c : Nat) : Int32 := σ (94 + 8 * c + 3) - σ (94 + 8 * c + 4) + σ (94 + 8 * c + 5) + σ (94 + 8 * c + 6)
def f_paid (σ : px_s) : Nat → Int32 := f_sm (f_pt4 σ)
def px_U (σ : px_s) : Prop := px_VV σ ∧ f_cs σ 1 + f_paid σ (f_nc σ) = σ 150 ∧ f_cs σ 7 = σ 149 ∧ f_cs σ 2 + σ 148 + σ 149 = σ 147 ∧ ¬ σ 145 < f_gs σ ∧ rg (σ 146) 0 65536
theorem nc_eq (h : τ 93 = σ 93) : f_nc τ = f_nc σ := by unfold f_nc; rw [h]
theorem nr_eq (h : τ 8 = σ 8) : f_nr τ = f_nr σ := by unfold f_nr; rw [h]
theorem gs_eq (hV : px_VV σ) (h8 : τ 8 = σ 8) (hg : ∀ r, r < 14 → τ (9 + 6 * r + 3) = σ (9 + 6 * r + 3)) : f_gs τ = f_gs σ := by
  unfold f_gs
  rw [nr_eq h8]
  exact sm_congr (fun c hc => hg c (by have := hV.1.1.2.1; omega))
theorem U_cart (h : px_U σ) (hV : px_VV τ) {c0 : Nat} (hc : c0 < f_nc σ) (h8 : τ 8 = σ 8) (h93 : τ 93 = σ 93) (hg : ∀ r, r < 14 → τ (9 + 6 * r + 3) = σ (9 + 6 * r + 3)) (ho : ∀ c j, c ≠ c0 → j < 8 → τ (94 + 8 * c + j) = σ (94 + 8 * c + j) ∨ 6 ≤ c)
    (e1 : τ (94 + 8 * c0 + 1) - σ (94 + 8 * c0 + 1) + (f_pt4 τ c0 - f_pt4 σ c0) = τ 150 - σ 150) (e7 : τ (94 + 8 * c0 + 7) - σ (94 + 8 * c0 + 7) = τ 149 - σ 149)
    (e2 : (τ (94 + 8 * c0 + 2) - σ (94 + 8 * c0 + 2)) + (τ 148 - σ 148) + (τ 149 - σ 149) = τ 147 - σ 147) (e5 : τ 145 = σ 145) (e6 : rg (τ 146) 0 65536) : px_U τ := by
  obtain ⟨v, u1, u2, u3, u4, u5⟩ := h
  have hn6 := v.1.1.2.2.2
  have ho' : ∀ c j, c < f_nc σ → c ≠ c0 → j < 8 → τ (94 + 8 * c + j) = σ (94 + 8 * c + j) := fun c j h1 h2 h3 => (ho c j h2 h3).elim id (fun q => by omega)
  have cs : ∀ j, j < 8 → f_cs τ j = f_cs σ j + (τ (94 + 8 * c0 + j) - σ (94 + 8 * c0 + j)) := by
    intro j hj
    unfold f_cs
    rw [nc_eq h93]
    exact sm_one (f := fun c => σ (94 + 8 * c + j)) (g := fun c => τ (94 + 8 * c + j)) hc (fun c h1 h2 => ho' c j h1 h2 hj)
  have pd : f_paid τ (f_nc τ) = f_paid σ (f_nc σ) + (f_pt4 τ c0 - f_pt4 σ c0) := by
    unfold f_paid
    rw [nc_eq h93]
    refine sm_one hc (fun c h1 h2 => ?_)
    unfold f_pt4
    rw [ho' c 3 h1 h2 (by omega), ho' c 4 h1 h2 (by omega), ho' c 5 h1 h2 (by omega), ho' c 6 h1 h2 (by omega)]
  refine ⟨hV, ?_, ?_, ?_, ?_, e6⟩
  · rw [cs 1 (by omega), pd]; grind
  · rw [cs 7 (by omega)]; grind
  · rw [cs 2 (by omega)]; grind
  · rw [gs_eq v h8 hg, e5]; exact u4
theorem U_no (h : px_U σ) (hV : px_VV τ) (h1 : ∀ k, 93 ≤ k → k < 142 → τ k = σ k) (h2 : ∀ k, 146 ≤ k → k ≤ 150 → τ k = σ k) (hg : ¬ τ 145 < f_gs τ) : px_U τ := by
  obtain ⟨v, u1, u2, u3, u4, u5⟩ := h
  have hn6 := v.1.1.2.2.2
  have e93 := nc_eq (h1 93 (by omega) (by omega))
  have cs : ∀ j, j < 8 → f_cs τ j = f_cs σ j := fun j hj => by
    unfold f_cs
    rw [e93]
    exact sm_congr (fun c hc => h1 _ (by omega) (by omega))
  have pd : f_paid τ (f_nc τ) = f_paid σ (f_nc σ) := by
    unfold f_paid
    rw [e93]
    refine sm_congr (fun c hc => ?_)
    unfold f_pt4
    rw [h1 _ (by omega) (by omega), h1 _ (by omega) (by omega), h1 _ (by omega) (by omega), h1 _ (by omega) (by omega)]
  refine ⟨hV, ?_, ?_, ?_, hg, ?_⟩
  · rw [cs 1 (by omega), pd, h2 150 (by omega) (by omega)]; exact u1
  · rw [cs 7 (by omega), h2 149 (by omega) (by omega)]; exact u2
  · rw [cs 2 (by omega), h2 149 (by omega) (by omega), h2 148 (by omega) (by omega), h2 147 (by omega) (by omega)]; exact u3
  · rw [h2 146 (by omega) (by omega)]; exact u5
theorem cart_lt (h : px_VV σ) {a : Int32} (q : rg a 0 (σ 93 - 1)) : ix a < f_nc σ := ix_ltn (by rw [← h.1.1.2.2.1]; exact q) (by have := h.1.1.2.2.2; omega)
theorem road_lt (h : px_VV σ) {a : Int32} (q : rg a 0 (σ 8 - 1)) : ix a < f_nr σ := ix_ltn (by rw [← h.1.1.1]; exact q) (by have := h.1.1.2.1; omega)
theorem U_price (h : px_U σ) {a b : Int32} : px_U (f_price σ a b).2 := by
  have hV := V_fprice (a := a) (b := b) h.1
  unfold f_price at *
  split
  · exact h
  split
  · exact h
  rename_i q1 q2
  rw [if_neg q1, if_neg q2] at hV
  have hi : ix a < 8 := by have := ix_le (Classical.not_not.mp q1) (k := 7) rfl; omega
  refine U_no h hV (fun k h1 h2 => upd_ne (by omega)) (fun k h1 h2 => upd_ne (by omega)) ?_
  dsimp only
  rw [gs_eq h.1 (upd_ne (by omega)) (fun r hr => upd_ne (by omega)), upd_ne (by omega)]
  exact h.2.2.2.2.1
theorem U_toll (h : px_U σ) {a b : Int32} : px_U (f_toll σ a b).2 := by
  have hV := V_toll (a := a) (b := b) h.1
  unfold f_toll at *
  split
  · exact h
  split
  · exact h
  rename_i q1 q2
  rw [if_neg q1, if_neg q2] at hV
  have hi := road_lt h.1 (Classical.not_not.mp q1)
  have h14 := h.1.1.1.2.1
  refine U_no h hV (fun k h1 h2 => upd_ne (by omega)) (fun k h1 h2 => upd_ne (by omega)) ?_
  dsimp only
  rw [gs_eq h.1 (upd_ne (by omega)) (fun r hr => upd_ne (by omega)), upd_ne (by omega)]
  exact h.2.2.2.2.1
theorem U_guard (h : px_U σ) {a b : Int32} : px_U (f_guard σ a b).2 := by
  have hV := V_guard (a := a) (b := b) h.1
  unfold f_guard at *
  split
  · exact h
  split
  · exact h
  split
  · exact h
  rename_i q1 q2 q3
  rw [if_neg q1, if_neg q2, if_neg q3] at hV
  have hi := road_lt h.1 (Classical.not_not.mp q1)
  have h14 := h.1.1.1.2.1
  refine U_no h hV (fun k h1 h2 => upd_ne (by omega)) (fun k h1 h2 => upd_ne (by omega)) ?_
  dsimp only
  have e : f_gs (upd σ (9 + 6 * ix a + 3) b) = f_gs σ - σ (9 + 6 * ix a + 3) + b := by
    unfold f_gs
    rw [nr_eq (upd_ne (by omega)), sm_one (f := fun r => σ (9 + 6 * r + 3)) hi (fun c h1 h2 => upd_ne (by omega)), upd_eq rfl]
    grind
  rw [e, upd_ne (by omega)]
  exact q3
theorem U_set (h : px_U σ) {a b : Int32} : px_U (f_set σ a b).2 := by
  have hV := V_set (a := a) (b := b) h.1
  unfold f_set at *
  split
  · exact h
  split
  · exact h
  split
  · exact h
  rename_i q1 q2 q3
  rw [if_neg q1, if_neg q2, if_neg q3] at hV
  have hi : ix a < 4 := by have := ix_le (Classical.not_not.mp q1) (k := 3) rfl; omega
  refine U_no h hV (fun k h1 h2 => upd_ne (by omega)) (fun k h1 h2 => upd_ne (by omega)) ?_
  dsimp only
  rw [gs_eq h.1 (upd_ne (by omega)) (fun r hr => upd_ne (by omega))]
  by_cases z : ix a = 3
  · rw [upd_eq (by omega)]
    intro q
    refine q3 ⟨?_, q⟩
    rw [ix_eq (Classical.not_not.mp q1), z]; rfl
  · rw [upd_ne (by omega)]
    exact h.2.2.2.2.1
theorem U_road (h : px_U σ) {a b t : Int32} : px_U (f_road σ a b t).2 := by
  have hV := V_addroad (a := a) (b := b) (t := t) h.1
  unfold f_road at *
  split
  · exact h
  split
  · exact h
  split
  · exact h
  rename_i q1 q2 q3
  rw [if_neg q1, if_neg q2, if_neg q3] at hV
  obtain ⟨n1, n2, -, -⟩ := h.1.1.1
  refine U_no h hV (fun k h1 h2 => ?_) (fun k h1 h2 => ?_) ?_
  · dsimp only; rw [upd_ne (by omega), upd_ne (by omega), upd_ne (by omega), upd_ne (by omega)]
  · dsimp only; rw [upd_ne (by omega), upd_ne (by omega), upd_ne (by omega), upd_ne (by omega)]
  · dsimp only
    have e : f_gs (upd (upd (upd (upd σ (9 + 6 * f_nr σ + 0) a) (9 + 6 * f_nr σ + 1) b) (9 + 6 * f_nr σ + 2) t) 8 (σ 8 + 1)) = f_gs σ := by
      have en : f_nr (upd (upd (upd (upd σ (9 + 6 * f_nr σ + 0) a) (9 + 6 * f_nr σ + 1) b) (9 + 6 * f_nr σ + 2) t) 8 (σ 8 + 1)) = f_nr σ + 1 := by
        show ix (upd _ 8 (σ 8 + 1) 8) = _
        rw [upd_eq rfl, n1, nI_1, ix_nI (by omega)]
      unfold f_gs
      rw [en, f_sm]
      have z : upd (upd (upd (upd σ (9 + 6 * f_nr σ + 0) a) (9 + 6 * f_nr σ + 1) b) (9 + 6 * f_nr σ + 2) t) 8 (σ 8 + 1) (9 + 6 * f_nr σ + 3) = 0 := by
        rw [upd_ne (by omega), upd_ne (by omega), upd_ne (by omega), upd_ne (by omega)]
        exact h.1.1.2.2.1 _ 3 (Nat.le_refl _) (by omega) (by omega)
      rw [z, sm_congr (f := fun r => σ (9 + 6 * r + 3)) (fun c hc => by rw [upd_ne (by omega), upd_ne (by omega), upd_ne (by omega), upd_ne (by omega)])]
      simp
    rw [e, upd_ne (by omega), upd_ne (by omega), upd_ne (by omega), upd_ne (by omega)]
    exact h.2.2.2.2.1
theorem U_addcart (h : px_U σ) {a b : Int32} : px_U (f_cart σ a b).2 := by
  have hV := V_addcart (a := a) (b := b) h.1
  unfold f_cart at *
  split
  · exact h
  split
  · exact h
  split
  · exact h
  rename_i q1 q2 q3
  rw [if_neg q1, if_neg q2, if_neg q3] at hV
  obtain ⟨v, u1, u2, u3, u4, u5⟩ := h
  obtain ⟨-, -, n1, n2⟩ := id v.1.1
  have hz := fun j hj => v.1.2.2.2.2.1 (f_nc σ) j (Nat.le_refl _) (by omega) hj
  generalize hτ : upd (upd (upd (upd σ (94 + 8 * f_nc σ + 0) a) (94 + 8 * f_nc σ + 1) b) 150 (σ 150 + b)) 93 (σ 93 + 1) = τ at *
  have en : f_nc τ = f_nc σ + 1 := by
    subst hτ
    show ix (upd _ 93 (σ 93 + 1) 93) = _
    rw [upd_eq rfl, n1, nI_1, ix_nI (by omega)]
  have old : ∀ k, k ≠ 93 → k ≠ 150 → k ≠ 94 + 8 * f_nc σ + 0 → k ≠ 94 + 8 * f_nc σ + 1 → τ k = σ k := fun k h1 h2 h3 h4 => by
    subst hτ
    rw [upd_ne h1, upd_ne h2, upd_ne h4, upd_ne h3]
  have new1 : τ (94 + 8 * f_nc σ + 1) = b := by
    subst hτ
    rw [upd_ne (by omega), upd_ne (by omega), upd_eq rfl]
  have n150 : τ 150 = σ 150 + b := by
    subst hτ
    rw [upd_ne (by omega), upd_eq rfl]
  have cs : ∀ j, 1 ≤ j → j < 8 → f_cs τ j = f_cs σ j + τ (94 + 8 * f_nc σ + j) := fun j hj1 hj => by
    unfold f_cs
    rw [en, f_sm, sm_congr (f := fun c => σ (94 + 8 * c + j)) (fun c hc => old _ (by omega) (by omega) (by omega) (by omega))]
  have o7 := fun j (h1 : 2 ≤ j) (h2 : j < 8) => (old (94 + 8 * f_nc σ + j) (by omega) (by omega) (by omega) (by omega)).trans (hz j h2)
  have pd : f_paid τ (f_nc τ) = f_paid σ (f_nc σ) := by
    unfold f_paid
    rw [en, f_sm, sm_congr (f := f_pt4 σ) (fun c hc => by unfold f_pt4; rw [old _ (by omega) (by omega) (by omega) (by omega), old _ (by omega) (by omega) (by omega) (by omega), old _ (by omega) (by omega) (by omega) (by omega), old _ (by omega) (by omega) (by omega) (by omega)])]
    unfold f_pt4
    rw [o7 3 (by omega) (by omega), o7 4 (by omega) (by omega), o7 5 (by omega) (by omega), o7 6 (by omega) (by omega)]
    simp
  dsimp only at hV ⊢
  refine ⟨hV, ?_, ?_, ?_, ?_, ?_⟩
  · rw [cs 1 (by omega) (by omega), pd, new1, n150]; grind
  · rw [cs 7 (by omega) (by omega), o7 7 (by omega) (by omega), old 149 (by omega) (by omega) (by omega) (by omega), u2]; simp
  · rw [cs 2 (by omega) (by omega), o7 2 (by omega) (by omega), old 149 (by omega) (by omega) (by omega) (by omega), old 148 (by omega) (by omega) (by omega) (by omega), old 147 (by omega) (by omega) (by omega) (by omega)]
    simp only [Int32.add_zero]
    exact u3
  · rw [gs_eq v (old 8 (by omega) (by omega) (by omega) (by omega)) (fun r hr => old _ (by omega) (by omega) (by omega) (by omega)), old 145 (by omega) (by omega) (by omega) (by omega)]
    exact u4
  · rw [old 146 (by omega) (by omega) (by omega) (by omega)]; exact u5
theorem x_rg (h : rg (σ 146) 0 65536) : rg (f_x (σ 146)) 0 65536 := by
  obtain ⟨e, -, hb⟩ := rg_ix (a := 0) (b := 65536) (by decide) (by decide) h
  unfold f_x
  rw [e, show (75 : Int32) * nI (ix (σ 146)) = nI (75 * ix (σ 146)) from pk_mul 75 _, show (74 : Int32) = nI 74 from rfl, nI_add, show (65537 : Int32) = nI 65537 from rfl, pk_rem (by omega) (by decide) (by decide), rg_ti, nI_ti (by omega)]
  refine ⟨?_, ?_⟩
  · rw [show (0 : Int32).toInt = 0 from rfl]; omega
  · rw [show (65536 : Int32).toInt = 65536 from rfl]; omega
theorem U_buy (h : px_U σ) {a b : Int32} : px_U (f_buy σ a b).2 := by
  have hV := V_buy (a := a) (b := b) h.1
  unfold f_buy at *
  dsimp only at *
  split
  · exact h
  split
  · exact h
  split
  · exact h
  split
  · exact h
  rename_i q1 q2 q3 q4
  rw [if_neg q1, if_neg q2, if_neg q3, if_neg q4] at hV
  have hi := cart_lt h.1 (Classical.not_not.mp q1)
  have h6 := h.1.1.1.2.2.2
  refine U_cart h hV hi ?_ ?_ (fun r hr => ?_) (fun c j h1 h2 => ?_) ?_ ?_ ?_ ?_ ?_ <;> dsimp only [f_pt4]
  · rw [upd_ne (by omega), upd_ne (by omega), upd_ne (by omega), upd_ne (by omega)]
  · rw [upd_ne (by omega), upd_ne (by omega), upd_ne (by omega), upd_ne (by omega)]
  · rw [upd_ne (by omega), upd_ne (by omega), upd_ne (by omega), upd_ne (by omega)]
  · by_cases z : 6 ≤ c
    · exact Or.inr z
    · exact Or.inl (by rw [upd_ne (by omega), upd_ne (by omega), upd_ne (by omega), upd_ne (by omega)])
  all_goals (try generalize ix a = i at *)
  · simp [upd]; grind
  · simp [upd]; grind
  · simp [upd]; grind
  · rw [upd_ne (by omega), upd_ne (by omega), upd_ne (by omega), upd_ne (by omega)]
  · rw [upd_ne (by omega), upd_ne (by omega), upd_ne (by omega), upd_ne (by omega)]; exact h.2.2.2.2.2
theorem U_sell (h : px_U σ) {a b : Int32} : px_U (f_sell σ a b).2 := by
  have hV := V_sell (a := a) (b := b) h.1
  unfold f_sell at *
  dsimp only at *
  split
  · exact h
  split
  · exact h
  split
  · exact h
  split
  · exact h
  rename_i q1 q2 q3 q4
  rw [if_neg q1, if_neg q2, if_neg q3, if_neg q4] at hV
  have hi := cart_lt h.1 (Classical.not_not.mp q1)
  have h6 := h.1.1.1.2.2.2
  refine U_cart h hV hi ?_ ?_ (fun r hr => ?_) (fun c j h1 h2 => ?_) ?_ ?_ ?_ ?_ ?_ <;> dsimp only [f_pt4]
  · rw [upd_ne (by omega), upd_ne (by omega), upd_ne (by omega), upd_ne (by omega)]
  · rw [upd_ne (by omega), upd_ne (by omega), upd_ne (by omega), upd_ne (by omega)]
  · rw [upd_ne (by omega), upd_ne (by omega), upd_ne (by omega), upd_ne (by omega)]
  · by_cases z : 6 ≤ c
    · exact Or.inr z
    · exact Or.inl (by rw [upd_ne (by omega), upd_ne (by omega), upd_ne (by omega), upd_ne (by omega)])
  all_goals (try generalize ix a = i at *)
  · simp [upd]; grind
  · simp [upd]; grind
  · simp [upd]; grind
  · rw [upd_ne (by omega), upd_ne (by omega), upd_ne (by omega), upd_ne (by omega)]
  · rw [upd_ne (by omega), upd_ne (by omega), upd_ne (by omega), upd_ne (by omega)]; exact h.2.2.2.2.2
theorem U_go (h : px_U σ) {a b w : Int32} : px_U (f_go σ a b w).2 := by
  have hV := V_go (a := a) (b := b) (w := w) h.1
  have hx := x_rg h.2.2.2.2.2
  unfold f_go at *
  dsimp only at *
  split
  · exact h
  split
  · exact h
  split
  · exact h
  split
  · exact h
  rename_i q1 q2 q3 q4
  rw [if_neg q1, if_neg q2, if_neg q3, if_neg q4] at hV
  have hi := cart_lt h.1 (Classical.byContradiction fun q => q1 (Or.inl q))
  have hr := road_lt h.1 (Classical.byContradiction fun q => q1 (Or.inr q))
  have h6 := h.1.1.1.2.2.2
  have h14 := h.1.1.1.2.1
  split
  · rename_i q5
    rw [if_pos q5] at hV
    refine U_cart h hV hi ?_ ?_ (fun r hr => ?_) (fun c j h1 h2 => ?_) ?_ ?_ ?_ ?_ ?_ <;> dsimp only [f_pt4]
    · rw [upd_ne (by omega), upd_ne (by omega), upd_ne (by omega), upd_ne (by omega)]
    · rw [upd_ne (by omega), upd_ne (by omega), upd_ne (by omega), upd_ne (by omega)]
    · rw [upd_ne (by omega), upd_ne (by omega), upd_ne (by omega), upd_ne (by omega)]
    · by_cases z : 6 ≤ c
      · exact Or.inr z
      · exact Or.inl (by rw [upd_ne (by omega), upd_ne (by omega), upd_ne (by omega), upd_ne (by omega)])
    · rw [upd_ne (k := 9 + 6 * ix b + 4) (by omega), upd_ne (k := 9 + 6 * ix b + 4) (by omega), upd_ne (k := 9 + 6 * ix b + 4) (by omega), upd_ne (k := 9 + 6 * ix b + 4) (by omega), upd_ne (k := 9 + 6 * ix b + 4) (by omega), upd_ne (k := 9 + 6 * ix b + 4) (by omega)]
      generalize ix a = i at *
      simp [upd]; grind
    · rw [upd_ne (k := 9 + 6 * ix b + 4) (by omega), upd_ne (k := 9 + 6 * ix b + 4) (by omega)]
      generalize ix a = i at *
      simp [upd] <;> grind
    · rw [upd_ne (k := 9 + 6 * ix b + 4) (by omega), upd_ne (k := 9 + 6 * ix b + 4) (by omega), upd_ne (k := 9 + 6 * ix b + 4) (by omega), upd_ne (k := 9 + 6 * ix b + 4) (by omega)]
      generalize ix a = i at *
      simp [upd] <;> grind
    · rw [upd_ne (by omega), upd_ne (by omega), upd_ne (by omega), upd_ne (by omega)]
    · rw [upd_ne (by omega), upd_ne (by omega), upd_ne (by omega), upd_ne (by omega)]; exact h.2.2.2.2.2
  · rename_i q5
    rw [if_neg q5] at hV
    by_cases q6 : 0 < σ (94 + 8 * ix a + 2)
    · rw [if_pos q6] at *
      unfold f_sneak at *
      dsimp only at *
      by_cases q7 : f_cr σ (ix b) ≤ f_dr (f_x (σ 146))
      · rw [if_pos q7] at *
        refine U_cart h hV hi ?_ ?_ (fun r hr => ?_) (fun c j h1 h2 => ?_) ?_ ?_ ?_ ?_ ?_ <;> dsimp only [f_pt4]
        · rw [upd_ne (by omega), upd_ne (by omega), upd_ne (by omega)]
        · rw [upd_ne (by omega), upd_ne (by omega), upd_ne (by omega)]
        · rw [upd_ne (by omega), upd_ne (by omega), upd_ne (by omega)]
        · by_cases z : 6 ≤ c
          · exact Or.inr z
          · exact Or.inl (by rw [upd_ne (by omega), upd_ne (by omega), upd_ne (by omega)])
        · rw [upd_ne (k := 9 + 6 * ix b + 5) (by omega), upd_ne (k := 9 + 6 * ix b + 5) (by omega), upd_ne (k := 9 + 6 * ix b + 5) (by omega), upd_ne (k := 9 + 6 * ix b + 5) (by omega), upd_ne (k := 9 + 6 * ix b + 5) (by omega), upd_ne (k := 9 + 6 * ix b + 5) (by omega)]
          have : ix a < 6 := by omega
          repeat rw [upd_ne (by omega)]
          grind
        · repeat rw [upd_ne (by omega)]
          grind
        · repeat rw [upd_ne (by omega)]
          grind
        · rw [upd_ne (by omega), upd_ne (by omega), upd_ne (by omega)]
        · rw [upd_ne (by omega), upd_ne (by omega), upd_eq rfl]; exact hx
      · rw [if_neg q7] at *
        have hi6 : ix a < 6 := by omega
        refine U_cart h hV hi ?_ ?_ (fun r hr => ?_) (fun c j h1 h2 => ?_) ?_ ?_ ?_ ?_ ?_ <;> dsimp only [f_pt4]
        · repeat rw [upd_ne (by omega)]
        · repeat rw [upd_ne (by omega)]
        · repeat rw [upd_ne (by omega)]
        · by_cases z : 6 ≤ c
          · exact Or.inr z
          · exact Or.inl (by repeat rw [upd_ne (by omega)])
        · repeat (first | rw [upd_ne (by omega)] | rw [upd_eq (by omega)])
          grind
        · repeat (first | rw [upd_ne (by omega)] | rw [upd_eq (by omega)])
          grind
        · repeat (first | rw [upd_ne (by omega)] | rw [upd_eq (by omega)])
          grind
        · repeat rw [upd_ne (by omega)]
        · repeat (first | rw [upd_ne (by omega)] | rw [upd_eq (by omega)])
          exact hx
    · rw [if_neg q6] at *
      have hi6 : ix a < 6 := by omega
      refine U_cart h hV hi ?_ ?_ (fun r hr => ?_) (fun c j h1 h2 => ?_) ?_ ?_ ?_ ?_ ?_ <;> dsimp only [f_pt4]
      · repeat rw [upd_ne (by omega)]
      · repeat rw [upd_ne (by omega)]
      · repeat rw [upd_ne (by omega)]
      · by_cases z : 6 ≤ c
        · exact Or.inr z
        · exact Or.inl (by repeat rw [upd_ne (by omega)])
      · repeat rw [upd_ne (by omega)]
        grind
      · repeat rw [upd_ne (by omega)]
        grind
      · repeat rw [upd_ne (by omega)]
        grind
      · repeat rw [upd_ne (by omega)]
      · repeat rw [upd_ne (by omega)]
        exact h.2.2.2.2.2
theorem U_mkh (h : px_U σ) : px_U (f_mkh σ).2 := by
  refine U_no h (V_mkh h.1) (fun k h1 h2 => pr_hi (by omega)) (fun k h1 h2 => pr_hi (by omega)) ?_
  show ¬ f_pr σ (f_hp σ) 145 < f_gs (f_pr σ (f_hp σ))
  rw [gs_eq h.1 (pr_hi (by omega)) (fun r hr => pr_hi (by omega)), pr_hi (by omega)]
  exact h.2.2.2.2.1
theorem s0_U : px_U a_s0 := by
  refine ⟨s0_V, ?_, ?_, ?_, ?_, ?_⟩ <;> decide +kernel
end PSM

