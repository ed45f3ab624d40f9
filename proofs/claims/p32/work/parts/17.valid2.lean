section VE
variable {σ : px_s}
theorem V_sell (h : px_VV σ) {a b : Int32} : px_VV (f_sell σ a b).2 := by
  unfold f_sell
  dsimp only
  split
  · exact h
  · rename_i ha
    split
    · exact h
    · rename_i hb
      split
      · exact h
      · rename_i hcost
        split
        · exact h
        · rename_i hs
          obtain ⟨-, hl, h6⟩ := ct_lt h.1 (Classical.byContradiction ha)
          have hb' : rg b 1 99 := Classical.byContradiction hb
          have c1 := h.2 _ hl
          have c2 := (h.1.2.2.2.1 _ hl).2
          obtain ⟨-, t2⟩ := town_lt h.1 hl
          have hp := h.1.2.2.2.2.2.1 _ t2
          generalize σ (ix (σ (94 + 8 * ix a + 0))) = p at *
          generalize hx1 : σ (94 + 8 * ix a + 1) = x1 at *
          generalize hx2 : σ (94 + 8 * ix a + 2) = x2 at *
          rw [rg_ti] at c1 c2 hp hb'
          rw [Int32.lt_iff_toInt_lt] at hcost hs
          simp only [show (1 : Int32).toInt = 1 from rfl, show (0 : Int32).toInt = 0 from rfl, show (99 : Int32).toInt = 99 from rfl, show (999 : Int32).toInt = 999 from rfl, show (99999 : Int32).toInt = 99999 from rfl] at c1 c2 hp hb' hs
          have hm1 : 0 ≤ b.toInt * p.toInt := Int.mul_nonneg (by omega) (by omega)
          have hm2 : b.toInt * p.toInt ≤ 99 * 999 := Int.mul_le_mul (by omega) (by omega) (by omega) (by omega)
          have em : (b * p).toInt = b.toInt * p.toInt := i32_mul (by omega) (by omega)
          have es : (x2 - b).toInt = x2.toInt - b.toInt := i32_sub (by omega) (by omega)
          have ed : (x1 + b * p).toInt = x1.toInt + (b * p).toInt := i32_add (by omega) (by omega)
          refine V_num (V_cart (V_cart (V_cart h hl (by decide) (fun q => by omega) (fun _ => ?_) (fun q => by omega)) (by rw [nc_upd (by omega)]; exact hl) (by decide) (fun q => by omega) (fun q => by omega) (fun _ => ?_)) (by rw [nc_upd (by omega), nc_upd (by omega)]; exact hl) (by decide) (fun q => by omega) (fun q => by omega) (fun q => by omega)) (by omega)
          · rw [rg_ti, ed, em, show (0 : Int32).toInt = 0 from rfl, show (99999 : Int32).toInt = 99999 from rfl]
            rw [ed, em] at hs
            omega
          · rw [rg_ti, es, show (0 : Int32).toInt = 0 from rfl, show (99 : Int32).toInt = 99 from rfl]
            omega
theorem V_addroad (h : px_VV σ) {a b t : Int32} : px_VV (f_road σ a b t).2 := by
  unfold f_road
  split
  · exact h
  · rename_i h1
    split
    · exact h
    · rename_i h2
      split
      · exact h
      · rename_i h3
        have ra : rg a 0 7 := Classical.byContradiction (fun q => h1 (Or.inl q))
        have rb : rg b 0 7 := Classical.byContradiction (fun q => h1 (Or.inr q))
        have rt : rg t 0 200 := Classical.byContradiction (fun q => h2 (Or.inr q))
        have hab : a ≠ b := fun q => h2 (Or.inl q)
        have la := ix_le ra (k := 7) rfl
        have lb := ix_le rb (k := 7) rfl
        have ea := ix_eq ra
        have eb := ix_eq rb
        obtain ⟨⟨⟨a1, a2, a3, a4⟩, b1, c, d, e, f, g⟩, u⟩ := h
        have hnr : f_nr (upd (upd (upd (upd σ (9 + 6 * f_nr σ + 0) a) (9 + 6 * f_nr σ + 1) b) (9 + 6 * f_nr σ + 2) t) 8 (σ 8 + 1)) = f_nr σ + 1 := by
          show ix (upd _ 8 _ 8) = _
          rw [upd_eq rfl, a1, nI_succ8 (by omega)]
        have hnc : f_nc (upd (upd (upd (upd σ (9 + 6 * f_nr σ + 0) a) (9 + 6 * f_nr σ + 1) b) (9 + 6 * f_nr σ + 2) t) 8 (σ 8 + 1)) = f_nc σ := by
          rw [nc_upd (by omega), nc_upd (by omega), nc_upd (by omega), nc_upd (by omega)]
        refine ⟨⟨⟨?_, by rw [hnr]; omega, ?_, by rw [hnc]; exact a4⟩, fun r hr' => ?_, fun r j h1 h2 h3 => ?_, fun c' hc' => ?_, fun c' j h1 h2 h3 => ?_, fun t ht => ?_, ?_⟩, fun c' hc' => ?_⟩
        · dsimp only; rw [hnr, upd_eq rfl, a1, nI_1]
        · rw [hnc]; simp only [upd]; (repeat (first | rw [if_pos (by omega)] | rw [if_neg (by omega)] | rw [if_pos (by simp; done)] | rw [if_neg (by simp; done)])); exact a3
        · rw [hnr] at hr'
          by_cases q : r = f_nr σ
          · subst q
            have z := c _ 3 (Nat.le_refl _) (by omega) (by decide)
            refine ⟨ix a, ix b, by omega, by omega, fun q => hab (by rw [ea, eb, q]), ?_, ?_, ?_, ?_⟩
            · simp only [upd]; (repeat (first | rw [if_pos (by omega)] | rw [if_neg (by omega)] | rw [if_pos (by simp; done)] | rw [if_neg (by simp; done)])); exact ea
            · simp only [upd]; (repeat (first | rw [if_pos (by omega)] | rw [if_neg (by omega)] | rw [if_pos (by simp; done)] | rw [if_neg (by simp; done)])); exact eb
            · simp only [upd]; (repeat (first | rw [if_pos (by omega)] | rw [if_neg (by omega)] | rw [if_pos (by simp; done)] | rw [if_neg (by simp; done)])); exact rt
            · simp only [upd]; (repeat (first | rw [if_pos (by omega)] | rw [if_neg (by omega)] | rw [if_pos (by simp; done)] | rw [if_neg (by simp; done)])); rw [z]; decide
          · simp only [upd]; (repeat (first | rw [if_pos (by omega)] | rw [if_neg (by omega)] | rw [if_pos (by simp; done)] | rw [if_neg (by simp; done)])); exact b1 r (by omega)
        · rw [hnr] at h1
          simp only [upd]; (repeat (first | rw [if_pos (by omega)] | rw [if_neg (by omega)] | rw [if_pos (by simp; done)] | rw [if_neg (by simp; done)])); exact c r j (by omega) h2 h3
        · rw [hnc] at hc'
          simp only [upd]; (repeat (first | rw [if_pos (by omega)] | rw [if_neg (by omega)] | rw [if_pos (by simp; done)] | rw [if_neg (by simp; done)])); exact d c' hc'
        · rw [hnc] at h1
          simp only [upd]; (repeat (first | rw [if_pos (by omega)] | rw [if_neg (by omega)] | rw [if_pos (by simp; done)] | rw [if_neg (by simp; done)])); exact e c' j h1 h2 h3
        · simp only [upd]; (repeat (first | rw [if_pos (by omega)] | rw [if_neg (by omega)] | rw [if_pos (by simp; done)] | rw [if_neg (by simp; done)])); exact f t ht
        · simp only [upd]; (repeat (first | rw [if_pos (by omega)] | rw [if_neg (by omega)] | rw [if_pos (by simp; done)] | rw [if_neg (by simp; done)])); exact g
        · rw [hnc] at hc'
          simp only [upd]; (repeat (first | rw [if_pos (by omega)] | rw [if_neg (by omega)] | rw [if_pos (by simp; done)] | rw [if_neg (by simp; done)])); exact u c' hc'
theorem V_addcart (h : px_VV σ) {a b : Int32} : px_VV (f_cart σ a b).2 := by
  unfold f_cart
  split
  · exact h
  · rename_i h1
    split
    · exact h
    · rename_i h2
      split
      · exact h
      · rename_i h3
        have ra : rg a 0 7 := Classical.byContradiction h1
        have rb : rg b 0 99999 := Classical.byContradiction h2
        have la := ix_le ra (k := 7) rfl
        have ea := ix_eq ra
        obtain ⟨⟨⟨a1, a2, a3, a4⟩, b1, c, d, e, f, g⟩, u⟩ := h
        have hnc : f_nc (upd (upd (upd (upd σ (94 + 8 * f_nc σ + 0) a) (94 + 8 * f_nc σ + 1) b) 150 (σ 150 + b)) 93 (σ 93 + 1)) = f_nc σ + 1 := by
          show ix (upd _ 93 _ 93) = _
          rw [upd_eq rfl, a3, nI_succ8 (by omega)]
        have hnr : f_nr (upd (upd (upd (upd σ (94 + 8 * f_nc σ + 0) a) (94 + 8 * f_nc σ + 1) b) 150 (σ 150 + b)) 93 (σ 93 + 1)) = f_nr σ := by
          rw [nr_upd (by omega), nr_upd (by omega), nr_upd (by omega), nr_upd (by omega)]
        refine ⟨⟨⟨?_, by rw [hnr]; exact a2, ?_, by rw [hnc]; omega⟩, fun r hr' => ?_, fun r j h1 h2 h3 => ?_, fun c' hc' => ?_, fun c' j h1 h2 h3 => ?_, fun t ht => ?_, ?_⟩, fun c' hc' => ?_⟩
        · rw [hnr]; simp only [upd]; (repeat (first | rw [if_pos (by omega)] | rw [if_neg (by omega)] | rw [if_pos (by simp; done)] | rw [if_neg (by simp; done)])); exact a1
        · dsimp only; rw [hnc, upd_eq rfl, a3, nI_1]
        · rw [hnr] at hr'
          simp only [upd]; (repeat (first | rw [if_pos (by omega)] | rw [if_neg (by omega)] | rw [if_pos (by simp; done)] | rw [if_neg (by simp; done)])); exact b1 r (by omega)
        · rw [hnr] at h1
          simp only [upd]; (repeat (first | rw [if_pos (by omega)] | rw [if_neg (by omega)] | rw [if_pos (by simp; done)] | rw [if_neg (by simp; done)])); exact c r j (by omega) h2 h3
        · rw [hnc] at hc'
          by_cases q : c' = f_nc σ
          · subst q
            have z := e _ 2 (Nat.le_refl _) (by omega) (by decide)
            refine ⟨⟨ix a, by omega, ?_⟩, ?_⟩
            · simp only [upd]; (repeat (first | rw [if_pos (by omega)] | rw [if_neg (by omega)] | rw [if_pos (by simp; done)] | rw [if_neg (by simp; done)])); exact ea
            · simp only [upd]; (repeat (first | rw [if_pos (by omega)] | rw [if_neg (by omega)] | rw [if_pos (by simp; done)] | rw [if_neg (by simp; done)])); rw [z]; decide
          · simp only [upd]; (repeat (first | rw [if_pos (by omega)] | rw [if_neg (by omega)] | rw [if_pos (by simp; done)] | rw [if_neg (by simp; done)])); exact d c' (by omega)
        · rw [hnc] at h1
          simp only [upd]; (repeat (first | rw [if_pos (by omega)] | rw [if_neg (by omega)] | rw [if_pos (by simp; done)] | rw [if_neg (by simp; done)])); exact e c' j (by omega) h2 h3
        · simp only [upd]; (repeat (first | rw [if_pos (by omega)] | rw [if_neg (by omega)] | rw [if_pos (by simp; done)] | rw [if_neg (by simp; done)])); exact f t ht
        · simp only [upd]; (repeat (first | rw [if_pos (by omega)] | rw [if_neg (by omega)] | rw [if_pos (by simp; done)] | rw [if_neg (by simp; done)])); exact g
        · rw [hnc] at hc'
          by_cases q : c' = f_nc σ
          · subst q
            simp only [upd]; (repeat (first | rw [if_pos (by omega)] | rw [if_neg (by omega)] | rw [if_pos (by simp; done)] | rw [if_neg (by simp; done)])); exact rb
          · simp only [upd]; (repeat (first | rw [if_pos (by omega)] | rw [if_neg (by omega)] | rw [if_pos (by simp; done)] | rw [if_neg (by simp; done)])); exact u c' (by omega)
theorem V_sneak (h : px_VV σ) {c r : Nat} (hc : c < f_nc σ) : px_VV (f_sneak σ c r).2 ∧ f_nc (f_sneak σ c r).2 = f_nc σ ∧ f_nr (f_sneak σ c r).2 = f_nr σ ∧ ∀ j, (f_sneak σ c r).2 (9 + 6 * r + j) = σ (9 + 6 * r + j) ∨ 6 ≤ j ∨ 14 ≤ r := by
  have c1 := h.2 _ hc
  have c2 := (h.1.2.2.2.1 _ hc).2
  have g1 := h.1.2.2.2.2.2.2.1
  unfold f_sneak
  dsimp only
  split
  · exact ⟨V_num h (by omega), nc_upd (by omega), nr_upd (by omega), fun j => by by_cases q : j < 6 ∧ r < 14; exact Or.inl (upd_ne (by omega)); omega⟩
  · have hfi : rg (σ (94 + 8 * c + 1) - f_fine σ c) 0 99999 := by
      unfold f_fine f_mn
      generalize hx1 : σ (94 + 8 * c + 1) = x1 at *
      generalize hx2 : σ (94 + 8 * c + 2) = x2 at *
      generalize hx3 : σ 142 = x3 at *
      rw [rg_ti] at c1 c2 g1
      simp only [show (0 : Int32).toInt = 0 from rfl, show (99 : Int32).toInt = 99 from rfl, show (500 : Int32).toInt = 500 from rfl, show (99999 : Int32).toInt = 99999 from rfl] at c1 c2 g1
      have hm1 : 0 ≤ x3.toInt * x2.toInt := Int.mul_nonneg (by omega) (by omega)
      have hm2 : x3.toInt * x2.toInt ≤ 500 * 99 := Int.mul_le_mul (by omega) (by omega) (by omega) (by omega)
      have em : (x3 * x2).toInt = x3.toInt * x2.toInt := i32_mul (by omega) (by omega)
      split
      · rename_i q
        rw [Int32.lt_iff_toInt_lt] at q
        rw [rg_ti, i32_sub (by omega) (by omega), show (0 : Int32).toInt = 0 from rfl, show (99999 : Int32).toInt = 99999 from rfl]
        omega
      · rw [rg_ti, i32_sub (by omega) (by omega), show (0 : Int32).toInt = 0 from rfl, show (99999 : Int32).toInt = 99999 from rfl]
        omega
    refine ⟨V_num (V_cart (V_cart (V_cart (V_cart (V_num h (by omega)) (by rw [nc_upd (by omega)]; exact hc) (by decide) (fun q => by omega) (fun q => by omega) (fun _ => by decide)) (by rw [nc_upd (by omega), nc_upd (by omega)]; exact hc) (by decide) (fun q => by omega) (fun _ => hfi) (fun q => by omega)) (by rw [nc_upd (by omega), nc_upd (by omega), nc_upd (by omega)]; exact hc) (by decide) (fun q => by omega) (fun q => by omega) (fun q => by omega)) (by rw [nc_upd (by omega), nc_upd (by omega), nc_upd (by omega), nc_upd (by omega)]; exact hc) (by decide) (fun q => by omega) (fun q => by omega) (fun q => by omega)) (by omega), ?_, ?_, fun j => ?_⟩
    · rw [nc_upd (by omega), nc_upd (by omega), nc_upd (by omega), nc_upd (by omega), nc_upd (by omega), nc_upd (by omega)]
    · rw [nr_upd (by omega), nr_upd (by omega), nr_upd (by omega), nr_upd (by omega), nr_upd (by omega), nr_upd (by omega)]
    · by_cases q : j < 6 ∧ r < 14
      · refine Or.inl ?_
        simp only [upd]; (repeat (first | rw [if_pos (by omega)] | rw [if_neg (by omega)] | rw [if_pos (by simp; done)] | rw [if_neg (by simp; done)]))
      · omega
theorem V_go (h : px_VV σ) {a b w : Int32} : px_VV (f_go σ a b w).2 := by
  unfold f_go
  dsimp only
  split
  · exact h
  · rename_i h1
    split
    · exact h
    · rename_i h2
      split
      · exact h
      · rename_i h3
        obtain ⟨-, hl, h6⟩ := ct_lt h.1 (Classical.byContradiction (fun q => h1 (Or.inl q)))
        obtain ⟨-, hl2, h14⟩ := rd_lt h.1 (Classical.byContradiction (fun q => h1 (Or.inr q)))
        have hfar : ∃ t, t < 8 ∧ f_far σ (ix b) (σ (94 + 8 * ix a + 0)) = nI t := by
          obtain ⟨x, y, q1, q2, -, q4, q5, -⟩ := h.1.2.1 _ hl2
          unfold f_far
          split
          · exact ⟨y, q2, q5⟩
          · exact ⟨x, q1, q4⟩
        have c1 := h.2 _ hl
        have c2 := (h.1.2.2.2.1 _ hl).2
        obtain ⟨-, -, -, -, -, -, -, rt, -⟩ := h.1.2.1 _ hl2
        split
        · exact h
        · rename_i h4
          split
          · rename_i h5
            refine V_road (V_cart (V_cart (V_cart h hl (by decide) (fun q => by omega) (fun _ => ?_) (fun q => by omega)) (by rw [nc_upd (by omega)]; exact hl) (by decide) (fun q => by omega) (fun q => by omega) (fun q => by omega)) (by rw [nc_upd (by omega), nc_upd (by omega)]; exact hl) (by decide) (fun _ => hfar) (fun q => by omega) (fun q => by omega)) (by rw [nr_upd (by omega), nr_upd (by omega), nr_upd (by omega)]; exact hl2) (by decide) (fun q => by omega) (fun q => by omega)
            have h4' : ¬ σ (94 + 8 * ix a + 1) < σ (9 + 6 * ix b + 2) * σ (94 + 8 * ix a + 2) := fun q => h4 ⟨h5, q⟩
            generalize hx1 : σ (94 + 8 * ix a + 1) = x1 at *
            generalize hx2 : σ (94 + 8 * ix a + 2) = x2 at *
            generalize hx3 : σ (9 + 6 * ix b + 2) = x3 at *
            rw [rg_ti] at c1 c2 rt
            rw [Int32.lt_iff_toInt_lt] at h4'
            simp only [show (0 : Int32).toInt = 0 from rfl, show (99 : Int32).toInt = 99 from rfl, show (200 : Int32).toInt = 200 from rfl, show (99999 : Int32).toInt = 99999 from rfl] at c1 c2 rt
            have hm1 : 0 ≤ x3.toInt * x2.toInt := Int.mul_nonneg (by omega) (by omega)
            have hm2 : x3.toInt * x2.toInt ≤ 200 * 99 := Int.mul_le_mul (by omega) (by omega) (by omega) (by omega)
            have em : (x3 * x2).toInt = x3.toInt * x2.toInt := i32_mul (by omega) (by omega)
            rw [rg_ti, i32_sub (by omega) (by omega), show (0 : Int32).toInt = 0 from rfl, show (99999 : Int32).toInt = 99999 from rfl]
            omega
          · split
            · obtain ⟨v1, v2, v3, -⟩ := V_sneak (r := ix b) h hl
              exact V_road (V_cart v1 (by omega) (by decide) (fun _ => hfar) (fun q => by omega) (fun q => by omega)) (by rw [nr_upd (by omega), v3]; exact hl2) (by decide) (fun q => by omega) (fun q => by omega)
            · exact V_road (V_cart h hl (by decide) (fun _ => hfar) (fun q => by omega) (fun q => by omega)) (by rw [nr_upd (by omega)]; exact hl2) (by decide) (fun q => by omega) (fun q => by omega)
end VE
