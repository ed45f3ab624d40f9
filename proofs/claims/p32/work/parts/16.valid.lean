/-! every change keeps the states that come about -/
section VD
theorem i32_bm {z : Int} (h1 : -2147483648 ≤ z) (h2 : z < 2147483648) : z.bmod (2 ^ 32) = z := by
  rw [Int.bmod_eq_of_le] <;> omega
theorem i32_add {x y : Int32} (h1 : -2147483648 ≤ x.toInt + y.toInt) (h2 : x.toInt + y.toInt < 2147483648) : (x + y).toInt = x.toInt + y.toInt := by
  rw [Int32.toInt_add]; exact i32_bm h1 h2
theorem i32_sub {x y : Int32} (h1 : -2147483648 ≤ x.toInt - y.toInt) (h2 : x.toInt - y.toInt < 2147483648) : (x - y).toInt = x.toInt - y.toInt := by
  rw [Int32.toInt_sub]; exact i32_bm h1 h2
theorem i32_mul {x y : Int32} (h1 : -2147483648 ≤ x.toInt * y.toInt) (h2 : x.toInt * y.toInt < 2147483648) : (x * y).toInt = x.toInt * y.toInt := by
  rw [Int32.toInt_mul]; exact i32_bm h1 h2
def px_VV (σ : px_s) : Prop := px_V σ ∧ ∀ c, c < f_nc σ → rg (σ (94 + 8 * c + 1)) 0 99999
variable {σ : px_s}
theorem V_upd (h : px_VV σ) {k : Nat} {v : Int32} (h8 : k ≠ 8) (h93 : k ≠ 93)
    (hr : ∀ r, r < f_nr σ → (k ≠ 9 + 6 * r + 0 ∧ k ≠ 9 + 6 * r + 1) ∧ (k = 9 + 6 * r + 2 → rg v 0 200) ∧ (k = 9 + 6 * r + 3 → rg v 0 40))
    (hr2 : ∀ r j, f_nr σ ≤ r → r < 14 → j < 6 → k ≠ 9 + 6 * r + j)
    (hc : ∀ c, c < f_nc σ → (k = 94 + 8 * c + 0 → ∃ t, t < 8 ∧ v = nI t) ∧ (k = 94 + 8 * c + 1 → rg v 0 99999) ∧ (k = 94 + 8 * c + 2 → rg v 0 99))
    (hc2 : ∀ c j, f_nc σ ≤ c → c < 6 → j < 8 → k ≠ 94 + 8 * c + j)
    (hp : k < 8 → rg v 1 999) (hs : (k = 142 → rg v 0 500) ∧ (k = 143 → rg v 1 30) ∧ (k = 144 → rg v 1 4) ∧ (k = 145 → rg v 0 40)) : px_VV (upd σ k v) := by
  obtain ⟨⟨⟨a1, a2, a3, a4⟩, b, c, d, e, f, g1, g2, g3, g4⟩, u⟩ := h
  have n1 : f_nr (upd σ k v) = f_nr σ := nr_upd h8
  have n2 : f_nc (upd σ k v) = f_nc σ := nc_upd h93
  have q : ∀ (i : Nat) (P : Int32 → Prop), P (σ i) → (k = i → P v) → P (upd σ k v i) := fun i P h1 h2 => by
    by_cases hi : i = k
    · rw [upd_eq hi]; exact h2 hi.symm
    · rw [upd_ne hi]; exact h1
  refine ⟨⟨⟨by rw [n1, upd_ne (Ne.symm h8)]; exact a1, by rw [n1]; exact a2, by rw [n2, upd_ne (Ne.symm h93)]; exact a3, by rw [n2]; exact a4⟩, fun r hr' => ?_, fun r j h1 h2 h3 => ?_, fun c' hc' => ?_, fun c' j h1 h2 h3 => ?_, fun t ht => ?_, ?_, ?_, ?_, ?_⟩, fun c' hc' => ?_⟩
  · rw [n1] at hr'
    obtain ⟨x, y, q1, q2, q3, q4, q5, q6, q7⟩ := b r hr'
    obtain ⟨⟨r1, r2⟩, r3, r4⟩ := hr r hr'
    exact ⟨x, y, q1, q2, q3, by rw [upd_ne (Ne.symm r1)]; exact q4, by rw [upd_ne (Ne.symm r2)]; exact q5, q _ (fun z => rg z 0 200) q6 r3, q _ (fun z => rg z 0 40) q7 r4⟩
  · rw [n1] at h1
    rw [upd_ne (Ne.symm (hr2 r j h1 h2 h3))]; exact c r j h1 h2 h3
  · rw [n2] at hc'
    exact ⟨q _ (fun z => ∃ t, t < 8 ∧ z = nI t) (d c' hc').1 (hc c' hc').1, q _ (fun z => rg z 0 99) (d c' hc').2 (hc c' hc').2.2⟩
  · rw [n2] at h1
    rw [upd_ne (Ne.symm (hc2 c' j h1 h2 h3))]; exact e c' j h1 h2 h3
  · exact q _ (fun z => rg z 1 999) (f t ht) (fun z => hp (by omega))
  · exact q _ (fun z => rg z 0 500) g1 hs.1
  · exact q _ (fun z => rg z 1 30) g2 hs.2.1
  · exact q _ (fun z => rg z 1 4) g3 hs.2.2.1
  · exact q _ (fun z => rg z 0 40) g4 hs.2.2.2
  · rw [n2] at hc'
    exact q _ (fun z => rg z 0 99999) (u c' hc') (hc c' hc').2.1
theorem V_num (h : px_VV σ) {k : Nat} {v : Int32} (hk : 146 ≤ k) : px_VV (upd σ k v) := by
  have a := h.1.1.2.1
  have b := h.1.1.2.2.2
  exact V_upd h (by omega) (by omega) (fun r hr => ⟨⟨by omega, by omega⟩, fun q => by omega, fun q => by omega⟩) (fun r j _ _ _ => by omega) (fun c hc => ⟨fun q => by omega, fun q => by omega, fun q => by omega⟩) (fun c j _ _ _ => by omega) (fun q => by omega) ⟨fun q => by omega, fun q => by omega, fun q => by omega, fun q => by omega⟩
theorem V_price (h : px_VV σ) {k : Nat} {v : Int32} (hk : k < 8) (hv : rg v 1 999) : px_VV (upd σ k v) := by
  have a := h.1.1.2.1
  have b := h.1.1.2.2.2
  exact V_upd h (by omega) (by omega) (fun r hr => ⟨⟨by omega, by omega⟩, fun q => by omega, fun q => by omega⟩) (fun r j _ _ _ => by omega) (fun c hc => ⟨fun q => by omega, fun q => by omega, fun q => by omega⟩) (fun c j _ _ _ => by omega) (fun q => hv) ⟨fun q => by omega, fun q => by omega, fun q => by omega, fun q => by omega⟩
theorem V_road (h : px_VV σ) {r j : Nat} {v : Int32} (hr : r < f_nr σ) (hj : 2 ≤ j ∧ j < 6) (h2 : j = 2 → rg v 0 200) (h3 : j = 3 → rg v 0 40) : px_VV (upd σ (9 + 6 * r + j) v) := by
  have a := h.1.1.2.1
  have b := h.1.1.2.2.2
  exact V_upd h (by omega) (by omega) (fun r' hr' => ⟨⟨by omega, by omega⟩, fun q => h2 (by omega), fun q => h3 (by omega)⟩) (fun r' j' _ _ _ => by omega) (fun c hc => ⟨fun q => by omega, fun q => by omega, fun q => by omega⟩) (fun c j _ _ _ => by omega) (fun q => by omega) ⟨fun q => by omega, fun q => by omega, fun q => by omega, fun q => by omega⟩
theorem V_cart (h : px_VV σ) {c j : Nat} {v : Int32} (hc : c < f_nc σ) (hj : j < 8) (h0 : j = 0 → ∃ t, t < 8 ∧ v = nI t) (h1 : j = 1 → rg v 0 99999) (h2 : j = 2 → rg v 0 99) : px_VV (upd σ (94 + 8 * c + j) v) := by
  have a := h.1.1.2.1
  have b := h.1.1.2.2.2
  exact V_upd h (by omega) (by omega) (fun r' hr' => ⟨⟨by omega, by omega⟩, fun q => by omega, fun q => by omega⟩) (fun r' j' _ _ _ => by omega) (fun c' hc' => ⟨fun q => h0 (by omega), fun q => h1 (by omega), fun q => h2 (by omega)⟩) (fun c j _ _ _ => by omega) (fun q => by omega) ⟨fun q => by omega, fun q => by omega, fun q => by omega, fun q => by omega⟩
theorem V_set (h : px_VV σ) {a b : Int32} : px_VV (f_set σ a b).2 := by
  have n1 := h.1.1.2.1
  have n2 := h.1.1.2.2.2
  unfold f_set
  split
  · exact h
  · rename_i ha
    split
    · exact h
    · rename_i hb
      split
      · exact h
      · have hr : rg a 0 3 := Classical.byContradiction ha
        have hb' : rg b (f_lo a) (f_hi a) := Classical.byContradiction hb
        have e := ix_eq hr
        have hl := ix_le hr (k := 3) rfl
        refine V_upd h (by omega) (by omega) (fun r hr => ⟨⟨by omega, by omega⟩, fun q => by omega, fun q => by omega⟩) (fun r j _ _ _ => by omega) (fun c hc => ⟨fun q => by omega, fun q => by omega, fun q => by omega⟩) (fun c j _ _ _ => by omega) (fun q => by omega) ⟨fun q => ?_, fun q => ?_, fun q => ?_, fun q => ?_⟩
        · rw [show ix a = 0 by omega] at e; subst e; exact hb'
        · rw [show ix a = 1 by omega] at e; subst e; exact hb'
        · rw [show ix a = 2 by omega] at e; subst e; exact hb'
        · rw [show ix a = 3 by omega] at e; subst e; exact hb'
theorem V_fprice (h : px_VV σ) {a b : Int32} : px_VV (f_price σ a b).2 := by
  unfold f_price
  split
  · exact h
  · rename_i ha
    split
    · exact h
    · rename_i hb
      have hl := ix_le (Classical.byContradiction ha : rg a 0 7) (k := 7) rfl
      exact V_price h (by omega) (Classical.byContradiction hb)
theorem V_guard (h : px_VV σ) {a b : Int32} : px_VV (f_guard σ a b).2 := by
  unfold f_guard
  split
  · exact h
  · rename_i ha
    split
    · exact h
    · rename_i hb
      split
      · exact h
      · obtain ⟨-, hl, -⟩ := rd_lt h.1 (Classical.byContradiction ha)
        exact V_road h hl (by decide) (fun q => by omega) (fun _ => Classical.byContradiction hb)
theorem V_toll (h : px_VV σ) {a b : Int32} : px_VV (f_toll σ a b).2 := by
  unfold f_toll
  split
  · exact h
  · rename_i ha
    split
    · exact h
    · rename_i hb
      obtain ⟨-, hl, -⟩ := rd_lt h.1 (Classical.byContradiction ha)
      exact V_road h hl (by decide) (fun _ => Classical.byContradiction hb) (fun q => by omega)
theorem rg_ti {v a b : Int32} : rg v a b ↔ a.toInt ≤ v.toInt ∧ v.toInt ≤ b.toInt := by
  unfold rg
  rw [Int32.lt_iff_toInt_lt, Int32.lt_iff_toInt_lt]
  omega
theorem V_buy (h : px_VV σ) {a b : Int32} : px_VV (f_buy σ a b).2 := by
  unfold f_buy
  dsimp only
  split
  · exact h
  · rename_i ha
    split
    · exact h
    · rename_i hb
      split
      · exact h
      · rename_i hcost
        split
        · exact h
        · rename_i hs
          obtain ⟨-, hl, h6⟩ := ct_lt h.1 (Classical.byContradiction ha)
          have hb' : rg b 1 99 := Classical.byContradiction hb
          have c1 := h.2 _ hl
          have c2 := (h.1.2.2.2.1 _ hl).2
          obtain ⟨-, t2⟩ := town_lt h.1 hl
          have hp := h.1.2.2.2.2.2.1 _ t2
          generalize σ (ix (σ (94 + 8 * ix a + 0))) = p at *
          generalize hx1 : σ (94 + 8 * ix a + 1) = x1 at *
          generalize hx2 : σ (94 + 8 * ix a + 2) = x2 at *
          rw [rg_ti] at c1 c2 hp hb'
          rw [Int32.lt_iff_toInt_lt] at hcost hs
          simp only [show (1 : Int32).toInt = 1 from rfl, show (0 : Int32).toInt = 0 from rfl, show (99 : Int32).toInt = 99 from rfl, show (999 : Int32).toInt = 999 from rfl, show (99999 : Int32).toInt = 99999 from rfl] at c1 c2 hp hb' hs
          have hm1 : 0 ≤ b.toInt * p.toInt := Int.mul_nonneg (by omega) (by omega)
          have hm2 : b.toInt * p.toInt ≤ 99 * 999 := Int.mul_le_mul (by omega) (by omega) (by omega) (by omega)
          have em : (b * p).toInt = b.toInt * p.toInt := i32_mul (by omega) (by omega)
          have es : (x2 + b).toInt = x2.toInt + b.toInt := i32_add (by omega) (by omega)
          have ed : (x1 - b * p).toInt = x1.toInt - (b * p).toInt := i32_sub (by omega) (by omega)
          refine V_num (V_cart (V_cart (V_cart h hl (by decide) (fun q => by omega) (fun _ => ?_) (fun q => by omega)) (by rw [nc_upd (by omega)]; exact hl) (by decide) (fun q => by omega) (fun q => by omega) (fun _ => ?_)) (by rw [nc_upd (by omega), nc_upd (by omega)]; exact hl) (by decide) (fun q => by omega) (fun q => by omega) (fun q => by omega)) (by omega)
          · rw [rg_ti, ed, em, show (0 : Int32).toInt = 0 from rfl, show (99999 : Int32).toInt = 99999 from rfl]
            rw [em] at hcost
            omega
          · rw [rg_ti, es, show (0 : Int32).toInt = 0 from rfl, show (99 : Int32).toInt = 99 from rfl]
            rw [es] at hs
            omega
end VD
