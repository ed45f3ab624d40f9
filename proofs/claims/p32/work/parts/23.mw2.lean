section MW2
variable {l : Launch} {G : px_G} {T : px_T} {I : px_I} {J : px_J} {R : px_R} {μ : px_M} {m : Nat} {σ : px_s}
abbrev f_pays (σ : px_s) (t : Nat) : Prop := f_w σ 1 (ix (σ 144)) t < f_w σ 0 (ix (σ 144)) t
def f_pt (σ : px_s) : Nat → Int32
  | 0 => 0
  | t + 1 => f_pt σ t ||| (if f_pays σ t then 1 <<< (nI t &&& 31) else 0)
theorem legs_of (hV : px_V σ) : σ 144 = nI (ix (σ 144)) ∧ 1 ≤ ix (σ 144) ∧ ix (σ 144) ≤ 4 := by
  have h := hV.2.2.2.2.2.2.2.2.1
  rw [rg_ti] at h
  rw [show (1 : Int32).toInt = 1 from rfl, show (4 : Int32).toInt = 4 from rfl] at h
  have h0 : rg (σ 144) 0 4 := by rw [rg_ti, show (0 : Int32).toInt = 0 from rfl, show (4 : Int32).toInt = 4 from rfl]; omega
  have := ix_ti (v := σ 144) (by omega)
  exact ⟨ix_eq h0, by omega, by omega⟩
def f_wo (σ : px_s) (t g o : Int32) : Int64 := if ¬ rg t 0 7 then -1 else if rg g 0 4 ∧ rg o 0 1 then f_w σ (if o = 1 then 1 else 0) (ix g) (ix t) else -2
theorem tb_out {x : Int32} {n : Nat} (h : ∀ k, k < n → x ≠ nI k) (hn : n < 100) : x.toInt < 0 ∨ ((n : Int) - 1) < x.toInt := by
  refine Classical.byContradiction (fun q => ?_)
  have h1 := ix_ti (v := x) (by omega)
  exact h (ix x) (by omega) (ix_eq (hi := nI n - 1) (by rw [rg_ti, m1_ti (by omega), show (0 : Int32).toInt = 0 from rfl]; omega))
def f_ot (σ : px_s) (t w : Int32) : Int32 := if ¬ rg t 0 7 then -1 else if w = 0 then σ (ix t) else if w = 1 then f_ra σ t else if w = 2 then f_ca σ t else if w = 3 then (if f_pays σ (ix t) then 1 else 0) else -2
def f_hb (σ : px_s) (r k : Nat) : Int32 := if σ (ix (σ (9 + 6 * r + (1 - k)))) ≤ f_ma σ r (σ (ix (σ (9 + 6 * r + k)))) then 1 else 0
theorem f_hb1 {r k : Nat} (h : f_hon σ r k) : f_hb σ r k = 1 := if_pos h
theorem f_hb0 {r k : Nat} (h : ¬ f_hon σ r k) : f_hb σ r k = 0 := if_neg h
def f_or (σ : px_s) (a b : Int32) : Int32 := if ¬ rg a 0 (σ 8 - 1) then -1 else if b = 0 then σ (9 + 6 * ix a + 0) else if b = 1 then σ (9 + 6 * ix a + 1) else if b = 2 then σ (9 + 6 * ix a + 2) else if b = 3 then σ (9 + 6 * ix a + 3) else if b = 4 then f_cr σ (ix a) else if b = 5 then f_hb σ (ix a) 0 else if b = 6 then f_hb σ (ix a) 1 else if b = 7 then σ (9 + 6 * ix a + 4) else if b = 8 then σ (9 + 6 * ix a + 5) else -2
/-- all honest, of the first so many roads -/
def f_ah (σ : px_s) : Nat → Int32
  | 0 => 1
  | r + 1 => if f_hb σ r 0 = 1 ∧ f_hb σ r 1 = 1 then f_ah σ r else 0
theorem f_ah1 (n : Nat) (h : ∀ r, r < n → f_hon σ r 0 ∧ f_hon σ r 1) : f_ah σ n = 1 := by
  induction n with
  | zero => rfl
  | succ n ih =>
    obtain ⟨a, b⟩ := h n (Nat.lt_succ_self n)
    rw [f_ah, if_pos ⟨f_hb1 a, f_hb1 b⟩]
    exact ih (fun r hr => h r (by omega))
theorem f_ah0 (n : Nat) {r : Nat} (hr : r < n) (h : ¬ (f_hon σ r 0 ∧ f_hon σ r 1)) : f_ah σ n = 0 := by
  induction n with
  | zero => exact absurd hr (by omega)
  | succ n ih =>
    rw [f_ah]
    split
    · rename_i q
      rcases (by omega : r < n ∨ r = n) with z | rfl
      · exact ih z
      · refine absurd ⟨?_, ?_⟩ h
        · exact Classical.byContradiction (fun y => absurd q.1 (by rw [f_hb0 y]; decide))
        · exact Classical.byContradiction (fun y => absurd q.2 (by rw [f_hb0 y]; decide))
    · rfl
theorem f_ahd {d : Int32} (hV : px_V σ) (h : f_dis σ 0 d) : (if d = -6 then 1 else 0 : Int32) = f_ah σ (f_nr σ) := by
  rcases h with ⟨rfl, g⟩ | ⟨q, hq, rfl, g⟩
  · rw [if_pos rfl, f_ah1]
    intro r hr
    have g0 := g (2 * r) (by omega) (by omega)
    have g1 := g (2 * r + 1) (by omega) (by omega)
    rw [show 2 * r / 2 = r by omega, show 2 * r % 2 = 0 by omega] at g0
    rw [show (2 * r + 1) / 2 = r by omega, show (2 * r + 1) % 2 = 1 by omega] at g1
    exact ⟨g0, g1⟩
  · have h14 := hV.1.2.1
    rw [if_neg (fun z => absurd (show (nI q).toInt = (-6 : Int32).toInt by rw [z]) (by rw [nI_ti (by omega), show (-6 : Int32).toInt = -6 from rfl]; omega)), f_ah0 (r := q / 2) _ (by omega)]
    rintro ⟨y0, y1⟩
    rcases (by omega : q % 2 = 0 ∨ q % 2 = 1) with z | z <;> rw [z] at g
    · exact g y0
    · exact g y1
def f_cnt (A : px_a) (w : Int32) : Int32 := if w = 0 then A.1 8 else if w = 1 then A.1 93 else if w = 2 then f_gs A.1 else if w = 3 then f_cs A.1 2 else if w = 4 then A.1 147 else if w = 5 then A.1 148 else if w = 6 then A.1 149 else if w = 7 then f_ah A.1 (f_nr A.1) else if w = 8 then f_pt A.1 8 else if w = 9 then f_cs A.1 1 else if w = 10 then A.1 150 else if w = 11 then A.1 146 else if w = 12 then A.1 142 else if w = 13 then A.1 143 else if w = 14 then A.1 144 else if w = 15 then A.1 145 else if w = 16 then nI A.2.2.2.1 else if w = 17 then nI A.2.1.1 else -2
end MW2
