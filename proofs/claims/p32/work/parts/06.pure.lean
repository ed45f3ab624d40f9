/-! the pure state: 151 numbers, as the model keeps them; what each change answers and makes of it -/
abbrev px_s : Type := Nat → Int32
def ix (v : Int32) : Nat := v.toNatClampNeg
abbrev rg (v a b : Int32) : Prop := ¬ (v < a ∨ b < v)
theorem ix_nI {n : Nat} (h : n < 2 ^ 31) : ix (nI n) = n := nI_clamp h
theorem nI_ti {n : Nat} (h : n < 2 ^ 31) : (nI n).toInt = n := nI_toInt h
theorem rg_of {v hi : Int32} (h : rg v 0 hi) : 0 ≤ v.toInt ∧ v.toInt ≤ hi.toInt := by
  have h1 : ¬ v < 0 := fun q => h (Or.inl q)
  have h2 : ¬ hi < v := fun q => h (Or.inr q)
  rw [Int32.lt_iff_toInt_lt] at h1 h2
  rw [show (0 : Int32).toInt = 0 from rfl] at h1
  omega
theorem ix_eq {v hi : Int32} (h : rg v 0 hi) : v = nI (ix v) := by
  obtain ⟨h1, -⟩ := rg_of h
  obtain ⟨j, h2, rfl⟩ := nI_of (x := v) (by rw [Int32.lt_iff_toInt_lt, show (0 : Int32).toInt = 0 from rfl]; omega)
  rw [ix_nI h2]
theorem ix_ti {v : Int32} (h : 0 ≤ v.toInt) : (ix v : Int) = v.toInt := by
  unfold ix Int32.toNatClampNeg
  omega
theorem ix_le {v hi : Int32} (h : rg v 0 hi) {k : Nat} (e : hi.toInt = k) : ix v ≤ k := by
  obtain ⟨h1, h2⟩ := rg_of h
  have := ix_ti h1
  omega
theorem m1_ti {n : Nat} (h : n < 2 ^ 30) : (nI n - 1).toInt = (n : Int) - 1 := by
  have := pk_sub_toInt (a := n) (b := 1) h (by omega)
  exact this
theorem ix_ltn {v : Int32} {n : Nat} (h : rg v 0 (nI n - 1)) (hn : n < 1000) : ix v < n := by
  obtain ⟨h1, h2⟩ := rg_of h
  have := ix_ti h1
  rw [m1_ti (by omega)] at h2
  omega
theorem rg_nI {r n : Nat} (h : r < n) (hn : n < 1000) : rg (nI r) 0 (nI n - 1) := by
  rintro (q | q)
  · rw [Int32.lt_iff_toInt_lt, nI_ti (by omega), show (0 : Int32).toInt = 0 from rfl] at q; omega
  · rw [Int32.lt_iff_toInt_lt, nI_ti (by omega), m1_ti (by omega)] at q; omega
/-- sums over the first so many -/
def f_sm (f : Nat → Int32) : Nat → Int32
  | 0 => 0
  | n + 1 => f_sm f n + f n
def f_nr (σ : px_s) : Nat := ix (σ 8)
def f_nc (σ : px_s) : Nat := ix (σ 93)
def f_gs (σ : px_s) : Int32 := f_sm (fun r => σ (9 + 6 * r + 3)) (f_nr σ)
def f_cs (σ : px_s) (j : Nat) : Int32 := f_sm (fun c => σ (94 + 8 * c + j)) (f_nc σ)
def f_lo (a : Int32) : Int32 := if a = 1 ∨ a = 2 then 1 else 0
def f_hi (a : Int32) : Int32 := if a = 0 then 500 else if a = 1 then 30 else if a = 2 then 4 else 40
def f_ch (σ : px_s) (g : Int32) : Int32 := if σ 143 * g < 90 then σ 143 * g else 90
def f_cr (σ : px_s) (r : Nat) : Int32 := f_ch σ (σ (9 + 6 * r + 3))
def f_mh (σ : px_s) (p c : Int32) : Int32 := (100 * p + c * σ 142) / (100 - c)
def f_mn (a b : Int32) : Int32 := if b < a then b else a
/-- the greatest price at the end of road r, for a price p at its beginning -/
def f_ma (σ : px_s) (r : Nat) (p : Int32) : Int32 := f_mn (p + σ (9 + 6 * r + 2)) (f_mh σ p (f_cr σ r))
def f_set (σ : px_s) (a b : Int32) : Int32 × px_s :=
  if ¬ rg a 0 3 then (-2, σ) else if ¬ rg b (f_lo a) (f_hi a) then (-2, σ) else if a = 3 ∧ b < f_gs σ then (-5, σ) else (σ (142 + ix a), upd σ (142 + ix a) b)
def f_road (σ : px_s) (a b t : Int32) : Int32 × px_s :=
  if ¬ rg a 0 7 ∨ ¬ rg b 0 7 then (-1, σ) else if a = b ∨ ¬ rg t 0 200 then (-2, σ) else if f_nr σ = 14 then (-4, σ) else (σ 8, upd (upd (upd (upd σ (9 + 6 * f_nr σ + 0) a) (9 + 6 * f_nr σ + 1) b) (9 + 6 * f_nr σ + 2) t) 8 (σ 8 + 1))
def f_price (σ : px_s) (a b : Int32) : Int32 × px_s :=
  if ¬ rg a 0 7 then (-1, σ) else if ¬ rg b 1 999 then (-2, σ) else (σ (ix a), upd σ (ix a) b)
def f_guard (σ : px_s) (a b : Int32) : Int32 × px_s :=
  if ¬ rg a 0 (σ 8 - 1) then (-1, σ) else if ¬ rg b 0 40 then (-2, σ) else if σ 145 < f_gs σ - σ (9 + 6 * ix a + 3) + b then (-5, σ) else (σ (9 + 6 * ix a + 3), upd σ (9 + 6 * ix a + 3) b)
def f_toll (σ : px_s) (a b : Int32) : Int32 × px_s :=
  if ¬ rg a 0 (σ 8 - 1) then (-1, σ) else if ¬ rg b 0 200 then (-2, σ) else (σ (9 + 6 * ix a + 2), upd σ (9 + 6 * ix a + 2) b)
def f_cart (σ : px_s) (a b : Int32) : Int32 × px_s :=
  if ¬ rg a 0 7 then (-1, σ) else if ¬ rg b 0 99999 then (-2, σ) else if f_nc σ = 6 then (-4, σ) else (σ 93, upd (upd (upd (upd σ (94 + 8 * f_nc σ + 0) a) (94 + 8 * f_nc σ + 1) b) 150 (σ 150 + b)) 93 (σ 93 + 1))
def f_buy (σ : px_s) (a b : Int32) : Int32 × px_s :=
  let c := 94 + 8 * ix a
  let cost := b * σ (ix (σ (c + 0)))
  if ¬ rg a 0 (σ 93 - 1) then (-1, σ) else if ¬ rg b 1 99 then (-2, σ) else if σ (c + 1) < cost then (-5, σ) else if 99 < σ (c + 2) + b then (-4, σ)
  else (σ (c + 1) - cost, upd (upd (upd (upd σ (c + 1) (σ (c + 1) - cost)) (c + 2) (σ (c + 2) + b)) (c + 3) (σ (c + 3) + cost)) 147 (σ 147 + b))
def f_sell (σ : px_s) (a b : Int32) : Int32 × px_s :=
  let c := 94 + 8 * ix a
  let gain := b * σ (ix (σ (c + 0)))
  if ¬ rg a 0 (σ 93 - 1) then (-1, σ) else if ¬ rg b 1 99 then (-2, σ) else if σ (c + 2) < b then (-5, σ) else if 99999 < σ (c + 1) + gain then (-4, σ)
  else (σ (c + 1) + gain, upd (upd (upd (upd σ (c + 1) (σ (c + 1) + gain)) (c + 2) (σ (c + 2) - b)) (c + 4) (σ (c + 4) + gain)) 148 (σ 148 + b))
def f_x (x : Int32) : Int32 := (75 * x + 74) - (75 * x + 74) / 65537 * 65537
def f_fine (σ : px_s) (c : Nat) : Int32 := f_mn (σ (94 + 8 * c + 1)) (σ 142 * σ (94 + 8 * c + 2))
/-- what of a drawn number counts -/
def f_dr (x : Int32) : Int32 := x / 4 - x / 4 / 100 * 100
/-- a cart with sacks goes hidden -/
def f_sneak (σ : px_s) (c r : Nat) : Int32 × px_s :=
  let σ1 := upd σ 146 (f_x (σ 146))
  if f_cr σ r ≤ f_dr (f_x (σ 146)) then (0, σ1)
  else (σ (94 + 8 * c + 2), upd (upd (upd (upd (upd σ1 (94 + 8 * c + 2) 0) (94 + 8 * c + 1) (σ (94 + 8 * c + 1) - f_fine σ c)) (94 + 8 * c + 6) (σ (94 + 8 * c + 6) + f_fine σ c)) (94 + 8 * c + 7) (σ (94 + 8 * c + 7) + σ (94 + 8 * c + 2))) 149 (σ 149 + σ (94 + 8 * c + 2)))
def f_far (σ : px_s) (r : Nat) (t : Int32) : Int32 := if σ (9 + 6 * r + 0) = t then σ (9 + 6 * r + 1) else σ (9 + 6 * r + 0)
abbrev f_at (σ : px_s) (r : Nat) (t : Int32) : Prop := σ (9 + 6 * r + 0) = t ∨ σ (9 + 6 * r + 1) = t

def f_go (σ : px_s) (a b h : Int32) : Int32 × px_s :=
  let c := ix a
  let r := ix b
  let t := σ (94 + 8 * c + 0)
  if ¬ rg a 0 (σ 93 - 1) ∨ ¬ rg b 0 (σ 8 - 1) then (-1, σ) else if ¬ rg h 0 1 then (-2, σ) else if ¬ f_at σ r t then (-5, σ)
  else if h = 0 ∧ σ (94 + 8 * c + 1) < σ (9 + 6 * r + 2) * σ (94 + 8 * c + 2) then (-5, σ)
  else if h = 0 then (0, upd (upd (upd (upd σ (94 + 8 * c + 1) (σ (94 + 8 * c + 1) - σ (9 + 6 * r + 2) * σ (94 + 8 * c + 2))) (94 + 8 * c + 5) (σ (94 + 8 * c + 5) + σ (9 + 6 * r + 2) * σ (94 + 8 * c + 2))) (94 + 8 * c + 0) (f_far σ r t)) (9 + 6 * r + 4) (σ (9 + 6 * r + 4) + 1))
  else
    let q := if 0 < σ (94 + 8 * c + 2) then f_sneak σ c r else (0, σ)
    (q.1, upd (upd q.2 (94 + 8 * c + 0) (f_far σ r t)) (9 + 6 * r + 5) (σ (9 + 6 * r + 5) + 1))
/-- the states that come about -/
def px_V (σ : px_s) : Prop :=
  (σ 8 = nI (f_nr σ) ∧ f_nr σ ≤ 14 ∧ σ 93 = nI (f_nc σ) ∧ f_nc σ ≤ 6) ∧
  (∀ r, r < f_nr σ → ∃ a b, a < 8 ∧ b < 8 ∧ a ≠ b ∧ σ (9 + 6 * r + 0) = nI a ∧ σ (9 + 6 * r + 1) = nI b ∧ rg (σ (9 + 6 * r + 2)) 0 200 ∧ rg (σ (9 + 6 * r + 3)) 0 40) ∧
  (∀ r j, f_nr σ ≤ r → r < 14 → j < 6 → σ (9 + 6 * r + j) = 0) ∧
  (∀ c, c < f_nc σ → (∃ t, t < 8 ∧ σ (94 + 8 * c + 0) = nI t) ∧ rg (σ (94 + 8 * c + 2)) 0 99) ∧
  (∀ c j, f_nc σ ≤ c → c < 6 → j < 8 → σ (94 + 8 * c + j) = 0) ∧
  (∀ t, t < 8 → rg (σ t) 1 999) ∧
  (rg (σ 142) 0 500 ∧ rg (σ 143) 1 30 ∧ rg (σ 144) 1 4 ∧ rg (σ 145) 0 40)
/-- the World at w holds σ -/
def px_ag (I : px_I) (w : Nat) (σ : px_s) : Prop :=
  (∀ j, j < 4 → I (w + 1) j = σ (142 + j)) ∧ (∀ t, t < 8 → I (w + 2) t = σ t) ∧ (I w 4 = σ 8 ∧ I w 5 = σ 93) ∧
  (I w 6 = σ 146 ∧ I w 7 = σ 147 ∧ I w 8 = σ 148 ∧ I w 9 = σ 149 ∧ I w 10 = σ 150) ∧
  (∀ r, r < f_nr σ → ∀ j, j < 6 → I (w + 5 + r) j = σ (9 + 6 * r + j)) ∧ (∀ c, c < f_nc σ → ∀ j, j < 8 → I (w + 19 + c) j = σ (94 + 8 * c + j))

