section MQ3
variable {l : Launch} {G : px_G} {T : px_T} {I : px_I} {J : px_J} {R : px_R} {μ : px_M} {m : Nat} {σ : px_s}
theorem one_sub {u : Int32} {k : Nat} (e : u = nI k) (hk : k < 2) : 1 - u = nI (1 - k) := by rw [e]; exact pk_sub (a := 1) (by omega)
/-- what dishonest tells of the ends from place n on -/
def f_dis (σ : px_s) (n : Nat) (d : Int32) : Prop := (d = -6 ∧ ∀ q, n ≤ q → q < 2 * f_nr σ → f_hon σ (q / 2) (q % 2)) ∨ ∃ q, q < 2 * f_nr σ ∧ d = nI q ∧ ¬ f_hon σ (q / 2) (q % 2)
theorem dec_m1 (x : Int32) : x + Int32.ofInt (-1) = x - 1 := by rw [Int32.sub_eq_add_neg]; rfl
abbrev f_bnd (σ : px_s) (r k : Nat) (c : Int32) : Prop := σ (ix (σ (9 + 6 * r + (1 - k)))) ≤ f_mh σ (σ (ix (σ (9 + 6 * r + k)))) c
abbrev f_okg (σ : px_s) (r g : Nat) : Prop := f_bnd σ r 0 (f_ch σ (nI g)) ∧ f_bnd σ r 1 (f_ch σ (nI g))
/-- the first from g on, of n, that is enough -/
def f_fst (p : Nat → Prop) [DecidablePred p] (g : Nat) : Nat → Int32
  | 0 => -6
  | n + 1 => if p g then nI g else f_fst p (g + 1) n
def f_fg (σ : px_s) (a : Int32) : Int32 := if ¬ rg a 0 (σ 8 - 1) then -1 else f_fst (f_okg σ (ix a)) 0 41
/-- the most at town t by the first so many ends -/
def f_mp (σ : px_s) (t : Int32) : Nat → Int32
  | 0 => 999
  | i + 1 => if σ (9 + 6 * (i / 2) + (1 - i % 2)) = t ∧ f_ma σ (i / 2) (σ (ix (σ (9 + 6 * (i / 2) + i % 2)))) < f_mp σ t i then f_ma σ (i / 2) (σ (ix (σ (9 + 6 * (i / 2) + i % 2)))) else f_mp σ t i
def f_most (σ : px_s) (t : Int32) : Int32 := if ¬ rg t 0 7 then -1 else f_mp σ t (2 * f_nr σ)
def f_wh (σ : px_s) (a b f : Int32) : Int32 := if ¬ rg a 0 (σ 93 - 1) ∨ ¬ rg b 0 (σ 8 - 1) then -1 else if ¬ rg f 0 1 then -2 else if ¬ f_at σ (ix b) (σ (94 + 8 * ix a + 0)) then -5 else if f = 1 then σ (94 + 8 * ix a + 1) - f_fine σ (ix a) else σ (94 + 8 * ix a + 1) + σ (94 + 8 * ix a + 2) * σ (ix (f_far σ (ix b) (σ (94 + 8 * ix a + 0))))
def f_oc (σ : px_s) (a b : Int32) : Int32 := if ¬ rg a 0 (σ 93 - 1) then -1 else if rg b 0 7 then σ (94 + 8 * ix a + ix b) else -2
end MQ3
