section MW
def f_pw : Nat → Int64
  | 0 => 1
  | n + 1 => 100 * f_pw n
/-- what a sack brings at the end k of road r by that road, W being what it brings with one road less -/
def f_by (σ : px_s) (W : Nat → Int64) (r k left h : Nat) : Int64 :=
  if h = 1 then (100 - (f_cr σ r).toInt64) * W (ix (σ (9 + 6 * r + (1 - k)))) - (f_cr σ r).toInt64 * (σ 142).toInt64 * f_pw (left - 1)
  else 100 * W (ix (σ (9 + 6 * r + (1 - k)))) - (σ (9 + 6 * r + 2)).toInt64 * f_pw left
def f_row (σ : px_s) (ov : Int32) (left : Nat) (W : Nat → Int64) : Nat → Nat → Int64
  | 0 => fun t => 100 * W t
  | i + 1 => fun t => if t = ix (σ (9 + 6 * (i / 4) + i / 2 % 2)) ∧ f_row σ ov left W i t < f_by σ W (i / 4) (i / 2 % 2) left (i % 2) ∧ (i % 2 = 1 → ov = 0) then f_by σ W (i / 4) (i / 2 % 2) left (i % 2) else f_row σ ov left W i t
def f_w (σ : px_s) (ov : Int32) : Nat → Nat → Int64
  | 0 => fun t => (σ t).toInt64
  | n + 1 => f_row σ ov (n + 1) (f_w σ ov n) (4 * f_nr σ)
variable {l : Launch} {G : px_G} {T : px_T} {I : px_I} {J : px_J} {R : px_R} {μ : px_M} {m : Nat} {σ : px_s}
theorem wix {z : Int32} {left t : Nat} (e : z = nI left) {u : Int32} (eu : u = nI t) : (8 : Int32) * z + u = nI (8 * left + t) := by
  rw [e, eu, show (8 : Int32) * nI left = nI 8 * nI left from rfl, pk_mul, nI_add]
end MW
