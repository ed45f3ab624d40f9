section MST
variable {l : Launch} {G : px_G} {T : px_T} {I : px_I} {J : px_J} {R : px_R} {μ : px_M} {m : Nat} {σ : px_s}
/-- the best way from town a by the first so many ways -/
def f_st (σ : px_s) (W : Nat → Int64) (left : Nat) (a : Int32) : Nat → Int64 × Int32 × Int32
  | 0 => (100 * W (ix a), -6, 0)
  | i + 1 => if σ (9 + 6 * (i / 4) + i % 2) = a ∧ (f_st σ W left a i).1 < f_by σ W (i / 4) (i % 2) left (i / 2 % 2) then (f_by σ W (i / 4) (i % 2) left (i / 2 % 2), nI (i / 4), nI (i / 2 % 2)) else f_st σ W left a i
def f_step (σ : px_s) (a w : Int32) : Int32 := if ¬ rg a 0 7 then -1 else if ¬ rg w 0 1 then -2 else if w = 0 then (f_st σ (f_w σ 0 (ix (σ 144) - 1)) (ix (σ 144)) a (4 * f_nr σ)).2.1 else (f_st σ (f_w σ 0 (ix (σ 144) - 1)) (ix (σ 144)) a (4 * f_nr σ)).2.2
end MST
