section MQ4
variable {l : Launch} {G : px_G} {T : px_T} {I : px_I} {J : px_J} {R : px_R} {μ : px_M} {m : Nat} {A : px_a} {σ : px_s}
theorem df_nI (σ : px_s) (n : Nat) : ∃ k, k ≤ n ∧ f_df σ n = nI k := by
  induction n with
  | zero => exact ⟨0, Nat.le_refl _, rfl⟩
  | succ n ih =>
    obtain ⟨k, hk, e⟩ := ih
    rw [f_df, e]
    split
    · exact ⟨k, by omega, by rw [show (0 : Int32) = nI 0 from rfl, nI_add, Nat.add_zero]⟩
    · exact ⟨k + 1, by omega, nI_1 k⟩
theorem df_nn (σ : px_s) : ¬ f_df σ 8 < 0 := by
  obtain ⟨k, hk, e⟩ := df_nI σ 8
  rw [e]; exact nI_pos (by omega)
def f_mkh (σ : px_s) : Int32 × px_s := (f_df σ 8, f_pr σ (f_hp σ))
theorem V_mkh (h : px_VV σ) : px_VV (f_mkh σ).2 := V_pr h (fun t ht => hp_rg h.1 ht)
/-! the pad -/
def p_app (p : Nat × (Nat → Int32)) (v : Int32) : Nat × (Nat → Int32) := (p.1 + 1, upd p.2 p.1 v)
def p_rem (z : Int32) : Int32 := z - z / 10 * 10
def p_num (p : Nat × (Nat → Int32)) (x : Int32) : Nat × (Nat → Int32) :=
  let p1 := if 100 ≤ x then p_app p (48 + p_rem (x / 100)) else p
  let p2 := if 10 ≤ x then p_app p1 (48 + p_rem (x / 10)) else p1
  if 1 ≤ x then p_app p2 (48 + p_rem (x / 1)) else p2
def p_wr (σ : px_s) (c : Nat → Int32) : Nat → Nat × (Nat → Int32)
  | 0 => (0, c)
  | t + 1 => p_num (if 0 < t then p_app (p_wr σ c t) 47 else p_wr σ c t) (σ t)
theorem p_num_le (p : Nat × (Nat → Int32)) (x : Int32) : (p_num p x).1 ≤ p.1 + 3 := by
  unfold p_num p_app
  dsimp only
  split <;> split <;> split <;> (try dsimp only) <;> omega
theorem p_wr_le (σ : px_s) (c : Nat → Int32) (t : Nat) : (p_wr σ c t).1 ≤ 4 * t := by
  induction t with
  | zero => exact Nat.le_refl _
  | succ t ih =>
    rw [p_wr]
    have := p_num_le (if 0 < t then p_app (p_wr σ c t) 47 else p_wr σ c t) (σ t)
    have h2 : (if 0 < t then p_app (p_wr σ c t) 47 else p_wr σ c t).1 ≤ (p_wr σ c t).1 + 1 := by
      split
      · exact Nat.le_refl _
      · omega
    omega
/-! undo, save, restore -/
def f_mix (σ τ : px_s) : px_s := fun k => if k < 151 then τ k else σ k
theorem kept_or {f : Nat → Bool} {s : Nat} (hs : s < 2) : a_kept f ||| 1 <<< (nI s &&& 31) = a_kept (fun i => if i = s then true else f i) := by
  unfold a_kept
  rcases (by omega : s = 0 ∨ s = 1) with rfl | rfl
  · rw [if_pos (c := (fun i => if i = 0 then true else f i) 0 = true) rfl]
    show _ = 1 ||| (if f 1 = true then 2 else 0)
    cases f 0 <;> cases f 1 <;> decide
  · rw [if_pos (c := (fun i => if i = 1 then true else f i) 1 = true) rfl]
    show _ = (if f 0 = true then 1 else 0) ||| 2
    cases f 0 <;> cases f 1 <;> decide
theorem kept_bit {f : Nat → Bool} {s : Nat} (hs : s < 2) : (a_kept f >>> (nI s &&& 31)) &&& 1 = if f s then 1 else 0 := by
  unfold a_kept
  rcases (by omega : s = 0 ∨ s = 1) with rfl | rfl
  · cases f 0 <;> cases f 1 <;> decide
  · cases f 0 <;> cases f 1 <;> decide
def a_save (A : px_a) (s : Nat) : px_a := (A.1, A.2.1, ((fun i => if i = s then true else A.2.2.1.1 i), (fun i => if i = s then A.1 else A.2.2.1.2 i)), A.2.2.2)
theorem slot_ix {s i : Nat} : (151 : Int32) * nI s + nI i = nI (151 * s + i) := by rw [show (151 : Int32) * nI s = nI 151 * nI s from rfl, pk_mul, nI_add]
def a_rest (A : px_a) (s : Nat) : px_a := (f_mix A.1 (A.2.2.1.2 s), h_push A.2.1.1 A.2.1.2 A.1, A.2.2)
end MQ4
