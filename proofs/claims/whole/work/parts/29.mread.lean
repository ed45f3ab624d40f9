section MRD
abbrev px_p : Type := Nat × (Nat → Int32)
variable {l : Launch} {G : px_G} {T : px_T} {I B : px_I} {J : px_J} {R : px_R} {μ : px_M} {m : Nat} {A : px_a} {σ : px_s} {p : px_p} {s : Nat} {f : Bool}
/-! the orders of a text -/
def q_ch (p : px_p) (s : Nat) : Int32 := if s < p.1 then p.2 s else 0
def q_tk (p : px_p) (s : Nat) (lo hi : Int32) : Bool × Nat × Int32 := if rg (q_ch p s) lo hi then (true, s + 1, q_ch p s) else (false, s, 0)
def q_dig (p : px_p) (s : Nat) : Bool × Nat × Int32 := if rg (q_ch p s) 48 57 then (true, s + 1, q_ch p s - 48) else (false, s, 0)
def q_nl (p : px_p) : Nat → Nat → Int32 → Nat × Int32
  | 0, s, v => (s, v)
  | k + 1, s, v => if 0 < v ∧ rg (q_ch p s) 48 57 then q_nl p k (s + 1) (10 * v + (q_ch p s - 48)) else (s, v)
def q_num (p : px_p) (s : Nat) : Bool × Nat × Int32 := if rg (q_ch p s) 48 57 then (true, (q_nl p 3 (s + 1) (q_ch p s - 48)).1, (q_nl p 3 (s + 1) (q_ch p s - 48)).2) else (false, s, 0)
abbrev q_let (c : Int32) : Prop := c = 114 ∨ c = 112 ∨ c = 103 ∨ c = 99 ∨ c = 98 ∨ c = 115 ∨ c = 111 ∨ c = 104
def f_btw (c : Int32) : Int32 := if c = 112 then 61 else if c = 103 ∨ c = 111 ∨ c = 104 then 58 else 42
def q_fst (p : px_p) (c : Int32) (s : Nat) : Bool × Nat × Int32 := if c = 103 then q_num p s else q_dig p s
def q_snd (p : px_p) (c : Int32) (s : Nat) : Bool × Nat × Int32 := if c = 114 then q_dig p s else (true, s, 0)
/-- where a reader stands behind a piece -/
def q_go2 (f : Bool) (s : Nat) (r : Bool × Nat × Int32) : Bool × Nat := if f = true then (true, s) else (!r.1, r.2.1)
/-- an order: is it one, where it ends or fails, letter and numbers -/
def q_ord (p : px_p) (s : Nat) : Bool × Nat × Int32 × Int32 × Int32 × Int32 :=
  let c := q_ch p s
  if ¬ q_let c then (false, s, 0, 0, 0, 0) else
  let a := q_fst p c (s + 1)
  if a.1 = false then (false, a.2.1, 0, 0, 0, 0) else
  let b := q_snd p c a.2.1
  if b.1 = false then (false, b.2.1, 0, 0, 0, 0) else
  let e := q_tk p b.2.1 (f_btw c) (f_btw c)
  if e.1 = false then (false, e.2.1, 0, 0, 0, 0) else
  let d := q_num p e.2.1
  if d.1 = false then (false, d.2.1, 0, 0, 0, 0) else (true, d.2.1, c, a.2.2, b.2.2, d.2.2)
theorem ch_in {lo hi : Int32} (h0 : ¬ rg 0 lo hi) (h : rg (q_ch p s) lo hi) : s < p.1 ∧ q_ch p s = p.2 s := by
  unfold q_ch at *
  by_cases z : s < p.1
  · rw [if_pos z]; exact ⟨z, rfl⟩
  · rw [if_neg z] at h; exact absurd h h0
theorem tk_le {lo hi : Int32} (h0 : ¬ rg 0 lo hi) (hs : s ≤ p.1) : (q_tk p s lo hi).2.1 ≤ p.1 := by
  unfold q_tk
  split
  · rename_i h; exact (ch_in h0 h).1
  · exact hs
theorem rg_48 : ¬ rg 0 48 57 := by decide
theorem dig_le (hs : s ≤ p.1) : (q_dig p s).2.1 ≤ p.1 := by
  unfold q_dig
  split
  · rename_i h; exact (ch_in rg_48 h).1
  · exact hs
theorem nl_le (k : Nat) (v : Int32) (hs : s ≤ p.1) : (q_nl p k s v).1 ≤ p.1 := by
  induction k generalizing s v with
  | zero => exact hs
  | succ k ih =>
    rw [q_nl]
    split
    · rename_i h; exact ih _ (ch_in rg_48 h.2).1
    · exact hs
theorem num_le (hs : s ≤ p.1) : (q_num p s).2.1 ≤ p.1 := by
  unfold q_num
  split
  · rename_i h; exact nl_le 3 _ (ch_in rg_48 h).1
  · exact hs
theorem fst_le {c : Int32} (hs : s ≤ p.1) : (q_fst p c s).2.1 ≤ p.1 := by
  unfold q_fst
  split
  · exact num_le hs
  · exact dig_le hs
theorem snd_le {c : Int32} (hs : s ≤ p.1) : (q_snd p c s).2.1 ≤ p.1 := by
  unfold q_snd
  split
  · exact dig_le hs
  · exact hs
theorem go2_le {r : Bool × Nat × Int32} (hs : s ≤ p.1) (hr : r.2.1 ≤ p.1) : (q_go2 f s r).2 ≤ p.1 := by
  unfold q_go2
  split
  · exact hs
  · exact hr
theorem px_up_up {I : px_I} {a k : Nat} {v v' : Int32} : px_up (px_up I a k v) a k v' = px_up I a k v' := by
  funext b j
  rw [px_up_at, px_up_at, px_up_at]
  by_cases h : b = a ∧ j = k
  · rw [if_pos h, if_pos h]
  · rw [if_neg h, if_neg h, if_neg h]
def px_tk (B : px_I) (m : Nat) (f : Bool) (s : Nat) : px_I := px_up (px_up B m 10 (if f = true then 1 else 0)) m 9 (nI s)
theorem tk_9 : px_tk B m f s m 9 = nI s := px_up_self _ _ _ _
theorem tk_10 : px_tk B m f s m 10 = if f = true then 1 else 0 := by unfold px_tk; rw [px_up_nj (by decide), px_up_self]
theorem tk_ne {a : Nat} (h : a ≠ m) : px_tk B m f s a = B a := by unfold px_tk; rw [px_up_ne h, px_up_ne h]
theorem tk_nj {j : Nat} (h : j ≠ 9) (h2 : j ≠ 10) : px_tk B m f s m j = B m j := by unfold px_tk; rw [px_up_nj h, px_up_nj h2]
theorem tk_up {j : Nat} {v : Int32} (h : j ≠ 9) (h2 : j ≠ 10) : px_up (px_tk B m f s) m j v = px_tk (px_up B m j v) m f s := by
  funext a k
  unfold px_tk
  rw [px_up_at, px_up_at, px_up_at, px_up_at, px_up_at, px_up_at]
  by_cases h1 : a = m
  · subst h1
    by_cases h3 : k = j
    · subst h3; rw [if_pos ⟨rfl, rfl⟩, if_neg (by omega), if_neg (by omega), if_pos ⟨rfl, rfl⟩]
    · rw [if_neg (by omega), if_neg (show ¬ (a = a ∧ k = j) by omega)]
  · rw [if_neg (by omega), if_neg (by omega), if_neg (by omega), if_neg (by omega), if_neg (by omega), if_neg (by omega)]
theorem tk_tk {f' : Bool} {s' : Nat} : px_up (px_up (px_tk B m f s) m 10 (if f' = true then 1 else 0)) m 9 (nI s') = px_tk B m f' s' := by
  funext a k
  unfold px_tk
  rw [px_up_at, px_up_at, px_up_at, px_up_at, px_up_at, px_up_at]
  by_cases h1 : a = m ∧ k = 9
  · rw [if_pos h1, if_pos h1]
  · rw [if_neg h1, if_neg h1]
    by_cases h2 : a = m ∧ k = 10
    · rw [if_pos h2, if_neg h1, if_pos h2]
    · simp only [if_neg h1, if_neg h2]
/-- the pad of the reference holds p -/
def px_bp (B : px_I) (m : Nat) (p : px_p) : Prop := B m 7 = nI p.1 ∧ p.1 ≤ 80 ∧ ∀ i, i < p.1 → B (m + 5) i = p.2 i
theorem B_up {j : Nat} {v : Int32} (h : px_bp B m p) (hj : 11 ≤ j) : px_bp (px_up B m j v) m p := ⟨by rw [px_up_nj (by omega)]; exact h.1, h.2.1, fun i hi => by rw [px_up_ne (by omega)]; exact h.2.2 i hi⟩
/-- the character, as the reference takes it -/
theorem s_X8_takes {lo hi : Int32} (hm : px_mo G T R m) (hB : px_bp B m p) (hs : s ≤ p.1) : px_K l G 1 mX8_takes ([.ref m, .int lo, .int hi]) ((T, px_tk B m f s, J, R)) (some (.int (q_ch p s))) ((T, px_tk B m (q_go2 f s (q_tk p s lo hi)).1 (q_go2 f s (q_tk p s lo hi)).2, J, R)) := by
  obtain ⟨b1, b2, b3⟩ := hB
  refine px_met (M := mX8_takes) ([some (.ref m), some (.int lo), some (.int hi), none]) (by decide +kernel) rfl (Nat.le_of_ble_eq_true rfl) rfl ?_
  generalize hQ : (fun v m_1 => v = some (Value.int (q_ch p s)) ∧ m_1 = (T, px_tk B m (q_go2 f s (q_tk p s lo hi)).1 (q_go2 f s (q_tk p s lo hi)).2, J, R) : Option Value → px_M → Prop) = Q
  have S24 : (px_W l G yX8_takes cX8_takes 4 (some .int) (px_rm 1 0 0) (px_Fn G Q 0 0) 24 [some (.ref m), some (.int lo), some (.int hi), none] [.int (q_ch p s)] 0 0 (T, px_tk B m f s, J, R)) := by
    by_cases hf : f = true
    · have e : q_go2 f s (q_tk p s lo hi) = (true, s) := if_pos hf
      rw [e] at hQ
      have f10 : ¬ px_tk B m f s m 10 = 0 := by rw [tk_10, if_pos hf]; decide
      refine px_istore_3 dX8_takes_24 rfl ?_
      refine px_aload_0 dX8_takes_25 ?_
      refine px_aload_0 dX8_takes_26 ?_
      refine gf_X8_187 rfl dX8_takes_27 (by first | assumption | exact mo_a hm | exact mo_r0 hm | exact mo_r1 hm | exact mo_r2 hm | exact mo_r4 hm | exact mo_r6 hm | exact mo_r8 hm | exact mo_a1 hm | exact mo_a2 hm | exact mo_a3 hm | exact mo_a4 hm | exact mo_a5 hm | exact mo_a6 hm) ?_
      refine px_if_ne (tgt := 42) dX8_takes_30 (by decide) (fun h30 => ?_) (fun h30 => (by first | exact absurd (f10) h30 | exact absurd h30 (f10)))
      refine px_iconst (1) dX8_takes_42 rfl ?_
      refine px_goto (tgt := 47) dX8_takes_43 (by decide) ?_
      refine pf_X8_187 rfl (by first | exact Or.inl rfl | exact Or.inr rfl) dX8_takes_47 (by first | assumption | exact mo_a hm | exact mo_r0 hm | exact mo_r1 hm | exact mo_r2 hm | exact mo_r4 hm | exact mo_r6 hm | exact mo_r8 hm | exact mo_a1 hm | exact mo_a2 hm | exact mo_a3 hm | exact mo_a4 hm | exact mo_a5 hm | exact mo_a6 hm) ?_
      refine px_aload_0 dX8_takes_50 ?_
      refine px_dup dX8_takes_51 rfl ?_
      refine gf_X8_184 rfl dX8_takes_52 (by first | assumption | exact mo_a hm | exact mo_r0 hm | exact mo_r1 hm | exact mo_r2 hm | exact mo_r4 hm | exact mo_r6 hm | exact mo_r8 hm | exact mo_a1 hm | exact mo_a2 hm | exact mo_a3 hm | exact mo_a4 hm | exact mo_a5 hm | exact mo_a6 hm) ?_
      rw [px_up_nj (by decide), tk_9]
      refine px_aload_0 dX8_takes_55 ?_
      refine gf_X8_187 rfl dX8_takes_56 (by first | assumption | exact mo_a hm | exact mo_r0 hm | exact mo_r1 hm | exact mo_r2 hm | exact mo_r4 hm | exact mo_r6 hm | exact mo_r8 hm | exact mo_a1 hm | exact mo_a2 hm | exact mo_a3 hm | exact mo_a4 hm | exact mo_a5 hm | exact mo_a6 hm) ?_
      refine px_if_eq (tgt := 66) dX8_takes_59 (by decide) (fun h59 => (by first | exact absurd h59 ((by rw [px_up_self]; decide)) | exact absurd ((by rw [px_up_self]; decide)) h59)) (fun h59 => ?_)
      refine px_iconst (0) dX8_takes_62 rfl ?_
      refine px_goto (tgt := 67) dX8_takes_63 (by decide) ?_
      refine px_iadd dX8_takes_67 ?_
      rw [show nI s + 0 = nI s from nI_add s 0]
      refine pf_X8_184 rfl dX8_takes_68 (by first | assumption | exact mo_a hm | exact mo_r0 hm | exact mo_r1 hm | exact mo_r2 hm | exact mo_r4 hm | exact mo_r6 hm | exact mo_r8 hm | exact mo_a1 hm | exact mo_a2 hm | exact mo_a3 hm | exact mo_a4 hm | exact mo_a5 hm | exact mo_a6 hm) ?_
      refine px_iload_3 dX8_takes_71 ?_
      refine px_iret dX8_takes_72 ?_
      subst hQ; exact ⟨rfl, by rw [show (1 : Int32) = if true = true then 1 else 0 from rfl, tk_tk]⟩
    · have f10 : px_tk B m f s m 10 = 0 := by rw [tk_10, if_neg hf]
      by_cases hr : rg (q_ch p s) lo hi
      · have e : q_go2 f s (q_tk p s lo hi) = (false, s + 1) := by rw [q_go2, if_neg hf, q_tk, if_pos hr]; rfl
        rw [e] at hQ
        refine px_istore_3 dX8_takes_24 rfl ?_
        refine px_aload_0 dX8_takes_25 ?_
        refine px_aload_0 dX8_takes_26 ?_
        refine gf_X8_187 rfl dX8_takes_27 (by first | assumption | exact mo_a hm | exact mo_r0 hm | exact mo_r1 hm | exact mo_r2 hm | exact mo_r4 hm | exact mo_r6 hm | exact mo_r8 hm | exact mo_a1 hm | exact mo_a2 hm | exact mo_a3 hm | exact mo_a4 hm | exact mo_a5 hm | exact mo_a6 hm) ?_
        refine px_if_ne (tgt := 42) dX8_takes_30 (by decide) (fun h30 => (by first | exact absurd h30 (f10) | exact absurd (f10) h30)) (fun h30 => ?_)
        refine px_iload_3 dX8_takes_33 ?_
        refine px_iload_1 dX8_takes_34 ?_
        refine px_iload_2 dX8_takes_35 ?_
        refine cd_X8_29 rfl ⟨⟨Nat.le_of_ble_eq_true rfl, Nat.le_of_ble_eq_true rfl⟩, Nat.le_of_ble_eq_true rfl, Nat.le_of_ble_eq_true rfl, Nat.le_of_ble_eq_true rfl⟩ dX8_takes_36 (s_X8_in) ?_
        refine px_ifb_ne (tgt := 46) dX8_takes_39 (by decide) (fun h39 => ?_) (fun h39 => (by first | exact absurd (hr) h39 | exact absurd h39 (hr)))
        refine px_iconst (0) dX8_takes_46 rfl ?_
        refine pf_X8_187 rfl (by first | exact Or.inl rfl | exact Or.inr rfl) dX8_takes_47 (by first | assumption | exact mo_a hm | exact mo_r0 hm | exact mo_r1 hm | exact mo_r2 hm | exact mo_r4 hm | exact mo_r6 hm | exact mo_r8 hm | exact mo_a1 hm | exact mo_a2 hm | exact mo_a3 hm | exact mo_a4 hm | exact mo_a5 hm | exact mo_a6 hm) ?_
        refine px_aload_0 dX8_takes_50 ?_
        refine px_dup dX8_takes_51 rfl ?_
        refine gf_X8_184 rfl dX8_takes_52 (by first | assumption | exact mo_a hm | exact mo_r0 hm | exact mo_r1 hm | exact mo_r2 hm | exact mo_r4 hm | exact mo_r6 hm | exact mo_r8 hm | exact mo_a1 hm | exact mo_a2 hm | exact mo_a3 hm | exact mo_a4 hm | exact mo_a5 hm | exact mo_a6 hm) ?_
        rw [px_up_nj (by decide), tk_9]
        refine px_aload_0 dX8_takes_55 ?_
        refine gf_X8_187 rfl dX8_takes_56 (by first | assumption | exact mo_a hm | exact mo_r0 hm | exact mo_r1 hm | exact mo_r2 hm | exact mo_r4 hm | exact mo_r6 hm | exact mo_r8 hm | exact mo_a1 hm | exact mo_a2 hm | exact mo_a3 hm | exact mo_a4 hm | exact mo_a5 hm | exact mo_a6 hm) ?_
        refine px_if_eq (tgt := 66) dX8_takes_59 (by decide) (fun h59 => ?_) (fun h59 => (by first | exact absurd ((px_up_self _ _ _ _)) h59 | exact absurd h59 ((px_up_self _ _ _ _))))
        refine px_iconst (1) dX8_takes_66 rfl ?_
        refine px_iadd dX8_takes_67 ?_
        rw [nI_1]
        refine pf_X8_184 rfl dX8_takes_68 (by first | assumption | exact mo_a hm | exact mo_r0 hm | exact mo_r1 hm | exact mo_r2 hm | exact mo_r4 hm | exact mo_r6 hm | exact mo_r8 hm | exact mo_a1 hm | exact mo_a2 hm | exact mo_a3 hm | exact mo_a4 hm | exact mo_a5 hm | exact mo_a6 hm) ?_
        refine px_iload_3 dX8_takes_71 ?_
        refine px_iret dX8_takes_72 ?_
        subst hQ; exact ⟨rfl, by rw [show (0 : Int32) = if false = true then 1 else 0 from rfl, tk_tk]⟩
      · have e : q_go2 f s (q_tk p s lo hi) = (true, s) := by rw [q_go2, if_neg hf, q_tk, if_neg hr]; rfl
        rw [e] at hQ
        refine px_istore_3 dX8_takes_24 rfl ?_
        refine px_aload_0 dX8_takes_25 ?_
        refine px_aload_0 dX8_takes_26 ?_
        refine gf_X8_187 rfl dX8_takes_27 (by first | assumption | exact mo_a hm | exact mo_r0 hm | exact mo_r1 hm | exact mo_r2 hm | exact mo_r4 hm | exact mo_r6 hm | exact mo_r8 hm | exact mo_a1 hm | exact mo_a2 hm | exact mo_a3 hm | exact mo_a4 hm | exact mo_a5 hm | exact mo_a6 hm) ?_
        refine px_if_ne (tgt := 42) dX8_takes_30 (by decide) (fun h30 => (by first | exact absurd h30 (f10) | exact absurd (f10) h30)) (fun h30 => ?_)
        refine px_iload_3 dX8_takes_33 ?_
        refine px_iload_1 dX8_takes_34 ?_
        refine px_iload_2 dX8_takes_35 ?_
        refine cd_X8_29 rfl ⟨⟨Nat.le_of_ble_eq_true rfl, Nat.le_of_ble_eq_true rfl⟩, Nat.le_of_ble_eq_true rfl, Nat.le_of_ble_eq_true rfl, Nat.le_of_ble_eq_true rfl⟩ dX8_takes_36 (s_X8_in) ?_
        refine px_ifb_ne (tgt := 46) dX8_takes_39 (by decide) (fun h39 => (by first | exact absurd h39 (hr) | exact absurd (hr) h39)) (fun h39 => ?_)
        refine px_iconst (1) dX8_takes_42 rfl ?_
        refine px_goto (tgt := 47) dX8_takes_43 (by decide) ?_
        refine pf_X8_187 rfl (by first | exact Or.inl rfl | exact Or.inr rfl) dX8_takes_47 (by first | assumption | exact mo_a hm | exact mo_r0 hm | exact mo_r1 hm | exact mo_r2 hm | exact mo_r4 hm | exact mo_r6 hm | exact mo_r8 hm | exact mo_a1 hm | exact mo_a2 hm | exact mo_a3 hm | exact mo_a4 hm | exact mo_a5 hm | exact mo_a6 hm) ?_
        refine px_aload_0 dX8_takes_50 ?_
        refine px_dup dX8_takes_51 rfl ?_
        refine gf_X8_184 rfl dX8_takes_52 (by first | assumption | exact mo_a hm | exact mo_r0 hm | exact mo_r1 hm | exact mo_r2 hm | exact mo_r4 hm | exact mo_r6 hm | exact mo_r8 hm | exact mo_a1 hm | exact mo_a2 hm | exact mo_a3 hm | exact mo_a4 hm | exact mo_a5 hm | exact mo_a6 hm) ?_
        rw [px_up_nj (by decide), tk_9]
        refine px_aload_0 dX8_takes_55 ?_
        refine gf_X8_187 rfl dX8_takes_56 (by first | assumption | exact mo_a hm | exact mo_r0 hm | exact mo_r1 hm | exact mo_r2 hm | exact mo_r4 hm | exact mo_r6 hm | exact mo_r8 hm | exact mo_a1 hm | exact mo_a2 hm | exact mo_a3 hm | exact mo_a4 hm | exact mo_a5 hm | exact mo_a6 hm) ?_
        refine px_if_eq (tgt := 66) dX8_takes_59 (by decide) (fun h59 => (by first | exact absurd h59 ((by rw [px_up_self]; decide)) | exact absurd ((by rw [px_up_self]; decide)) h59)) (fun h59 => ?_)
        refine px_iconst (0) dX8_takes_62 rfl ?_
        refine px_goto (tgt := 67) dX8_takes_63 (by decide) ?_
        refine px_iadd dX8_takes_67 ?_
        rw [show nI s + 0 = nI s from nI_add s 0]
        refine pf_X8_184 rfl dX8_takes_68 (by first | assumption | exact mo_a hm | exact mo_r0 hm | exact mo_r1 hm | exact mo_r2 hm | exact mo_r4 hm | exact mo_r6 hm | exact mo_r8 hm | exact mo_a1 hm | exact mo_a2 hm | exact mo_a3 hm | exact mo_a4 hm | exact mo_a5 hm | exact mo_a6 hm) ?_
        refine px_iload_3 dX8_takes_71 ?_
        refine px_iret dX8_takes_72 ?_
        subst hQ; exact ⟨rfl, by rw [show (1 : Int32) = if true = true then 1 else 0 from rfl, tk_tk]⟩
  by_cases hl : s < p.1
  · have e : q_ch p s = p.2 s := if_pos hl
    rw [e] at S24
    refine px_aload_0 dX8_takes_0 ?_
    refine gf_X8_184 rfl dX8_takes_1 (by first | assumption | exact mo_a hm | exact mo_r0 hm | exact mo_r1 hm | exact mo_r2 hm | exact mo_r4 hm | exact mo_r6 hm | exact mo_r8 hm | exact mo_a1 hm | exact mo_a2 hm | exact mo_a3 hm | exact mo_a4 hm | exact mo_a5 hm | exact mo_a6 hm) ?_
    rw [tk_9]
    refine px_aload_0 dX8_takes_4 ?_
    refine gf_X8_156 rfl dX8_takes_5 (by first | assumption | exact mo_a hm | exact mo_r0 hm | exact mo_r1 hm | exact mo_r2 hm | exact mo_r4 hm | exact mo_r6 hm | exact mo_r8 hm | exact mo_a1 hm | exact mo_a2 hm | exact mo_a3 hm | exact mo_a4 hm | exact mo_a5 hm | exact mo_a6 hm) ?_
    rw [tk_nj (by decide) (by decide), b1]
    refine px_icmp_ge (tgt := 23) dX8_takes_8 (by decide) (fun h8 => (by first | exact absurd h8 ((nI_ge hl (by omega))) | exact absurd ((nI_ge hl (by omega))) h8)) (fun h8 => ?_)
    refine px_aload_0 dX8_takes_11 ?_
    refine gf_X8_22 rfl dX8_takes_12 (by first | assumption | exact mo_a hm | exact mo_r0 hm | exact mo_r1 hm | exact mo_r2 hm | exact mo_r4 hm | exact mo_r6 hm | exact mo_r8 hm | exact mo_a1 hm | exact mo_a2 hm | exact mo_a3 hm | exact mo_a4 hm | exact mo_a5 hm | exact mo_a6 hm) (by first | assumption | exact mo_a hm | exact mo_r0 hm | exact mo_r1 hm | exact mo_r2 hm | exact mo_r4 hm | exact mo_r6 hm | exact mo_r8 hm | exact mo_a1 hm | exact mo_a2 hm | exact mo_a3 hm | exact mo_a4 hm | exact mo_a5 hm | exact mo_a6 hm) ?_
    refine px_aload_0 dX8_takes_15 ?_
    refine gf_X8_184 rfl dX8_takes_16 (by first | assumption | exact mo_a hm | exact mo_r0 hm | exact mo_r1 hm | exact mo_r2 hm | exact mo_r4 hm | exact mo_r6 hm | exact mo_r8 hm | exact mo_a1 hm | exact mo_a2 hm | exact mo_a3 hm | exact mo_a4 hm | exact mo_a5 hm | exact mo_a6 hm) ?_
    refine px_ialdN dX8_takes_19 (by first | assumption | exact mo_a hm | exact mo_r0 hm | exact mo_r1 hm | exact mo_r2 hm | exact mo_r4 hm | exact mo_r6 hm | exact mo_r8 hm | exact mo_a1 hm | exact mo_a2 hm | exact mo_a3 hm | exact mo_a4 hm | exact mo_a5 hm | exact mo_a6 hm) (by exact tk_9) (by omega) ?_
    rw [tk_ne (by omega), b3 s hl]
    refine px_goto (tgt := 24) dX8_takes_20 (by decide) ?_
    exact S24
  · have e : q_ch p s = 0 := if_neg hl
    rw [e] at S24
    refine px_aload_0 dX8_takes_0 ?_
    refine gf_X8_184 rfl dX8_takes_1 (by first | assumption | exact mo_a hm | exact mo_r0 hm | exact mo_r1 hm | exact mo_r2 hm | exact mo_r4 hm | exact mo_r6 hm | exact mo_r8 hm | exact mo_a1 hm | exact mo_a2 hm | exact mo_a3 hm | exact mo_a4 hm | exact mo_a5 hm | exact mo_a6 hm) ?_
    rw [tk_9]
    refine px_aload_0 dX8_takes_4 ?_
    refine gf_X8_156 rfl dX8_takes_5 (by first | assumption | exact mo_a hm | exact mo_r0 hm | exact mo_r1 hm | exact mo_r2 hm | exact mo_r4 hm | exact mo_r6 hm | exact mo_r8 hm | exact mo_a1 hm | exact mo_a2 hm | exact mo_a3 hm | exact mo_a4 hm | exact mo_a5 hm | exact mo_a6 hm) ?_
    rw [tk_nj (by decide) (by decide), b1]
    refine px_icmp_ge (tgt := 23) dX8_takes_8 (by decide) (fun h8 => ?_) (fun h8 => (by first | exact absurd ((nI_le (Nat.not_lt.mp hl) (by omega))) h8 | exact absurd h8 ((nI_le (Nat.not_lt.mp hl) (by omega)))))
    refine px_iconst (0) dX8_takes_23 rfl ?_
    exact S24
theorem go2_dig : q_go2 f s (q_tk p s 48 57) = q_go2 f s (q_dig p s) := by
  unfold q_go2 q_tk q_dig
  split
  · rfl
  · split <;> rfl
theorem s_X8_digit (hm : px_mo G T R m) (hB : px_bp B m p) (hs : s ≤ p.1) : px_K l G 2 mX8_digit ([.ref m]) ((T, px_tk B m f s, J, R)) (some (.int (q_ch p s - 48))) ((T, px_tk B m (q_go2 f s (q_dig p s)).1 (q_go2 f s (q_dig p s)).2, J, R)) := by
  have ht := s_X8_takes (l := l) (J := J) (f := f) (lo := 48) (hi := 57) hm hB hs
  rw [go2_dig] at ht
  refine px_met (M := mX8_digit) ([some (.ref m)]) (by decide +kernel) rfl (Nat.le_of_ble_eq_true rfl) rfl ?_
  refine px_aload_0 dX8_digit_0 ?_
  refine px_bipush (48) dX8_digit_1 rfl ?_
  refine px_bipush (57) dX8_digit_3 rfl ?_
  refine cd_X8_191 rfl ⟨⟨Nat.le_of_ble_eq_true rfl, Nat.le_of_ble_eq_true rfl⟩, Nat.le_of_ble_eq_true rfl, Nat.le_of_ble_eq_true rfl, Nat.le_of_ble_eq_true rfl⟩ (by first | assumption | exact mo_a hm | exact mo_r0 hm | exact mo_r1 hm | exact mo_r2 hm | exact mo_r4 hm | exact mo_r6 hm | exact mo_r8 hm | exact mo_a1 hm | exact mo_a2 hm | exact mo_a3 hm | exact mo_a4 hm | exact mo_a5 hm | exact mo_a6 hm) dX8_digit_5 (ht) ?_
  refine px_bipush (48) dX8_digit_8 rfl ?_
  refine px_isub dX8_digit_10 ?_
  refine px_iret dX8_digit_11 ?_
  exact ⟨rfl, rfl⟩
def q_ok (k a : Nat) : Prop := a = 0 ∨ (k = 0 ∧ 1000 ≤ a ∧ a < 10000) ∨ (k = 1 ∧ 100 ≤ a ∧ a < 1000) ∨ (k = 2 ∧ 10 ≤ a ∧ a < 100) ∨ (k = 3 ∧ 1 ≤ a ∧ a < 10)
theorem ch_dig (h : rg (q_ch p s) 48 57) : ∃ d, d < 10 ∧ q_ch p s = nI (48 + d) ∧ q_ch p s - 48 = nI d := by
  obtain ⟨e, h1, h2⟩ := rg_ix (a := 48) (b := 57) (by decide) (by decide) h
  refine ⟨ix (q_ch p s) - 48, by omega, ?_, ?_⟩
  · rw [show 48 + (ix (q_ch p s) - 48) = ix (q_ch p s) by omega]; exact e
  · rw [e, ix_nI (by omega)]; exact pk_sub (b := 48) h1
def px_Qd (T : px_T) (B : px_I) (J : px_J) (R : px_R) (m s : Nat) (f : Bool) (r : Bool × Nat × Int32) : Option Value → px_M → Prop := fun v μ' => ∃ w, v = some (.int w) ∧ μ' = (T, px_tk B m (q_go2 f s r).1 (q_go2 f s r).2, J, R) ∧ ((q_go2 f s r).1 = false → w = r.2.2)
theorem s_X8_number (hm : px_mo G T R m) (hB : px_bp B m p) (hs : s ≤ p.1) : px_C l G 3 0 0 mX8_number [.ref m] (T, px_tk B m f s, J, R) (px_Qd T B J R m s f (q_num p s)) := by
  have hdg := s_X8_digit (l := l) (J := J) (f := f) hm hB hs
  obtain ⟨b1, b2, b3⟩ := hB
  refine px_met (M := mX8_number) ([some (.ref m), none]) (by decide +kernel) rfl (Nat.le_of_ble_eq_true rfl) rfl ?_
  by_cases hf : f = true
  · have e : q_go2 f s (q_dig p s) = (true, s) := if_pos hf
    have e2 : q_go2 f s (q_num p s) = (true, s) := if_pos hf
    rw [e] at hdg
    have f10 : ¬ px_tk B m true s m 10 = 0 := by rw [tk_10]; decide
    refine px_aload_0 dX8_number_0 ?_
    refine cd_X8_194 rfl ⟨⟨Nat.le_of_ble_eq_true rfl, Nat.le_of_ble_eq_true rfl⟩, Nat.le_of_ble_eq_true rfl, Nat.le_of_ble_eq_true rfl, Nat.le_of_ble_eq_true rfl⟩ (by first | assumption | exact mo_a hm | exact mo_r0 hm | exact mo_r1 hm | exact mo_r2 hm | exact mo_r4 hm | exact mo_r6 hm | exact mo_r8 hm | exact mo_a1 hm | exact mo_a2 hm | exact mo_a3 hm | exact mo_a4 hm | exact mo_a5 hm | exact mo_a6 hm) dX8_number_1 (hdg) ?_
    refine px_istore_1 dX8_number_4 rfl ?_
    refine px_aload_0 dX8_number_5 ?_
    refine gf_X8_187 rfl dX8_number_6 (by first | assumption | exact mo_a hm | exact mo_r0 hm | exact mo_r1 hm | exact mo_r2 hm | exact mo_r4 hm | exact mo_r6 hm | exact mo_r8 hm | exact mo_a1 hm | exact mo_a2 hm | exact mo_a3 hm | exact mo_a4 hm | exact mo_a5 hm | exact mo_a6 hm) ?_
    refine px_if_ne (tgt := 100) dX8_number_9 (by decide) (fun h9 => ?_) (fun h9 => (by first | exact absurd (f10) h9 | exact absurd h9 (f10)))
    refine px_iload_1 dX8_number_100 ?_
    refine px_iret dX8_number_101 ?_
    exact ⟨_, rfl, by rw [e2], fun z => by rw [e2] at z; exact absurd z (show ¬ true = false by decide)⟩
  · by_cases hr : rg (q_ch p s) 48 57
    · have e : q_go2 f s (q_dig p s) = (false, s + 1) := by rw [q_go2, if_neg hf, q_dig, if_pos hr]; rfl
      have e2 : q_go2 f s (q_num p s) = (false, (q_nl p 3 (s + 1) (q_ch p s - 48)).1) := by rw [q_go2, if_neg hf, q_num, if_pos hr]; rfl
      rw [e] at hdg
      have e3 : (q_num p s).2.2 = (q_nl p 3 (s + 1) (q_ch p s - 48)).2 := by rw [q_num, if_pos hr]
      generalize hq : q_nl p 3 (s + 1) (q_ch p s - 48) = q at e2 e3
      generalize hQ : px_Qd T B J R m s f (q_num p s) = Q
      have LN : ∀ k s a, k ≤ 3 → s ≤ p.1 → q_ok k a → q_nl p k s (nI a) = q → (px_W l G yX8_number cX8_number 2 (some .int) (px_rm 3 0 0) (px_Fn G Q 0 0) 5 [some (.ref m), some (.int (nI a))] [] 0 0 (T, px_tk B m false s, J, R)) := by
        have fin : ∀ s v, (s, v) = q → px_Qd T B J R m s f (q_num p s) = px_Qd T B J R m s f (q_num p s) → Q (some (.int v)) (T, px_tk B m false s, J, R) := by
          intro s' v e4 _
          subst hQ
          subst e4
          exact ⟨v, rfl, by rw [e2], fun _ => e3.symm⟩
        intro k
        induction k with
        | zero =>
          intro s' a _ hs' hok hq'
          rw [q_nl] at hq'
          have f10 : px_tk B m false s' m 10 = 0 := by rw [tk_10]; rfl
          by_cases ha : a = 0
          · subst ha
            refine px_aload_0 dX8_number_5 ?_
            refine gf_X8_187 rfl dX8_number_6 (by first | assumption | exact mo_a hm | exact mo_r0 hm | exact mo_r1 hm | exact mo_r2 hm | exact mo_r4 hm | exact mo_r6 hm | exact mo_r8 hm | exact mo_a1 hm | exact mo_a2 hm | exact mo_a3 hm | exact mo_a4 hm | exact mo_a5 hm | exact mo_a6 hm) ?_
            refine px_if_ne (tgt := 100) dX8_number_9 (by decide) (fun h9 => (by first | exact absurd h9 (f10) | exact absurd (f10) h9)) (fun h9 => ?_)
            refine px_iload_1 dX8_number_12 ?_
            refine px_if_le (tgt := 100) dX8_number_13 (by decide) (fun h13 => ?_) (fun h13 => (by first | exact absurd ((by decide)) h13 | exact absurd h13 ((by decide))))
            refine px_iload_1 dX8_number_100 ?_
            refine px_iret dX8_number_101 ?_
            exact fin _ _ hq' rfl
          · have ha2 : ¬ nI a ≤ 0 := nI_nle (by omega) (by unfold q_ok at hok; omega)
            by_cases hl : s' < p.1
            · by_cases hr' : rg (q_ch p s') 48 57
              · obtain ⟨d, hd, ed, -⟩ := ch_dig hr'
                have ec : q_ch p s' = p.2 s' := if_pos hl
                have big : ¬ 10 * nI a + q_ch p s' - 48 ≤ 9999 := by
                  unfold q_ok at hok
                  rw [ed, show (10 : Int32) * nI a + nI (48 + d) - 48 = nI 10 * nI a + nI (48 + d) - nI 48 from rfl, pk_mul, nI_add, pk_sub (by omega)]
                  exact nI_ge (a := 9999) (by omega) (by omega)
                rw [ec] at big hr'
                refine px_aload_0 dX8_number_5 ?_
                refine gf_X8_187 rfl dX8_number_6 (by first | assumption | exact mo_a hm | exact mo_r0 hm | exact mo_r1 hm | exact mo_r2 hm | exact mo_r4 hm | exact mo_r6 hm | exact mo_r8 hm | exact mo_a1 hm | exact mo_a2 hm | exact mo_a3 hm | exact mo_a4 hm | exact mo_a5 hm | exact mo_a6 hm) ?_
                refine px_if_ne (tgt := 100) dX8_number_9 (by decide) (fun h9 => (by first | exact absurd h9 (f10) | exact absurd (f10) h9)) (fun h9 => ?_)
                refine px_iload_1 dX8_number_12 ?_
                refine px_if_le (tgt := 100) dX8_number_13 (by decide) (fun h13 => (by first | exact absurd h13 (ha2) | exact absurd (ha2) h13)) (fun h13 => ?_)
                refine px_aload_0 dX8_number_16 ?_
                refine gf_X8_184 rfl dX8_number_17 (by first | assumption | exact mo_a hm | exact mo_r0 hm | exact mo_r1 hm | exact mo_r2 hm | exact mo_r4 hm | exact mo_r6 hm | exact mo_r8 hm | exact mo_a1 hm | exact mo_a2 hm | exact mo_a3 hm | exact mo_a4 hm | exact mo_a5 hm | exact mo_a6 hm) ?_
                rw [tk_9]
                refine px_aload_0 dX8_number_20 ?_
                refine gf_X8_156 rfl dX8_number_21 (by first | assumption | exact mo_a hm | exact mo_r0 hm | exact mo_r1 hm | exact mo_r2 hm | exact mo_r4 hm | exact mo_r6 hm | exact mo_r8 hm | exact mo_a1 hm | exact mo_a2 hm | exact mo_a3 hm | exact mo_a4 hm | exact mo_a5 hm | exact mo_a6 hm) ?_
                rw [tk_nj (by decide) (by decide), b1]
                refine px_icmp_ge (tgt := 100) dX8_number_24 (by decide) (fun h24 => (by first | exact absurd h24 ((nI_ge hl (by omega))) | exact absurd ((nI_ge hl (by omega))) h24)) (fun h24 => ?_)
                refine px_aload_0 dX8_number_27 ?_
                refine gf_X8_22 rfl dX8_number_28 (by first | assumption | exact mo_a hm | exact mo_r0 hm | exact mo_r1 hm | exact mo_r2 hm | exact mo_r4 hm | exact mo_r6 hm | exact mo_r8 hm | exact mo_a1 hm | exact mo_a2 hm | exact mo_a3 hm | exact mo_a4 hm | exact mo_a5 hm | exact mo_a6 hm) (by first | assumption | exact mo_a hm | exact mo_r0 hm | exact mo_r1 hm | exact mo_r2 hm | exact mo_r4 hm | exact mo_r6 hm | exact mo_r8 hm | exact mo_a1 hm | exact mo_a2 hm | exact mo_a3 hm | exact mo_a4 hm | exact mo_a5 hm | exact mo_a6 hm) ?_
                refine px_aload_0 dX8_number_31 ?_
                refine gf_X8_184 rfl dX8_number_32 (by first | assumption | exact mo_a hm | exact mo_r0 hm | exact mo_r1 hm | exact mo_r2 hm | exact mo_r4 hm | exact mo_r6 hm | exact mo_r8 hm | exact mo_a1 hm | exact mo_a2 hm | exact mo_a3 hm | exact mo_a4 hm | exact mo_a5 hm | exact mo_a6 hm) ?_
                refine px_ialdN dX8_number_35 (by first | assumption | exact mo_a hm | exact mo_r0 hm | exact mo_r1 hm | exact mo_r2 hm | exact mo_r4 hm | exact mo_r6 hm | exact mo_r8 hm | exact mo_a1 hm | exact mo_a2 hm | exact mo_a3 hm | exact mo_a4 hm | exact mo_a5 hm | exact mo_a6 hm) (by exact tk_9) (by omega) ?_
                rw [tk_ne (by omega), b3 _ hl]
                refine px_bipush (48) dX8_number_36 rfl ?_
                refine px_bipush (57) dX8_number_38 rfl ?_
                refine cd_X8_29 rfl ⟨⟨Nat.le_of_ble_eq_true rfl, Nat.le_of_ble_eq_true rfl⟩, Nat.le_of_ble_eq_true rfl, Nat.le_of_ble_eq_true rfl, Nat.le_of_ble_eq_true rfl⟩ dX8_number_40 (s_X8_in) ?_
                refine px_ifb_eq (tgt := 100) dX8_number_43 (by decide) (fun h43 => (by first | exact absurd h43 (hr') | exact absurd (hr') h43)) (fun h43 => ?_)
                refine px_bipush (10) dX8_number_46 rfl ?_
                refine px_iload_1 dX8_number_48 ?_
                refine px_imul dX8_number_49 ?_
                refine px_aload_0 dX8_number_50 ?_
                refine gf_X8_22 rfl dX8_number_51 (by first | assumption | exact mo_a hm | exact mo_r0 hm | exact mo_r1 hm | exact mo_r2 hm | exact mo_r4 hm | exact mo_r6 hm | exact mo_r8 hm | exact mo_a1 hm | exact mo_a2 hm | exact mo_a3 hm | exact mo_a4 hm | exact mo_a5 hm | exact mo_a6 hm) (by first | assumption | exact mo_a hm | exact mo_r0 hm | exact mo_r1 hm | exact mo_r2 hm | exact mo_r4 hm | exact mo_r6 hm | exact mo_r8 hm | exact mo_a1 hm | exact mo_a2 hm | exact mo_a3 hm | exact mo_a4 hm | exact mo_a5 hm | exact mo_a6 hm) ?_
                refine px_aload_0 dX8_number_54 ?_
                refine gf_X8_184 rfl dX8_number_55 (by first | assumption | exact mo_a hm | exact mo_r0 hm | exact mo_r1 hm | exact mo_r2 hm | exact mo_r4 hm | exact mo_r6 hm | exact mo_r8 hm | exact mo_a1 hm | exact mo_a2 hm | exact mo_a3 hm | exact mo_a4 hm | exact mo_a5 hm | exact mo_a6 hm) ?_
                refine px_ialdN dX8_number_58 (by first | assumption | exact mo_a hm | exact mo_r0 hm | exact mo_r1 hm | exact mo_r2 hm | exact mo_r4 hm | exact mo_r6 hm | exact mo_r8 hm | exact mo_a1 hm | exact mo_a2 hm | exact mo_a3 hm | exact mo_a4 hm | exact mo_a5 hm | exact mo_a6 hm) (by exact tk_9) (by omega) ?_
                rw [tk_ne (by omega), b3 _ hl]
                refine px_iadd dX8_number_59 ?_
                refine px_bipush (48) dX8_number_60 rfl ?_
                refine px_isub dX8_number_62 ?_
                refine px_sipush (9999) dX8_number_63 rfl ?_
                refine px_icmp_gt (tgt := 100) dX8_number_66 (by decide) (fun h66 => ?_) (fun h66 => (by first | exact absurd ((Int32.not_le.mp big)) h66 | exact absurd h66 ((Int32.not_le.mp big))))
                refine px_iload_1 dX8_number_100 ?_
                refine px_iret dX8_number_101 ?_
                exact fin _ _ hq' rfl
              · have ec : q_ch p s' = p.2 s' := if_pos hl
                rw [ec] at hr'
                refine px_aload_0 dX8_number_5 ?_
                refine gf_X8_187 rfl dX8_number_6 (by first | assumption | exact mo_a hm | exact mo_r0 hm | exact mo_r1 hm | exact mo_r2 hm | exact mo_r4 hm | exact mo_r6 hm | exact mo_r8 hm | exact mo_a1 hm | exact mo_a2 hm | exact mo_a3 hm | exact mo_a4 hm | exact mo_a5 hm | exact mo_a6 hm) ?_
                refine px_if_ne (tgt := 100) dX8_number_9 (by decide) (fun h9 => (by first | exact absurd h9 (f10) | exact absurd (f10) h9)) (fun h9 => ?_)
                refine px_iload_1 dX8_number_12 ?_
                refine px_if_le (tgt := 100) dX8_number_13 (by decide) (fun h13 => (by first | exact absurd h13 (ha2) | exact absurd (ha2) h13)) (fun h13 => ?_)
                refine px_aload_0 dX8_number_16 ?_
                refine gf_X8_184 rfl dX8_number_17 (by first | assumption | exact mo_a hm | exact mo_r0 hm | exact mo_r1 hm | exact mo_r2 hm | exact mo_r4 hm | exact mo_r6 hm | exact mo_r8 hm | exact mo_a1 hm | exact mo_a2 hm | exact mo_a3 hm | exact mo_a4 hm | exact mo_a5 hm | exact mo_a6 hm) ?_
                rw [tk_9]
                refine px_aload_0 dX8_number_20 ?_
                refine gf_X8_156 rfl dX8_number_21 (by first | assumption | exact mo_a hm | exact mo_r0 hm | exact mo_r1 hm | exact mo_r2 hm | exact mo_r4 hm | exact mo_r6 hm | exact mo_r8 hm | exact mo_a1 hm | exact mo_a2 hm | exact mo_a3 hm | exact mo_a4 hm | exact mo_a5 hm | exact mo_a6 hm) ?_
                rw [tk_nj (by decide) (by decide), b1]
                refine px_icmp_ge (tgt := 100) dX8_number_24 (by decide) (fun h24 => (by first | exact absurd h24 ((nI_ge hl (by omega))) | exact absurd ((nI_ge hl (by omega))) h24)) (fun h24 => ?_)
                refine px_aload_0 dX8_number_27 ?_
                refine gf_X8_22 rfl dX8_number_28 (by first | assumption | exact mo_a hm | exact mo_r0 hm | exact mo_r1 hm | exact mo_r2 hm | exact mo_r4 hm | exact mo_r6 hm | exact mo_r8 hm | exact mo_a1 hm | exact mo_a2 hm | exact mo_a3 hm | exact mo_a4 hm | exact mo_a5 hm | exact mo_a6 hm) (by first | assumption | exact mo_a hm | exact mo_r0 hm | exact mo_r1 hm | exact mo_r2 hm | exact mo_r4 hm | exact mo_r6 hm | exact mo_r8 hm | exact mo_a1 hm | exact mo_a2 hm | exact mo_a3 hm | exact mo_a4 hm | exact mo_a5 hm | exact mo_a6 hm) ?_
                refine px_aload_0 dX8_number_31 ?_
                refine gf_X8_184 rfl dX8_number_32 (by first | assumption | exact mo_a hm | exact mo_r0 hm | exact mo_r1 hm | exact mo_r2 hm | exact mo_r4 hm | exact mo_r6 hm | exact mo_r8 hm | exact mo_a1 hm | exact mo_a2 hm | exact mo_a3 hm | exact mo_a4 hm | exact mo_a5 hm | exact mo_a6 hm) ?_
                refine px_ialdN dX8_number_35 (by first | assumption | exact mo_a hm | exact mo_r0 hm | exact mo_r1 hm | exact mo_r2 hm | exact mo_r4 hm | exact mo_r6 hm | exact mo_r8 hm | exact mo_a1 hm | exact mo_a2 hm | exact mo_a3 hm | exact mo_a4 hm | exact mo_a5 hm | exact mo_a6 hm) (by exact tk_9) (by omega) ?_
                rw [tk_ne (by omega), b3 _ hl]
                refine px_bipush (48) dX8_number_36 rfl ?_
                refine px_bipush (57) dX8_number_38 rfl ?_
                refine cd_X8_29 rfl ⟨⟨Nat.le_of_ble_eq_true rfl, Nat.le_of_ble_eq_true rfl⟩, Nat.le_of_ble_eq_true rfl, Nat.le_of_ble_eq_true rfl, Nat.le_of_ble_eq_true rfl⟩ dX8_number_40 (s_X8_in) ?_
                refine px_ifb_eq (tgt := 100) dX8_number_43 (by decide) (fun h43 => ?_) (fun h43 => (by first | exact absurd (hr') h43 | exact absurd h43 (hr')))
                refine px_iload_1 dX8_number_100 ?_
                refine px_iret dX8_number_101 ?_
                exact fin _ _ hq' rfl
            · skip
              refine px_aload_0 dX8_number_5 ?_
              refine gf_X8_187 rfl dX8_number_6 (by first | assumption | exact mo_a hm | exact mo_r0 hm | exact mo_r1 hm | exact mo_r2 hm | exact mo_r4 hm | exact mo_r6 hm | exact mo_r8 hm | exact mo_a1 hm | exact mo_a2 hm | exact mo_a3 hm | exact mo_a4 hm | exact mo_a5 hm | exact mo_a6 hm) ?_
              refine px_if_ne (tgt := 100) dX8_number_9 (by decide) (fun h9 => (by first | exact absurd h9 (f10) | exact absurd (f10) h9)) (fun h9 => ?_)
              refine px_iload_1 dX8_number_12 ?_
              refine px_if_le (tgt := 100) dX8_number_13 (by decide) (fun h13 => (by first | exact absurd h13 (ha2) | exact absurd (ha2) h13)) (fun h13 => ?_)
              refine px_aload_0 dX8_number_16 ?_
              refine gf_X8_184 rfl dX8_number_17 (by first | assumption | exact mo_a hm | exact mo_r0 hm | exact mo_r1 hm | exact mo_r2 hm | exact mo_r4 hm | exact mo_r6 hm | exact mo_r8 hm | exact mo_a1 hm | exact mo_a2 hm | exact mo_a3 hm | exact mo_a4 hm | exact mo_a5 hm | exact mo_a6 hm) ?_
              rw [tk_9]
              refine px_aload_0 dX8_number_20 ?_
              refine gf_X8_156 rfl dX8_number_21 (by first | assumption | exact mo_a hm | exact mo_r0 hm | exact mo_r1 hm | exact mo_r2 hm | exact mo_r4 hm | exact mo_r6 hm | exact mo_r8 hm | exact mo_a1 hm | exact mo_a2 hm | exact mo_a3 hm | exact mo_a4 hm | exact mo_a5 hm | exact mo_a6 hm) ?_
              rw [tk_nj (by decide) (by decide), b1]
              refine px_icmp_ge (tgt := 100) dX8_number_24 (by decide) (fun h24 => ?_) (fun h24 => (by first | exact absurd ((nI_le (Nat.not_lt.mp hl) (by omega))) h24 | exact absurd h24 ((nI_le (Nat.not_lt.mp hl) (by omega)))))
              refine px_iload_1 dX8_number_100 ?_
              refine px_iret dX8_number_101 ?_
              exact fin _ _ hq' rfl
        | succ k ih =>
          intro s' a hk hs' hok hq'
          have f10 : px_tk B m false s' m 10 = 0 := by rw [tk_10]; rfl
          by_cases ha : a = 0
          · subst ha
            rw [q_nl, if_neg (fun z => absurd z.1 (by decide))] at hq'
            refine px_aload_0 dX8_number_5 ?_
            refine gf_X8_187 rfl dX8_number_6 (by first | assumption | exact mo_a hm | exact mo_r0 hm | exact mo_r1 hm | exact mo_r2 hm | exact mo_r4 hm | exact mo_r6 hm | exact mo_r8 hm | exact mo_a1 hm | exact mo_a2 hm | exact mo_a3 hm | exact mo_a4 hm | exact mo_a5 hm | exact mo_a6 hm) ?_
            refine px_if_ne (tgt := 100) dX8_number_9 (by decide) (fun h9 => (by first | exact absurd h9 (f10) | exact absurd (f10) h9)) (fun h9 => ?_)
            refine px_iload_1 dX8_number_12 ?_
            refine px_if_le (tgt := 100) dX8_number_13 (by decide) (fun h13 => ?_) (fun h13 => (by first | exact absurd ((by decide)) h13 | exact absurd h13 ((by decide))))
            refine px_iload_1 dX8_number_100 ?_
            refine px_iret dX8_number_101 ?_
            exact fin _ _ hq' rfl
          · have ha2 : ¬ nI a ≤ 0 := nI_nle (by omega) (by unfold q_ok at hok; omega)
            by_cases hl : s' < p.1
            · have ec : q_ch p s' = p.2 s' := if_pos hl
              by_cases hr' : rg (q_ch p s') 48 57
              · obtain ⟨d, hd, ed, ed2⟩ := ch_dig hr'
                rw [q_nl, if_pos ⟨Int32.not_le.mp ha2, hr'⟩, ed2, show (10 : Int32) * nI a + nI d = nI 10 * nI a + nI d from rfl, pk_mul, nI_add] at hq'
                have hok2 : q_ok k (10 * a + d) := by unfold q_ok at hok ⊢; omega
                have hle : 10 * a + d ≤ 9999 := by unfold q_ok at hok; omega
                have ev : 10 * nI a + p.2 s' - 48 = nI (10 * a + d) := by rw [← ec, ed, show (10 : Int32) * nI a + nI (48 + d) - 48 = nI 10 * nI a + nI (48 + d) - nI 48 from rfl, pk_mul, nI_add, pk_sub (by omega), show 10 * a + (48 + d) - 48 = 10 * a + d by omega]
                have small : 10 * nI a + p.2 s' - 48 ≤ 9999 := by rw [ev]; exact nI_le (b := 9999) hle (by omega)
                rw [ec] at hr'
                refine px_aload_0 dX8_number_5 ?_
                refine gf_X8_187 rfl dX8_number_6 (by first | assumption | exact mo_a hm | exact mo_r0 hm | exact mo_r1 hm | exact mo_r2 hm | exact mo_r4 hm | exact mo_r6 hm | exact mo_r8 hm | exact mo_a1 hm | exact mo_a2 hm | exact mo_a3 hm | exact mo_a4 hm | exact mo_a5 hm | exact mo_a6 hm) ?_
                refine px_if_ne (tgt := 100) dX8_number_9 (by decide) (fun h9 => (by first | exact absurd h9 (f10) | exact absurd (f10) h9)) (fun h9 => ?_)
                refine px_iload_1 dX8_number_12 ?_
                refine px_if_le (tgt := 100) dX8_number_13 (by decide) (fun h13 => (by first | exact absurd h13 (ha2) | exact absurd (ha2) h13)) (fun h13 => ?_)
                refine px_aload_0 dX8_number_16 ?_
                refine gf_X8_184 rfl dX8_number_17 (by first | assumption | exact mo_a hm | exact mo_r0 hm | exact mo_r1 hm | exact mo_r2 hm | exact mo_r4 hm | exact mo_r6 hm | exact mo_r8 hm | exact mo_a1 hm | exact mo_a2 hm | exact mo_a3 hm | exact mo_a4 hm | exact mo_a5 hm | exact mo_a6 hm) ?_
                rw [tk_9]
                refine px_aload_0 dX8_number_20 ?_
                refine gf_X8_156 rfl dX8_number_21 (by first | assumption | exact mo_a hm | exact mo_r0 hm | exact mo_r1 hm | exact mo_r2 hm | exact mo_r4 hm | exact mo_r6 hm | exact mo_r8 hm | exact mo_a1 hm | exact mo_a2 hm | exact mo_a3 hm | exact mo_a4 hm | exact mo_a5 hm | exact mo_a6 hm) ?_
                rw [tk_nj (by decide) (by decide), b1]
                refine px_icmp_ge (tgt := 100) dX8_number_24 (by decide) (fun h24 => (by first | exact absurd h24 ((nI_ge hl (by omega))) | exact absurd ((nI_ge hl (by omega))) h24)) (fun h24 => ?_)
                refine px_aload_0 dX8_number_27 ?_
                refine gf_X8_22 rfl dX8_number_28 (by first | assumption | exact mo_a hm | exact mo_r0 hm | exact mo_r1 hm | exact mo_r2 hm | exact mo_r4 hm | exact mo_r6 hm | exact mo_r8 hm | exact mo_a1 hm | exact mo_a2 hm | exact mo_a3 hm | exact mo_a4 hm | exact mo_a5 hm | exact mo_a6 hm) (by first | assumption | exact mo_a hm | exact mo_r0 hm | exact mo_r1 hm | exact mo_r2 hm | exact mo_r4 hm | exact mo_r6 hm | exact mo_r8 hm | exact mo_a1 hm | exact mo_a2 hm | exact mo_a3 hm | exact mo_a4 hm | exact mo_a5 hm | exact mo_a6 hm) ?_
                refine px_aload_0 dX8_number_31 ?_
                refine gf_X8_184 rfl dX8_number_32 (by first | assumption | exact mo_a hm | exact mo_r0 hm | exact mo_r1 hm | exact mo_r2 hm | exact mo_r4 hm | exact mo_r6 hm | exact mo_r8 hm | exact mo_a1 hm | exact mo_a2 hm | exact mo_a3 hm | exact mo_a4 hm | exact mo_a5 hm | exact mo_a6 hm) ?_
                refine px_ialdN dX8_number_35 (by first | assumption | exact mo_a hm | exact mo_r0 hm | exact mo_r1 hm | exact mo_r2 hm | exact mo_r4 hm | exact mo_r6 hm | exact mo_r8 hm | exact mo_a1 hm | exact mo_a2 hm | exact mo_a3 hm | exact mo_a4 hm | exact mo_a5 hm | exact mo_a6 hm) (by exact tk_9) (by omega) ?_
                rw [tk_ne (by omega), b3 _ hl]
                refine px_bipush (48) dX8_number_36 rfl ?_
                refine px_bipush (57) dX8_number_38 rfl ?_
                refine cd_X8_29 rfl ⟨⟨Nat.le_of_ble_eq_true rfl, Nat.le_of_ble_eq_true rfl⟩, Nat.le_of_ble_eq_true rfl, Nat.le_of_ble_eq_true rfl, Nat.le_of_ble_eq_true rfl⟩ dX8_number_40 (s_X8_in) ?_
                refine px_ifb_eq (tgt := 100) dX8_number_43 (by decide) (fun h43 => (by first | exact absurd h43 (hr') | exact absurd (hr') h43)) (fun h43 => ?_)
                refine px_bipush (10) dX8_number_46 rfl ?_
                refine px_iload_1 dX8_number_48 ?_
                refine px_imul dX8_number_49 ?_
                refine px_aload_0 dX8_number_50 ?_
                refine gf_X8_22 rfl dX8_number_51 (by first | assumption | exact mo_a hm | exact mo_r0 hm | exact mo_r1 hm | exact mo_r2 hm | exact mo_r4 hm | exact mo_r6 hm | exact mo_r8 hm | exact mo_a1 hm | exact mo_a2 hm | exact mo_a3 hm | exact mo_a4 hm | exact mo_a5 hm | exact mo_a6 hm) (by first | assumption | exact mo_a hm | exact mo_r0 hm | exact mo_r1 hm | exact mo_r2 hm | exact mo_r4 hm | exact mo_r6 hm | exact mo_r8 hm | exact mo_a1 hm | exact mo_a2 hm | exact mo_a3 hm | exact mo_a4 hm | exact mo_a5 hm | exact mo_a6 hm) ?_
                refine px_aload_0 dX8_number_54 ?_
                refine gf_X8_184 rfl dX8_number_55 (by first | assumption | exact mo_a hm | exact mo_r0 hm | exact mo_r1 hm | exact mo_r2 hm | exact mo_r4 hm | exact mo_r6 hm | exact mo_r8 hm | exact mo_a1 hm | exact mo_a2 hm | exact mo_a3 hm | exact mo_a4 hm | exact mo_a5 hm | exact mo_a6 hm) ?_
                refine px_ialdN dX8_number_58 (by first | assumption | exact mo_a hm | exact mo_r0 hm | exact mo_r1 hm | exact mo_r2 hm | exact mo_r4 hm | exact mo_r6 hm | exact mo_r8 hm | exact mo_a1 hm | exact mo_a2 hm | exact mo_a3 hm | exact mo_a4 hm | exact mo_a5 hm | exact mo_a6 hm) (by exact tk_9) (by omega) ?_
                rw [tk_ne (by omega), b3 _ hl]
                refine px_iadd dX8_number_59 ?_
                refine px_bipush (48) dX8_number_60 rfl ?_
                refine px_isub dX8_number_62 ?_
                refine px_sipush (9999) dX8_number_63 rfl ?_
                refine px_icmp_gt (tgt := 100) dX8_number_66 (by decide) (fun h66 => (by first | exact absurd h66 ((Int32.not_lt.mpr small)) | exact absurd ((Int32.not_lt.mpr small)) h66)) (fun h66 => ?_)
                refine px_bipush (10) dX8_number_69 rfl ?_
                refine px_iload_1 dX8_number_71 ?_
                refine px_imul dX8_number_72 ?_
                refine px_aload_0 dX8_number_73 ?_
                refine gf_X8_22 rfl dX8_number_74 (by first | assumption | exact mo_a hm | exact mo_r0 hm | exact mo_r1 hm | exact mo_r2 hm | exact mo_r4 hm | exact mo_r6 hm | exact mo_r8 hm | exact mo_a1 hm | exact mo_a2 hm | exact mo_a3 hm | exact mo_a4 hm | exact mo_a5 hm | exact mo_a6 hm) (by first | assumption | exact mo_a hm | exact mo_r0 hm | exact mo_r1 hm | exact mo_r2 hm | exact mo_r4 hm | exact mo_r6 hm | exact mo_r8 hm | exact mo_a1 hm | exact mo_a2 hm | exact mo_a3 hm | exact mo_a4 hm | exact mo_a5 hm | exact mo_a6 hm) ?_
                refine px_aload_0 dX8_number_77 ?_
                refine gf_X8_184 rfl dX8_number_78 (by first | assumption | exact mo_a hm | exact mo_r0 hm | exact mo_r1 hm | exact mo_r2 hm | exact mo_r4 hm | exact mo_r6 hm | exact mo_r8 hm | exact mo_a1 hm | exact mo_a2 hm | exact mo_a3 hm | exact mo_a4 hm | exact mo_a5 hm | exact mo_a6 hm) ?_
                refine px_ialdN dX8_number_81 (by first | assumption | exact mo_a hm | exact mo_r0 hm | exact mo_r1 hm | exact mo_r2 hm | exact mo_r4 hm | exact mo_r6 hm | exact mo_r8 hm | exact mo_a1 hm | exact mo_a2 hm | exact mo_a3 hm | exact mo_a4 hm | exact mo_a5 hm | exact mo_a6 hm) (by exact tk_9) (by omega) ?_
                rw [tk_ne (by omega), b3 _ hl]
                refine px_iadd dX8_number_82 ?_
                refine px_bipush (48) dX8_number_83 rfl ?_
                refine px_isub dX8_number_85 ?_
                rw [ev]
                refine px_istore_1 dX8_number_86 rfl ?_
                refine px_aload_0 dX8_number_87 ?_
                refine px_dup dX8_number_88 rfl ?_
                refine gf_X8_184 rfl dX8_number_89 (by first | assumption | exact mo_a hm | exact mo_r0 hm | exact mo_r1 hm | exact mo_r2 hm | exact mo_r4 hm | exact mo_r6 hm | exact mo_r8 hm | exact mo_a1 hm | exact mo_a2 hm | exact mo_a3 hm | exact mo_a4 hm | exact mo_a5 hm | exact mo_a6 hm) ?_
                rw [tk_9]
                refine px_iconst (1) dX8_number_92 rfl ?_
                refine px_iadd dX8_number_93 ?_
                rw [nI_1]
                refine pf_X8_184 rfl dX8_number_94 (by first | assumption | exact mo_a hm | exact mo_r0 hm | exact mo_r1 hm | exact mo_r2 hm | exact mo_r4 hm | exact mo_r6 hm | exact mo_r8 hm | exact mo_a1 hm | exact mo_a2 hm | exact mo_a3 hm | exact mo_a4 hm | exact mo_a5 hm | exact mo_a6 hm) ?_
                rw [show px_up (px_tk B m false s') m 9 (nI (s' + 1)) = px_tk B m false (s' + 1) by unfold px_tk; exact px_up_up]
                refine px_goto (tgt := 5) dX8_number_97 (by decide) ?_
                exact ih _ _ (by omega) (by omega) hok2 hq'
              · rw [q_nl, if_neg (fun z => hr' z.2)] at hq'
                rw [ec] at hr'
                refine px_aload_0 dX8_number_5 ?_
                refine gf_X8_187 rfl dX8_number_6 (by first | assumption | exact mo_a hm | exact mo_r0 hm | exact mo_r1 hm | exact mo_r2 hm | exact mo_r4 hm | exact mo_r6 hm | exact mo_r8 hm | exact mo_a1 hm | exact mo_a2 hm | exact mo_a3 hm | exact mo_a4 hm | exact mo_a5 hm | exact mo_a6 hm) ?_
                refine px_if_ne (tgt := 100) dX8_number_9 (by decide) (fun h9 => (by first | exact absurd h9 (f10) | exact absurd (f10) h9)) (fun h9 => ?_)
                refine px_iload_1 dX8_number_12 ?_
                refine px_if_le (tgt := 100) dX8_number_13 (by decide) (fun h13 => (by first | exact absurd h13 (ha2) | exact absurd (ha2) h13)) (fun h13 => ?_)
                refine px_aload_0 dX8_number_16 ?_
                refine gf_X8_184 rfl dX8_number_17 (by first | assumption | exact mo_a hm | exact mo_r0 hm | exact mo_r1 hm | exact mo_r2 hm | exact mo_r4 hm | exact mo_r6 hm | exact mo_r8 hm | exact mo_a1 hm | exact mo_a2 hm | exact mo_a3 hm | exact mo_a4 hm | exact mo_a5 hm | exact mo_a6 hm) ?_
                rw [tk_9]
                refine px_aload_0 dX8_number_20 ?_
                refine gf_X8_156 rfl dX8_number_21 (by first | assumption | exact mo_a hm | exact mo_r0 hm | exact mo_r1 hm | exact mo_r2 hm | exact mo_r4 hm | exact mo_r6 hm | exact mo_r8 hm | exact mo_a1 hm | exact mo_a2 hm | exact mo_a3 hm | exact mo_a4 hm | exact mo_a5 hm | exact mo_a6 hm) ?_
                rw [tk_nj (by decide) (by decide), b1]
                refine px_icmp_ge (tgt := 100) dX8_number_24 (by decide) (fun h24 => (by first | exact absurd h24 ((nI_ge hl (by omega))) | exact absurd ((nI_ge hl (by omega))) h24)) (fun h24 => ?_)
                refine px_aload_0 dX8_number_27 ?_
                refine gf_X8_22 rfl dX8_number_28 (by first | assumption | exact mo_a hm | exact mo_r0 hm | exact mo_r1 hm | exact mo_r2 hm | exact mo_r4 hm | exact mo_r6 hm | exact mo_r8 hm | exact mo_a1 hm | exact mo_a2 hm | exact mo_a3 hm | exact mo_a4 hm | exact mo_a5 hm | exact mo_a6 hm) (by first | assumption | exact mo_a hm | exact mo_r0 hm | exact mo_r1 hm | exact mo_r2 hm | exact mo_r4 hm | exact mo_r6 hm | exact mo_r8 hm | exact mo_a1 hm | exact mo_a2 hm | exact mo_a3 hm | exact mo_a4 hm | exact mo_a5 hm | exact mo_a6 hm) ?_
                refine px_aload_0 dX8_number_31 ?_
                refine gf_X8_184 rfl dX8_number_32 (by first | assumption | exact mo_a hm | exact mo_r0 hm | exact mo_r1 hm | exact mo_r2 hm | exact mo_r4 hm | exact mo_r6 hm | exact mo_r8 hm | exact mo_a1 hm | exact mo_a2 hm | exact mo_a3 hm | exact mo_a4 hm | exact mo_a5 hm | exact mo_a6 hm) ?_
                refine px_ialdN dX8_number_35 (by first | assumption | exact mo_a hm | exact mo_r0 hm | exact mo_r1 hm | exact mo_r2 hm | exact mo_r4 hm | exact mo_r6 hm | exact mo_r8 hm | exact mo_a1 hm | exact mo_a2 hm | exact mo_a3 hm | exact mo_a4 hm | exact mo_a5 hm | exact mo_a6 hm) (by exact tk_9) (by omega) ?_
                rw [tk_ne (by omega), b3 _ hl]
                refine px_bipush (48) dX8_number_36 rfl ?_
                refine px_bipush (57) dX8_number_38 rfl ?_
                refine cd_X8_29 rfl ⟨⟨Nat.le_of_ble_eq_true rfl, Nat.le_of_ble_eq_true rfl⟩, Nat.le_of_ble_eq_true rfl, Nat.le_of_ble_eq_true rfl, Nat.le_of_ble_eq_true rfl⟩ dX8_number_40 (s_X8_in) ?_
                refine px_ifb_eq (tgt := 100) dX8_number_43 (by decide) (fun h43 => ?_) (fun h43 => (by first | exact absurd (hr') h43 | exact absurd h43 (hr')))
                refine px_iload_1 dX8_number_100 ?_
                refine px_iret dX8_number_101 ?_
                exact fin _ _ hq' rfl
            · have hr' : ¬ rg (q_ch p s') 48 57 := fun z => hl (ch_in rg_48 z).1
              rw [q_nl, if_neg (fun z => hr' z.2)] at hq'
              refine px_aload_0 dX8_number_5 ?_
              refine gf_X8_187 rfl dX8_number_6 (by first | assumption | exact mo_a hm | exact mo_r0 hm | exact mo_r1 hm | exact mo_r2 hm | exact mo_r4 hm | exact mo_r6 hm | exact mo_r8 hm | exact mo_a1 hm | exact mo_a2 hm | exact mo_a3 hm | exact mo_a4 hm | exact mo_a5 hm | exact mo_a6 hm) ?_
              refine px_if_ne (tgt := 100) dX8_number_9 (by decide) (fun h9 => (by first | exact absurd h9 (f10) | exact absurd (f10) h9)) (fun h9 => ?_)
              refine px_iload_1 dX8_number_12 ?_
              refine px_if_le (tgt := 100) dX8_number_13 (by decide) (fun h13 => (by first | exact absurd h13 (ha2) | exact absurd (ha2) h13)) (fun h13 => ?_)
              refine px_aload_0 dX8_number_16 ?_
              refine gf_X8_184 rfl dX8_number_17 (by first | assumption | exact mo_a hm | exact mo_r0 hm | exact mo_r1 hm | exact mo_r2 hm | exact mo_r4 hm | exact mo_r6 hm | exact mo_r8 hm | exact mo_a1 hm | exact mo_a2 hm | exact mo_a3 hm | exact mo_a4 hm | exact mo_a5 hm | exact mo_a6 hm) ?_
              rw [tk_9]
              refine px_aload_0 dX8_number_20 ?_
              refine gf_X8_156 rfl dX8_number_21 (by first | assumption | exact mo_a hm | exact mo_r0 hm | exact mo_r1 hm | exact mo_r2 hm | exact mo_r4 hm | exact mo_r6 hm | exact mo_r8 hm | exact mo_a1 hm | exact mo_a2 hm | exact mo_a3 hm | exact mo_a4 hm | exact mo_a5 hm | exact mo_a6 hm) ?_
              rw [tk_nj (by decide) (by decide), b1]
              refine px_icmp_ge (tgt := 100) dX8_number_24 (by decide) (fun h24 => ?_) (fun h24 => (by first | exact absurd ((nI_le (Nat.not_lt.mp hl) (by omega))) h24 | exact absurd h24 ((nI_le (Nat.not_lt.mp hl) (by omega)))))
              refine px_iload_1 dX8_number_100 ?_
              refine px_iret dX8_number_101 ?_
              exact fin _ _ hq' rfl
      obtain ⟨d, hd, ed, ed2⟩ := ch_dig hr
      rw [ed2] at hq hdg
      refine px_aload_0 dX8_number_0 ?_
      refine cd_X8_194 rfl ⟨⟨Nat.le_of_ble_eq_true rfl, Nat.le_of_ble_eq_true rfl⟩, Nat.le_of_ble_eq_true rfl, Nat.le_of_ble_eq_true rfl, Nat.le_of_ble_eq_true rfl⟩ (by first | assumption | exact mo_a hm | exact mo_r0 hm | exact mo_r1 hm | exact mo_r2 hm | exact mo_r4 hm | exact mo_r6 hm | exact mo_r8 hm | exact mo_a1 hm | exact mo_a2 hm | exact mo_a3 hm | exact mo_a4 hm | exact mo_a5 hm | exact mo_a6 hm) dX8_number_1 (hdg) ?_
      refine px_istore_1 dX8_number_4 rfl ?_
      exact LN 3 (s + 1) d (by decide) (ch_in rg_48 hr).1 (by unfold q_ok; omega) hq
    · have e : q_go2 f s (q_dig p s) = (true, s) := by rw [q_go2, if_neg hf, q_dig, if_neg hr]; rfl
      have e2 : q_go2 f s (q_num p s) = (true, s) := by rw [q_go2, if_neg hf, q_num, if_neg hr]; rfl
      rw [e] at hdg
      have f10 : ¬ px_tk B m true s m 10 = 0 := by rw [tk_10]; decide
      refine px_aload_0 dX8_number_0 ?_
      refine cd_X8_194 rfl ⟨⟨Nat.le_of_ble_eq_true rfl, Nat.le_of_ble_eq_true rfl⟩, Nat.le_of_ble_eq_true rfl, Nat.le_of_ble_eq_true rfl, Nat.le_of_ble_eq_true rfl⟩ (by first | assumption | exact mo_a hm | exact mo_r0 hm | exact mo_r1 hm | exact mo_r2 hm | exact mo_r4 hm | exact mo_r6 hm | exact mo_r8 hm | exact mo_a1 hm | exact mo_a2 hm | exact mo_a3 hm | exact mo_a4 hm | exact mo_a5 hm | exact mo_a6 hm) dX8_number_1 (hdg) ?_
      refine px_istore_1 dX8_number_4 rfl ?_
      refine px_aload_0 dX8_number_5 ?_
      refine gf_X8_187 rfl dX8_number_6 (by first | assumption | exact mo_a hm | exact mo_r0 hm | exact mo_r1 hm | exact mo_r2 hm | exact mo_r4 hm | exact mo_r6 hm | exact mo_r8 hm | exact mo_a1 hm | exact mo_a2 hm | exact mo_a3 hm | exact mo_a4 hm | exact mo_a5 hm | exact mo_a6 hm) ?_
      refine px_if_ne (tgt := 100) dX8_number_9 (by decide) (fun h9 => ?_) (fun h9 => (by first | exact absurd (f10) h9 | exact absurd h9 (f10)))
      refine px_iload_1 dX8_number_100 ?_
      refine px_iret dX8_number_101 ?_
      exact ⟨_, rfl, by rw [e2], fun z => by rw [e2] at z; exact absurd z (show ¬ true = false by decide)⟩
end MRD

