/-! prices that are lowered by ends until all are honest: any order of lowering, and eight rounds over all, come to the same -/
section HON
def updn (P : Nat → Nat) (k v : Nat) : Nat → Nat := fun j => if j = k then v else P j
theorem updn_eq {P : Nat → Nat} {k v : Nat} : updn P k v k = v := if_pos rfl
theorem updn_ne {P : Nat → Nat} {k v j : Nat} (h : j ≠ k) : updn P k v j = P j := if_neg h
def h_relax (a b : Nat → Nat) (F : Nat → Nat → Nat) (q : Nat) (P : Nat → Nat) : Nat → Nat := updn P (b q) (min (P (b q)) (F q (P (a q))))
def h_rnd (a b : Nat → Nat) (F : Nat → Nat → Nat) (P : Nat → Nat) : Nat → Nat → Nat
  | 0 => P
  | k + 1 => h_relax a b F k (h_rnd a b F P k)
def h_R (n : Nat) (a b : Nat → Nat) (F : Nat → Nat → Nat) (P : Nat → Nat) : Nat → Nat → Nat
  | 0 => P
  | k + 1 => h_rnd a b F (h_R n a b F P k) n
def h_feas (n : Nat) (a b : Nat → Nat) (F : Nat → Nat → Nat) (P : Nat → Nat) : Prop := ∀ q, q < n → P (b q) ≤ F q (P (a q))
def h_gr (n : Nat) (a b : Nat → Nat) (F : Nat → Nat → Nat) (P0 H : Nat → Nat) : Prop :=
  h_feas n a b F H ∧ (∀ t, H t ≤ P0 t) ∧ ∀ P, h_feas n a b F P → (∀ t, P t ≤ P0 t) → ∀ t, P t ≤ H t
def h_cn (p : Nat → Prop) [DecidablePred p] : Nat → Nat
  | 0 => 0
  | n + 1 => h_cn p n + if p n then 1 else 0
theorem h_cn_le (p : Nat → Prop) [DecidablePred p] (n : Nat) : h_cn p n ≤ n := by
  induction n with
  | zero => exact Nat.le_refl _
  | succ n ih => rw [h_cn]; split <;> omega
theorem h_cn_mono (p q : Nat → Prop) [DecidablePred p] [DecidablePred q] (n : Nat) (h : ∀ v, v < n → p v → q v) : h_cn p n ≤ h_cn q n := by
  induction n with
  | zero => exact Nat.le_refl _
  | succ n ih =>
    have h1 := ih (fun v hv => h v (by omega))
    have h2 := h n (by omega)
    rw [h_cn, h_cn]
    by_cases hp : p n
    · rw [if_pos hp, if_pos (h2 hp)]; omega
    · rw [if_neg hp]; omega
theorem h_cn_lt (p q : Nat → Prop) [DecidablePred p] [DecidablePred q] (n : Nat) (h : ∀ v, v < n → p v → q v) {v : Nat} (hv : v < n) (h1 : ¬ p v) (h2 : q v) : h_cn p n < h_cn q n := by
  induction n with
  | zero => exact absurd hv (by omega)
  | succ n ih =>
    rw [h_cn, h_cn]
    rcases (by omega : v < n ∨ v = n) with z | rfl
    · have h3 := ih (fun v hv => h v (by omega)) z
      have h4 := h n (by omega)
      by_cases hp : p n
      · rw [if_pos hp, if_pos (h4 hp)]; omega
      · rw [if_neg hp]; omega
    · have h3 := h_cn_mono p q v (fun u hu => h u (by omega))
      rw [if_neg h1, if_pos h2]; omega
theorem h_cn_all (p : Nat → Prop) [DecidablePred p] (n : Nat) (h : h_cn p n = n) : ∀ v, v < n → p v := by
  induction n with
  | zero => intro v hv; exact absurd hv (by omega)
  | succ n ih =>
    rw [h_cn] at h
    have := h_cn_le p n
    intro v hv
    by_cases hp : p n
    · rw [if_pos hp] at h
      rcases (by omega : v < n ∨ v = n) with z | rfl
      · exact ih (by omega) v z
      · exact hp
    · rw [if_neg hp] at h; omega
def h_sum (P : Nat → Nat) : Nat → Nat
  | 0 => 0
  | n + 1 => h_sum P n + P n
theorem h_sum_le {P P' : Nat → Nat} (n : Nat) (h : ∀ t, P' t ≤ P t) : h_sum P' n ≤ h_sum P n := by
  induction n with
  | zero => exact Nat.le_refl _
  | succ n ih => have := h n; rw [h_sum, h_sum]; omega
theorem h_sum_lt {P P' : Nat → Nat} (n : Nat) (h : ∀ t, P' t ≤ P t) {v : Nat} (hv : v < n) (hl : P' v < P v) : h_sum P' n < h_sum P n := by
  induction n with
  | zero => exact absurd hv (by omega)
  | succ n ih =>
    rw [h_sum, h_sum]
    rcases (by omega : v < n ∨ v = n) with z | rfl
    · have := h n; have := ih z; omega
    · have := h_sum_le v h; omega
section HT
variable {n : Nat} {a b : Nat → Nat} {F : Nat → Nat → Nat} {P P0 H : Nat → Nat}
theorem relax_le (q : Nat) (t : Nat) : h_relax a b F q P t ≤ P t := by
  unfold h_relax updn
  split
  · rename_i e; subst e; exact Nat.min_le_left _ _
  · exact Nat.le_refl _
theorem relax_b (q : Nat) : h_relax a b F q P (b q) ≤ F q (P (a q)) := by
  unfold h_relax; rw [updn_eq]; exact Nat.min_le_right _ _
theorem relax_ge (hm : ∀ q p p', p ≤ p' → F q p ≤ F q p') {q : Nat} (hq : q < n) (hf : h_feas n a b F H) (h : ∀ t, H t ≤ P t) (t : Nat) : H t ≤ h_relax a b F q P t := by
  unfold h_relax updn
  split
  · rename_i e; subst e
    exact Nat.le_min.mpr ⟨h _, Nat.le_trans (hf q hq) (hm q _ _ (h _))⟩
  · exact h t
theorem rnd_le (k t : Nat) : h_rnd a b F P k t ≤ P t := by
  induction k with
  | zero => exact Nat.le_refl _
  | succ k ih => exact Nat.le_trans (relax_le k t) ih
theorem rnd_mono {k j : Nat} (h : k ≤ j) (t : Nat) : h_rnd a b F P j t ≤ h_rnd a b F P k t := by
  induction j with
  | zero => obtain rfl : k = 0 := by omega
            exact Nat.le_refl _
  | succ j ih =>
    rcases (by omega : k ≤ j ∨ k = j + 1) with z | rfl
    · exact Nat.le_trans (relax_le j t) (ih z)
    · exact Nat.le_refl _
theorem rnd_ge (hm : ∀ q p p', p ≤ p' → F q p ≤ F q p') (hf : h_feas n a b F H) (h : ∀ t, H t ≤ P t) {k : Nat} (hk : k ≤ n) (t : Nat) : H t ≤ h_rnd a b F P k t := by
  induction k generalizing t with
  | zero => exact h t
  | succ k ih => exact relax_ge hm (by omega) hf (fun t => ih (by omega) t) t
theorem R_le (k t : Nat) : h_R n a b F P0 k t ≤ P0 t := by
  induction k with
  | zero => exact Nat.le_refl _
  | succ k ih => exact Nat.le_trans (rnd_le n t) ih
theorem R_ge (hm : ∀ q p p', p ≤ p' → F q p ≤ F q p') (hf : h_feas n a b F H) (h : ∀ t, H t ≤ P0 t) (k t : Nat) : H t ≤ h_R n a b F P0 k t := by
  induction k generalizing t with
  | zero => exact h t
  | succ k ih => exact rnd_ge hm hf ih (Nat.le_refl _) t
theorem h_ex (hm : ∀ q p p', p ≤ p' → F q p ≤ F q p') (hb : ∀ q, q < n → b q < 8) : ∀ s P, h_sum P 8 ≤ s → ∃ H, h_gr n a b F P H := by
  intro s
  induction s with
  | zero =>
    intro P hs
    by_cases hf : h_feas n a b F P
    · exact ⟨P, hf, fun _ => Nat.le_refl _, fun P' _ h => h⟩
    · exfalso
      apply hf
      intro q hq
      have e : P (b q) = 0 := by
        have hz : ∀ n, h_sum P n ≤ 0 → ∀ t, t < n → P t = 0 := by
          intro n
          induction n with
          | zero => intro _ t ht; exact absurd ht (by omega)
          | succ n ih =>
            intro h t ht
            rw [h_sum] at h
            rcases (by omega : t < n ∨ t = n) with z | rfl
            · exact ih (by omega) t z
            · omega
        exact hz 8 hs _ (hb q hq)
      omega
  | succ s ih =>
    intro P hs
    by_cases hf : h_feas n a b F P
    · exact ⟨P, hf, fun _ => Nat.le_refl _, fun P' _ h => h⟩
    · obtain ⟨q, hq⟩ : ∃ q, q < n ∧ ¬ P (b q) ≤ F q (P (a q)) := Classical.byContradiction (fun z => hf (fun q hq => Classical.byContradiction (fun y => z ⟨q, hq, y⟩)))
      obtain ⟨hq, hv⟩ := hq
      have hlt : h_sum (h_relax a b F q P) 8 < h_sum P 8 := h_sum_lt 8 (fun t => relax_le q t) (hb q hq) (Nat.lt_of_le_of_lt (relax_b q) (by omega))
      obtain ⟨H, h1, h2, h3⟩ := ih (h_relax a b F q P) (by omega)
      exact ⟨H, h1, fun t => Nat.le_trans (h2 t) (relax_le q t), fun P' hP' hle => h3 P' hP' (fun t => relax_ge hm hq hP' hle t)⟩
/-- a least one of a set -/
theorem h_least (S : Nat → Prop) (f : Nat → Nat) : ∀ k v, f v ≤ k → S v → ∃ u, S u ∧ ∀ w, S w → f u ≤ f w := by
  intro k
  induction k with
  | zero => intro v h hS; exact ⟨v, hS, fun w _ => by omega⟩
  | succ k ih =>
    intro v h hS
    by_cases q : ∃ w, S w ∧ f w < f v
    · obtain ⟨w, hw, hl⟩ := q
      exact ih w (by omega) hw
    · exact ⟨v, hS, fun w hw => Nat.not_lt.mp (fun z => q ⟨w, hw, z⟩)⟩
/-- where one isn't at its end yet, one comes to its end with the next round -/
theorem h_next (hm : ∀ q p p', p ≤ p' → F q p ≤ F q p') (hi : ∀ q p, p ≤ F q p) (hg : h_gr n a b F P0 H) (hP : ∀ t, P t ≤ P0 t) (hP2 : ∀ t, H t ≤ P t) {v : Nat} (hv : P v ≠ H v) : ∃ u, P u ≠ H u ∧ h_rnd a b F P n u = H u := by
  obtain ⟨h1, h2, h3⟩ := hg
  obtain ⟨m, hmS, hmin⟩ := h_least (fun t => P t ≠ H t) H _ v (Nat.le_refl _) hv
  -- a tight end from one that is at its end
  have key : ∃ q, q < n ∧ (P (b q) ≠ H (b q) ∧ H (b q) = H m) ∧ P (a q) = H (a q) ∧ F q (H (a q)) ≤ H (b q) := by
    refine Classical.byContradiction (fun no => ?_)
    have hH := h3 (fun t => if P t ≠ H t ∧ H t = H m then H m + 1 else H t) (by
      intro q hq
      try dsimp only
      by_cases hw : P (b q) ≠ H (b q) ∧ H (b q) = H m
      · rw [if_pos hw]
        by_cases hu : P (a q) = H (a q)
        · rw [if_neg (fun z => z.1 hu)]
          have : ¬ F q (H (a q)) ≤ H (b q) := fun z => no ⟨q, hq, hw, hu, z⟩
          omega
        · by_cases hu2 : H (a q) = H m
          · rw [if_pos ⟨hu, hu2⟩]; exact hi q _
          · rw [if_neg (fun z => hu2 z.2)]
            have := hmin (a q) hu
            have := hi q (H (a q))
            omega
      · rw [if_neg hw]
        refine Nat.le_trans (h1 q hq) (hm q _ _ ?_)
        split
        · rename_i z; omega
        · exact Nat.le_refl _) (fun t => by
      try dsimp only
      split
      · rename_i z
        have h4 := hP t
        have h5 := hP2 t
        obtain ⟨z1, z2⟩ := z
        omega
      · exact h2 t) m
    try dsimp only at hH
    rw [if_pos ⟨hmS, rfl⟩] at hH
    omega
  obtain ⟨q, hq, ⟨hw, -⟩, hu, ht⟩ := key
  refine ⟨b q, hw, Nat.le_antisymm ?_ (rnd_ge hm h1 hP2 (Nat.le_refl _) _)⟩
  have e1 : h_rnd a b F P (q + 1) (b q) ≤ F q (h_rnd a b F P q (a q)) := relax_b q
  have e2 : h_rnd a b F P q (a q) ≤ H (a q) := by rw [← hu]; exact rnd_le q _
  exact Nat.le_trans (rnd_mono (Nat.succ_le_of_lt hq) _) (Nat.le_trans e1 (Nat.le_trans (hm q _ _ e2) ht))
theorem R_out (hb : ∀ q, q < n → b q < 8) {t : Nat} (ht : 8 ≤ t) (k : Nat) : h_R n a b F P0 k t = P0 t := by
  have hr : ∀ (P : Nat → Nat) j, j ≤ n → h_rnd a b F P j t = P t := by
    intro P j
    induction j with
    | zero => intro _; rfl
    | succ j ih =>
      intro hj
      rw [h_rnd, h_relax, updn_ne (by have := hb j (by omega); omega)]
      exact ih (by omega)
  induction k with
  | zero => rfl
  | succ k ih => rw [h_R, hr _ _ (Nat.le_refl _)]; exact ih
/-- eight rounds are enough -/
theorem R_gr (hm : ∀ q p p', p ≤ p' → F q p ≤ F q p') (hi : ∀ q p, p ≤ F q p) (hb : ∀ q, q < n → b q < 8) : h_gr n a b F P0 (h_R n a b F P0 8) := by
  obtain ⟨H, hH⟩ := h_ex (n := n) (a := a) hm hb _ P0 (Nat.le_refl _)
  have hge : ∀ k t, H t ≤ h_R n a b F P0 k t := fun k t => R_ge hm hH.1 hH.2.1 k t
  have hout : ∀ t, 8 ≤ t → H t = P0 t := by
    intro t ht
    have := hH.2.2 (fun u => if u = t then P0 t else H u) (by
      intro q hq
      try dsimp only
      rw [if_neg (by have := hb q hq; omega)]
      split
      · rename_i e
        refine Nat.le_trans (hH.1 q hq) (hm q _ _ ?_)
        rw [e]; exact hH.2.1 t
      · exact hH.1 q hq) (fun u => by
      try dsimp only
      split
      · rename_i e; rw [e]; exact Nat.le_refl _
      · exact hH.2.1 u) t
    try dsimp only at this
    rw [if_pos rfl] at this
    exact Nat.le_antisymm (hH.2.1 t) this
  have hcn : ∀ k, k ≤ 8 → k ≤ h_cn (fun t => h_R n a b F P0 k t = H t) 8 := by
    intro k
    induction k with
    | zero => intro _; exact Nat.zero_le _
    | succ k ih =>
      intro hk
      have h1 := ih (by omega)
      have hkeep : ∀ v, v < 8 → h_R n a b F P0 k v = H v → h_R n a b F P0 (k + 1) v = H v := by
        intro v _ e
        refine Nat.le_antisymm ?_ (hge _ v)
        rw [← e]
        exact rnd_le n v
      by_cases hall : ∃ v, h_R n a b F P0 k v ≠ H v
      · obtain ⟨v, hv⟩ := hall
        obtain ⟨u, hu1, hu2⟩ := h_next (P := h_R n a b F P0 k) hm hi hH (fun t => R_le k t) (hge k) hv
        have hu8 : u < 8 := by
          refine Classical.byContradiction (fun z => hu1 ?_)
          rw [R_out hb (by omega), hout u (by omega)]
        have := h_cn_lt (fun t => h_R n a b F P0 k t = H t) (fun t => h_R n a b F P0 (k + 1) t = H t) 8 hkeep hu8 hu1 hu2
        omega
      · have e : h_cn (fun t => h_R n a b F P0 (k + 1) t = H t) 8 = 8 := by
          have hz : ∀ j, j ≤ 8 → h_cn (fun t => h_R n a b F P0 (k + 1) t = H t) j = j := by
            intro j
            induction j with
            | zero => intro _; rfl
            | succ j ih2 =>
              intro hj
              rw [h_cn, ih2 (by omega), if_pos]
              exact hkeep j (by omega) (Classical.byContradiction (fun z => hall ⟨j, z⟩))
          exact hz 8 (Nat.le_refl _)
        omega
  have h8 := hcn 8 (Nat.le_refl _)
  have hle := h_cn_le (fun t => h_R n a b F P0 8 t = H t) 8
  have hall := h_cn_all (fun t => h_R n a b F P0 8 t = H t) 8 (by omega)
  have e : h_R n a b F P0 8 = H := by
    funext t
    rcases (by omega : t < 8 ∨ 8 ≤ t) with z | z
    · exact hall t z
    · rw [R_out hb z, hout t z]
  rw [e]
  exact hH
theorem gr_uniq {H' : Nat → Nat} (h : h_gr n a b F P0 H) (h' : h_feas n a b F H') (h1 : ∀ t, H t ≤ H' t) (h2 : ∀ t, H' t ≤ P0 t) : H' = H := funext (fun t => Nat.le_antisymm (h.2.2 H' h' h2 t) (h1 t))
end HT
end HON
