section MHN
def n_F (σ : px_s) (q p : Nat) : Nat := min (p + ix (σ (9 + 6 * (q / 2) + 2))) ((100 * p + ix (f_cr σ (q / 2)) * ix (σ 142)) / (100 - ix (f_cr σ (q / 2))))
def n_a (σ : px_s) (q : Nat) : Nat := ix (σ (9 + 6 * (q / 2) + q % 2))
def n_b (σ : px_s) (q : Nat) : Nat := ix (σ (9 + 6 * (q / 2) + (1 - q % 2)))
def f_hp (σ : px_s) : Nat → Nat := h_R (2 * f_nr σ) (n_a σ) (n_b σ) (n_F σ) (fun t => ix (σ t)) 8
/-- with other prices -/
def f_pr (σ : px_s) (P : Nat → Nat) : px_s := fun k => if k < 8 then nI (P k) else σ k
def f_df (σ : px_s) : Nat → Int32
  | 0 => 0
  | t + 1 => f_df σ t + if nI (f_hp σ t) = σ t then 0 else 1
variable {l : Launch} {G : px_G} {T : px_T} {I : px_I} {J : px_J} {R : px_R} {μ : px_M} {m : Nat} {σ : px_s} {P : Nat → Nat}
theorem cr_le (r : Nat) : ix (f_cr σ r) ≤ 90 := by
  unfold f_cr f_ch
  split
  · rename_i h
    rw [Int32.lt_iff_toInt_lt, show (90 : Int32).toInt = 90 from rfl] at h
    unfold ix Int32.toNatClampNeg
    omega
  · exact Nat.le_refl _
theorem nF_mono (q p p' : Nat) (h : p ≤ p') : n_F σ q p ≤ n_F σ q p' := by
  unfold n_F
  have h2 : (100 * p + ix (f_cr σ (q / 2)) * ix (σ 142)) / (100 - ix (f_cr σ (q / 2))) ≤ (100 * p' + ix (f_cr σ (q / 2)) * ix (σ 142)) / (100 - ix (f_cr σ (q / 2))) := Nat.div_le_div_right (by omega)
  omega
theorem nF_inf (q p : Nat) : p ≤ n_F σ q p := by
  unfold n_F
  have h90 := cr_le (σ := σ) (q / 2)
  have h2 : p ≤ (100 * p + ix (f_cr σ (q / 2)) * ix (σ 142)) / (100 - ix (f_cr σ (q / 2))) := by
    rw [Nat.le_div_iff_mul_le (by omega)]
    have : p * (100 - ix (f_cr σ (q / 2))) ≤ p * 100 := Nat.mul_le_mul_left _ (by omega)
    omega
  omega
theorem pr_hi {k : Nat} (h : 8 ≤ k) : f_pr σ P k = σ k := if_neg (by omega)
theorem pr_lo {k : Nat} (h : k < 8) : f_pr σ P k = nI (P k) := if_pos h
theorem rg_ix {v : Int32} {a b : Nat} (ha : a < 2 ^ 31) (hb : b < 2 ^ 31) (h : rg v (nI a) (nI b)) : v = nI (ix v) ∧ a ≤ ix v ∧ ix v ≤ b := by
  rw [rg_ti, nI_ti ha, nI_ti hb] at h
  have h0 := ix_ti (v := v) (by omega)
  exact ⟨ix_eq (hi := nI b) (by rw [rg_ti, nI_ti hb, show (0 : Int32).toInt = 0 from rfl]; omega), by omega, by omega⟩
theorem cr_nI (hV : px_V σ) {r : Nat} (hr : r < f_nr σ) : f_cr σ r = nI (ix (f_cr σ r)) := by
  obtain ⟨-, -, -, -, -, -, -, -, hg⟩ := hV.2.1 r hr
  have h1 := hV.2.2.2.2.2.2.2.1
  obtain ⟨e1, -, b1⟩ := rg_ix (a := 0) (b := 40) (by decide) (by decide) hg
  obtain ⟨e2, a2, b2⟩ := rg_ix (a := 1) (b := 30) (by decide) (by decide) h1
  have hp : ix (σ 143) * ix (σ (9 + 6 * r + 3)) ≤ 30 * 40 := Nat.mul_le_mul b2 b1
  unfold f_cr f_ch
  rw [e1, e2, pk_mul]
  split
  · rw [ix_nI (by omega)]
  · rfl
theorem mn_nI {x y : Nat} (hx : x < 2 ^ 31) (hy : y < 2 ^ 31) : f_mn (nI x) (nI y) = nI (min x y) := by
  unfold f_mn
  by_cases h : y < x
  · rw [if_pos (nI_lt h hx), Nat.min_eq_right (by omega)]
  · rw [if_neg (nI_nlt (by omega) hy), Nat.min_eq_left (by omega)]
theorem ma_nI (hV : px_V σ) {q p : Nat} (hq : q < 2 * f_nr σ) (hp : p ≤ 999) : f_ma σ (q / 2) (nI p) = nI (n_F σ q p) := by
  have hr : q / 2 < f_nr σ := by omega
  obtain ⟨-, -, -, -, -, -, -, ht, -⟩ := hV.2.1 _ hr
  obtain ⟨et, -, bt⟩ := rg_ix (a := 0) (b := 200) (by decide) (by decide) ht
  obtain ⟨ef, -, bf⟩ := rg_ix (a := 0) (b := 500) (by decide) (by decide) hV.2.2.2.2.2.2.1
  have h90 := cr_le (σ := σ) (q / 2)
  have hc : ix (f_cr σ (q / 2)) * ix (σ 142) ≤ 90 * 500 := Nat.mul_le_mul h90 bf
  have hd : (100 * p + ix (f_cr σ (q / 2)) * ix (σ 142)) / (100 - ix (f_cr σ (q / 2))) ≤ 100 * p + ix (f_cr σ (q / 2)) * ix (σ 142) := Nat.div_le_self _ _
  unfold f_ma f_mh n_F
  rw [et, ef, cr_nI hV hr, ix_nI (by omega), ix_nI (by omega), ix_nI (by omega), show (100 : Int32) * nI p = nI 100 * nI p from rfl, pk_mul, pk_mul, nI_add, nI_add, show (100 : Int32) - nI (ix (f_cr σ (q / 2))) = nI 100 - nI (ix (f_cr σ (q / 2))) from rfl, pk_sub (by omega), pk_div (by omega) (by omega) (by omega), mn_nI (by omega) (by omega)]
theorem ma_pr {r : Nat} {p : Int32} : f_ma (f_pr σ P) r p = f_ma σ r p := by
  unfold f_ma f_mh f_cr f_ch
  rw [pr_hi (by omega), pr_hi (by omega), pr_hi (by omega), pr_hi (by omega)]
theorem nr_pr : f_nr (f_pr σ P) = f_nr σ := by unfold f_nr; rw [pr_hi (by omega)]
theorem nc_pr : f_nc (f_pr σ P) = f_nc σ := by unfold f_nc; rw [pr_hi (by omega)]
theorem V_pr (h : px_VV σ) (hP : ∀ t, t < 8 → 1 ≤ P t ∧ P t ≤ 999) : px_VV (f_pr σ P) := by
  obtain ⟨⟨h1, h2, h3, h4, h5, h6, h7⟩, h8⟩ := h
  refine ⟨⟨?_, fun r hr => ?_, fun r j hr hr2 hj => ?_, fun c hc => ?_, fun c j hc hc2 hj => ?_, fun t ht => ?_, ?_⟩, fun c hc => ?_⟩
  · rw [nr_pr, nc_pr, pr_hi (by omega), pr_hi (by omega)]; exact h1
  · rw [nr_pr] at hr
    rw [pr_hi (by omega), pr_hi (by omega), pr_hi (by omega), pr_hi (by omega)]; exact h2 r hr
  · rw [nr_pr] at hr
    rw [pr_hi (by omega)]; exact h3 r j hr hr2 hj
  · rw [nc_pr] at hc
    rw [pr_hi (by omega), pr_hi (by omega)]; exact h4 c hc
  · rw [nc_pr] at hc
    rw [pr_hi (by omega)]; exact h5 c j hc hc2 hj
  · obtain ⟨a1, a2⟩ := hP t ht
    rw [pr_lo ht, rg_ti, nI_ti (by omega), show (1 : Int32).toInt = 1 from rfl, show (999 : Int32).toInt = 999 from rfl]
    omega
  · rw [pr_hi (by omega), pr_hi (by omega), pr_hi (by omega), pr_hi (by omega)]; exact h7
  · rw [nc_pr] at hc
    rw [pr_hi (by omega)]; exact h8 c hc
theorem ab_lt (hV : px_V σ) {q : Nat} (hq : q < 2 * f_nr σ) : σ (9 + 6 * (q / 2) + q % 2) = nI (n_a σ q) ∧ n_a σ q < 8 ∧ σ (9 + 6 * (q / 2) + (1 - q % 2)) = nI (n_b σ q) ∧ n_b σ q < 8 := by
  obtain ⟨-, h1, h2⟩ := ends_of hV (show q / 2 < f_nr σ by omega) (show q % 2 < 2 from Nat.mod_lt _ (by decide))
  obtain ⟨x1, l1⟩ := ix_of_nI h1
  obtain ⟨x2, l2⟩ := ix_of_nI h2
  exact ⟨x1, l1, x2, l2⟩
theorem pr_le (hV : px_V σ) {t : Nat} (ht : t < 8) : σ t = nI (ix (σ t)) ∧ 1 ≤ ix (σ t) ∧ ix (σ t) ≤ 999 := rg_ix (a := 1) (b := 999) (by decide) (by decide) (hV.2.2.2.2.2.1 t ht)
theorem hon_pr (hV : px_V σ) (hP : ∀ t, t < 8 → 1 ≤ P t ∧ P t ≤ 999) {q : Nat} (hq : q < 2 * f_nr σ) : f_hon (f_pr σ P) (q / 2) (q % 2) ↔ P (n_b σ q) ≤ n_F σ q (P (n_a σ q)) := by
  obtain ⟨e1, l1, e2, l2⟩ := ab_lt hV hq
  unfold f_hon
  rw [ma_pr, pr_hi (k := 9 + 6 * (q / 2) + (1 - q % 2)) (by omega), pr_hi (k := 9 + 6 * (q / 2) + q % 2) (by omega), show ix (σ (9 + 6 * (q / 2) + (1 - q % 2))) = n_b σ q from rfl, show ix (σ (9 + 6 * (q / 2) + q % 2)) = n_a σ q from rfl, pr_lo l1, pr_lo l2, ma_nI hV hq (hP _ l1).2]
  have hle : n_F σ q (P (n_a σ q)) ≤ P (n_a σ q) + ix (σ (9 + 6 * (q / 2) + 2)) := by unfold n_F; exact Nat.min_le_left _ _
  obtain ⟨-, -, -, -, -, -, -, ht, -⟩ := hV.2.1 _ (show q / 2 < f_nr σ by omega)
  obtain ⟨et, -, bt⟩ := rg_ix (a := 0) (b := 200) (by decide) (by decide) ht
  have := hP _ l1
  have := hP _ l2
  exact nI_leI (by omega) (by omega)
theorem hp_gr (hV : px_V σ) : h_gr (2 * f_nr σ) (n_a σ) (n_b σ) (n_F σ) (fun t => ix (σ t)) (f_hp σ) := R_gr (fun q p p' h => nF_mono q p p' h) (fun q p => nF_inf q p) (fun q hq => (ab_lt hV hq).2.2.2)
theorem hp_rg (hV : px_V σ) {t : Nat} (ht : t < 8) : 1 ≤ f_hp σ t ∧ f_hp σ t ≤ 999 := by
  have hg := hp_gr hV
  refine ⟨?_, ?_⟩
  · have := hg.2.2 (fun t => min 1 (ix (σ t))) (fun q hq => by
      have h2 := pr_le hV (ab_lt hV hq).2.1
      have h3 := nF_inf (σ := σ) q 1
      have e : min 1 (ix (σ (n_a σ q))) = 1 := by omega
      try dsimp only
      rw [e]
      omega) (fun t => Nat.min_le_right _ _) t
    have h2 := pr_le hV ht
    try dsimp only at this
    omega
  · have := hg.2.1 t
    have h2 := pr_le hV ht
    try dsimp only at this
    omega
theorem or_nI {M e : Nat} (hM : M < 256) (he : e < 8) : nI M ||| 1 <<< (nI e &&& 31) = nI (M ||| 2 ^ e) ∧ M ||| 2 ^ e < 256 := by
  have h2 : (1 : Int32) <<< (nI e &&& 31) = nI (2 ^ e) := by
    rcases (by omega : e = 0 ∨ e = 1 ∨ e = 2 ∨ e = 3 ∨ e = 4 ∨ e = 5 ∨ e = 6 ∨ e = 7) with rfl | rfl | rfl | rfl | rfl | rfl | rfl | rfl <;> decide
  have h3 : 2 ^ e < 2 ^ 8 := Nat.pow_lt_pow_right (by decide) he
  have h4 : M ||| 2 ^ e < 2 ^ 8 := Nat.or_lt_two_pow hM h3
  refine ⟨?_, h4⟩
  rw [h2]
  apply Int32.toBitVec_inj.mp
  apply BitVec.eq_of_toNat_eq
  rw [show (nI M ||| nI (2 ^ e)).toBitVec = (nI M).toBitVec ||| (nI (2 ^ e)).toBitVec from rfl, BitVec.toNat_or, pk_tn (by omega), pk_tn (by omega), pk_tn (by omega)]
theorem bit_nI {M i : Nat} (hM : M < 256) (hi : i < 8) : (nI M >>> (nI i &&& 31)) &&& 1 = if M.testBit i then 1 else 0 := by
  have hs : ((nI i &&& 31).toBitVec.smod 32).toNat = i := by
    rcases (by omega : i = 0 ∨ i = 1 ∨ i = 2 ∨ i = 3 ∨ i = 4 ∨ i = 5 ∨ i = 6 ∨ i = 7) with rfl | rfl | rfl | rfl | rfl | rfl | rfl | rfl <;> decide
  rw [pk_shrN (by omega) _ i hs, pk_andN (by have := Nat.div_le_self M (2 ^ i); omega) 1 (by decide), Nat.testBit_eq_decide_div_mod_eq]
  rcases (by omega : M / 2 ^ i % 2 = 0 ∨ M / 2 ^ i % 2 = 1) with z | z
  · rw [z]; rfl
  · rw [z]; rfl
end MHN
