/-! the most a price may be, the fewest guards, honest prices: as the law asks -/
section PHO
variable {σ : px_s}
theorem ma_val (hV : px_V σ) {i : Nat} (hi : i < 2 * f_nr σ) : f_ma σ (i / 2) (σ (ix (σ (9 + 6 * (i / 2) + i % 2)))) = nI (n_F σ i (ix (σ (n_a σ i)))) ∧ 1 ≤ n_F σ i (ix (σ (n_a σ i))) ∧ n_F σ i (ix (σ (n_a σ i))) ≤ 1200 := by
  obtain ⟨e1, l1, e2, l2⟩ := ab_lt hV hi
  obtain ⟨ep, p1, p2⟩ := pr_le hV l1
  obtain ⟨-, -, -, -, -, -, -, ht, -⟩ := hV.2.1 (i / 2) (by omega)
  obtain ⟨et, -, bt⟩ := rg_ix (a := 0) (b := 200) (by decide) (by decide) ht
  have hi1 := nF_inf (σ := σ) i (ix (σ (n_a σ i)))
  have hi2 : n_F σ i (ix (σ (n_a σ i))) ≤ ix (σ (n_a σ i)) + ix (σ (9 + 6 * (i / 2) + 2)) := by unfold n_F; exact Nat.min_le_left _ _
  refine ⟨?_, by omega, by omega⟩
  rw [show ix (σ (9 + 6 * (i / 2) + i % 2)) = n_a σ i from rfl]
  conv => lhs; rw [ep]
  exact ma_nI hV hi p2
theorem mp_nI (hV : px_V σ) (t : Int32) : ∀ n, n ≤ 2 * f_nr σ → ∃ m, 1 ≤ m ∧ m ≤ 999 ∧ f_mp σ t n = nI m := by
  intro n
  induction n with
  | zero => intro _; exact ⟨999, by decide, by decide, rfl⟩
  | succ n ih =>
    intro hn
    obtain ⟨m, h1, h2, e⟩ := ih (by omega)
    obtain ⟨ev, v1, v2⟩ := ma_val hV (i := n) (by omega)
    rw [f_mp]
    split
    · rename_i q
      have q2 := q.2
      rw [ev, e, nI_ltI (by omega) (by omega)] at q2
      exact ⟨_, v1, by omega, ev⟩
    · exact ⟨m, h1, h2, e⟩
theorem hon_of {n : Nat} (h : ∀ r, r < n → f_hon σ r 0 ∧ f_hon σ r 1) {i : Nat} (hi : i < 2 * n) : f_hon σ (i / 2) (i % 2) := by
  have h2 := h (i / 2) (by omega)
  rcases (by omega : i % 2 = 0 ∨ i % 2 = 1) with z | z <;> rw [z]
  · exact h2.1
  · exact h2.2
theorem mp_ge (hV : px_V σ) (h : ∀ r, r < f_nr σ → f_hon σ r 0 ∧ f_hon σ r 1) {t : Nat} (ht : t < 8) : ∀ n, n ≤ 2 * f_nr σ → σ t ≤ f_mp σ (nI t) n := by
  intro n
  induction n with
  | zero =>
    intro _
    obtain ⟨e, -, b⟩ := pr_le hV ht
    rw [e]
    exact nI_le b (by decide)
  | succ n ih =>
    intro hn
    rw [f_mp]
    split
    · rename_i q
      have h2 := hon_of h (i := n) (by omega)
      unfold f_hon at h2
      rw [q.1, ix_nI (by omega)] at h2
      exact h2
    · exact ih (by omega)
theorem most_mp {t : Nat} (ht : t < 8) : f_most σ (nI t) = f_mp σ (nI t) (2 * f_nr σ) := by
  unfold f_most
  rw [if_neg (fun q => q (by rw [rg_ti, nI_ti (by omega), show (0 : Int32).toInt = 0 from rfl, show (7 : Int32).toInt = 7 from rfl]; omega))]
theorem fst_le (p : Nat → Prop) [DecidablePred p] : ∀ n g g0, p g0 → g ≤ g0 → g0 < g + n → ∃ g', g ≤ g' ∧ g' ≤ g0 ∧ f_fst p g n = nI g' := by
  intro n
  induction n with
  | zero => intro g g0 _ h1 h2; omega
  | succ n ih =>
    intro g g0 hp h1 h2
    rw [f_fst]
    by_cases q : p g
    · rw [if_pos q]; exact ⟨g, Nat.le_refl _, h1, rfl⟩
    · rw [if_neg q]
      obtain ⟨g', a, b, c⟩ := ih (g + 1) g0 hp (by
        rcases (by omega : g < g0 ∨ g = g0) with z | rfl
        · exact z
        · exact absurd hp q) (by omega)
      exact ⟨g', by omega, b, c⟩
theorem i32_le_tr {a b c : Int32} (h1 : a ≤ b) (h2 : b ≤ c) : a ≤ c := by
  rw [Int32.le_iff_toInt_le] at h1 h2 ⊢
  omega
theorem mn_le2 (a b : Int32) : f_mn a b ≤ b := by
  unfold f_mn
  split
  · exact Int32.le_refl _
  · rename_i h
    rw [Int32.lt_iff_toInt_lt] at h
    rw [Int32.le_iff_toInt_le]
    omega
theorem fg_le (hV : px_V σ) {r : Nat} (hr : r < f_nr σ) (h : f_hon σ r 0 ∧ f_hon σ r 1) : ∃ g, g ≤ 40 ∧ nI g ≤ σ (9 + 6 * r + 3) ∧ f_fg σ (nI r) = nI g := by
  obtain ⟨-, -, -, -, -, -, -, -, hg⟩ := hV.2.1 r hr
  obtain ⟨eg, -, bg⟩ := rg_ix (a := 0) (b := 40) (by decide) (by decide) hg
  have h14 := hV.1.2.1
  have hb : ∀ k, f_hon σ r k → f_bnd σ r k (f_ch σ (nI (ix (σ (9 + 6 * r + 3))))) := by
    intro k hk
    rw [← eg]
    exact i32_le_tr hk (mn_le2 _ _)
  obtain ⟨g', -, h2, h3⟩ := fst_le (f_okg σ r) 41 0 (ix (σ (9 + 6 * r + 3))) ⟨hb 0 h.1, hb 1 h.2⟩ (Nat.zero_le _) (by omega)
  refine ⟨g', by omega, ?_, ?_⟩
  · rw [eg]; exact nI_le h2 (by omega)
  · unfold f_fg
    rw [if_neg (fun q => q (by rw [hV.1.1]; exact rg_nI hr (by omega))), ix_nI (by omega)]
    exact h3
theorem df_cnt (n : Nat) : ∃ k, k ≤ n ∧ f_df σ n = nI k ∧ (k = 0 ↔ ∀ t, t < n → nI (f_hp σ t) = σ t) := by
  induction n with
  | zero => exact ⟨0, Nat.le_refl _, rfl, fun _ t ht => absurd ht (Nat.not_lt_zero t), fun _ => rfl⟩
  | succ n ih =>
    obtain ⟨k, hk, e, hi⟩ := ih
    rw [f_df, e]
    by_cases q : nI (f_hp σ n) = σ n
    · rw [if_pos q]
      refine ⟨k, by omega, by rw [show (0 : Int32) = nI 0 from rfl, nI_add, Nat.add_zero], fun h t ht => ?_, fun h => hi.mpr (fun t ht => h t (by omega))⟩
      rcases (by omega : t < n ∨ t = n) with z | rfl
      · exact hi.mp h t z
      · exact q
    · rw [if_neg q]
      exact ⟨k + 1, by omega, nI_1 k, fun h => by omega, fun h => absurd (h n (by omega)) q⟩
theorem df_0 : f_df σ 8 = 0 ↔ ∀ t, t < 8 → nI (f_hp σ t) = σ t := by
  obtain ⟨k, hk, e, hi⟩ := df_cnt (σ := σ) 8
  rw [← hi, e, show (0 : Int32) = nI 0 from rfl, nI_eq (by omega) (by omega)]
theorem hp_ix (hV : px_V σ) {t : Nat} (ht : t < 8) : nI (f_hp σ t) = σ t ↔ f_hp σ t = ix (σ t) := by
  obtain ⟨e, -, b⟩ := pr_le hV ht
  have h := (hp_rg hV ht).2
  constructor
  · intro q
    rw [← q, ix_nI (by omega)]
  · intro q
    rw [q]; exact e.symm
theorem hp_self (hV : px_V σ) (h : ∀ r, r < f_nr σ → f_hon σ r 0 ∧ f_hon σ r 1) : ∀ t, t < 8 → nI (f_hp σ t) = σ t := by
  intro t ht
  have hg := hp_gr hV
  refine (hp_ix hV ht).mpr (Nat.le_antisymm (hg.2.1 t) (hg.2.2 (fun t => ix (σ t)) (fun q hq => ?_) (fun _ => Nat.le_refl _) t))
  exact (hon_num hV hq).mp (hon_of h hq)
theorem hp_hon (hV : px_V σ) (h : ∀ t, t < 8 → nI (f_hp σ t) = σ t) : ∀ r, r < f_nr σ → f_hon σ r 0 ∧ f_hon σ r 1 := by
  have hq : ∀ q, q < 2 * f_nr σ → f_hon σ (q / 2) (q % 2) := by
    intro q hq
    obtain ⟨-, l1, -, l2⟩ := ab_lt hV hq
    have := (hp_gr hV).1 q hq
    rw [(hp_ix hV l1).mp (h _ l1), (hp_ix hV l2).mp (h _ l2)] at this
    exact (hon_num hV hq).mpr this
  intro r hr
  have h0 := hq (2 * r) (by omega)
  have h1 := hq (2 * r + 1) (by omega)
  rw [show 2 * r / 2 = r by omega, show 2 * r % 2 = 0 by omega] at h0
  rw [show (2 * r + 1) / 2 = r by omega, show (2 * r + 1) % 2 = 1 by omega] at h1
  exact ⟨h0, h1⟩
theorem df_ah (hV : px_V σ) : f_df σ 8 = 0 ↔ f_ah σ (f_nr σ) = 1 :=
  df_0.trans ⟨fun h => f_ah1 _ (hp_hon hV h), fun h => hp_self hV (ah_all h)⟩
theorem mkh_all (h : px_VV σ) : ∀ r, r < f_nr (f_mkh σ).2 → f_hon (f_mkh σ).2 r 0 ∧ f_hon (f_mkh σ).2 r 1 := by
  have hP : ∀ t, t < 8 → 1 ≤ f_hp σ t ∧ f_hp σ t ≤ 999 := fun t ht => hp_rg h.1 ht
  have hq : ∀ q, q < 2 * f_nr σ → f_hon (f_mkh σ).2 (q / 2) (q % 2) := fun q hq => (hon_pr h.1 hP hq).mpr ((hp_gr h.1).1 q hq)
  intro r hr
  rw [show f_nr (f_mkh σ).2 = f_nr σ from nr_pr] at hr
  have h0 := hq (2 * r) (by omega)
  have h1 := hq (2 * r + 1) (by omega)
  rw [show 2 * r / 2 = r by omega, show 2 * r % 2 = 0 by omega] at h0
  rw [show (2 * r + 1) / 2 = r by omega, show (2 * r + 1) % 2 = 1 by omega] at h1
  exact ⟨h0, h1⟩
theorem mkh_ah (h : px_VV σ) : f_ah (f_mkh σ).2 (f_nr (f_mkh σ).2) = 1 := f_ah1 _ (mkh_all h)
theorem mkh_df (h : px_VV σ) : f_df (f_mkh σ).2 8 = 0 := (df_ah (V_mkh h).1).mpr (mkh_ah h)
theorem mkh_pr (h : px_VV σ) {t : Nat} (ht : t < 8) : (f_mkh σ).2 t ≤ σ t ∧ 0 < (f_mkh σ).2 t := by
  obtain ⟨e, -, b⟩ := pr_le h.1 ht
  obtain ⟨h1, h2⟩ := hp_rg h.1 ht
  rw [show (f_mkh σ).2 t = nI (f_hp σ t) from pr_lo ht]
  refine ⟨?_, ?_⟩
  · rw [e]; exact nI_le ((hp_gr h.1).2.1 t) (by omega)
  · exact nI_lt (a := 0) (by omega) (by omega)
theorem pt_nn : 0 ≤ f_pt σ 8 := by
  obtain ⟨M, hM, e, -⟩ := pt_nI (σ := σ) 8 (Nat.le_refl _)
  rw [e]; exact nI_pos' (by omega)
end PHO

