section CST
variable {l : Launch} {G : px_G} {T : px_T} {I I' : px_I} {J : px_J} {R : px_R} {μ : px_M} {t w : Nat} {σ τ : px_s} {W : Nat → Int64}
/-! the best of all ways: the same, in whatever order they are looked at -/
theorem i64_tr {a b c : Int64} (h1 : a ≤ b) (h2 : b < c) : a < c := by
  rw [Int64.le_iff_toInt_le] at h1
  rw [Int64.lt_iff_toInt_lt] at h2 ⊢
  omega
theorem i64_le {a b : Int64} (h : a < b) : a ≤ b := by
  rw [Int64.lt_iff_toInt_lt] at h
  rw [Int64.le_iff_toInt_le]
  omega
theorem i64_tl {a b c : Int64} (h1 : a ≤ b) (h2 : b ≤ c) : a ≤ c := by
  rw [Int64.le_iff_toInt_le] at h1 h2 ⊢
  omega
theorem row_max (left e : Nat) : ∀ n, (100 * W e ≤ f_row σ 0 left W n e) ∧ (∀ i, i < n → ix (σ (9 + 6 * (i / 4) + i / 2 % 2)) = e → f_by σ W (i / 4) (i / 2 % 2) left (i % 2) ≤ f_row σ 0 left W n e) ∧ (f_row σ 0 left W n e = 100 * W e ∨ ∃ i, i < n ∧ ix (σ (9 + 6 * (i / 4) + i / 2 % 2)) = e ∧ f_row σ 0 left W n e = f_by σ W (i / 4) (i / 2 % 2) left (i % 2)) := by
  intro n
  induction n with
  | zero => exact ⟨Int64.le_refl _, fun i hi => absurd hi (Nat.not_lt_zero i), Or.inl rfl⟩
  | succ n ih =>
    obtain ⟨h1, h2, h3⟩ := ih
    rw [row_s]
    by_cases q : e = ix (σ (9 + 6 * (n / 4) + n / 2 % 2)) ∧ f_row σ 0 left W n e < f_by σ W (n / 4) (n / 2 % 2) left (n % 2) ∧ (n % 2 = 1 → (0 : Int32) = 0)
    · rw [if_pos q]
      refine ⟨i64_le (i64_tr h1 q.2.1), fun i hi he => ?_, Or.inr ⟨n, by omega, q.1.symm, rfl⟩⟩
      rcases (by omega : i < n ∨ i = n) with z | rfl
      · exact i64_le (i64_tr (h2 i z he) q.2.1)
      · exact Int64.le_refl _
    · rw [if_neg q]
      refine ⟨h1, fun i hi he => ?_, ?_⟩
      · rcases (by omega : i < n ∨ i = n) with z | rfl
        · exact h2 i z he
        · exact Int64.not_lt.mp (fun y => q ⟨he.symm, y, fun _ => rfl⟩)
      · rcases h3 with h3 | ⟨i, hi, he, h3⟩
        · exact Or.inl h3
        · exact Or.inr ⟨i, by omega, he, h3⟩
theorem st_max (left : Nat) (a : Int32) : ∀ n, (100 * W (ix a) ≤ (f_st σ W left a n).1) ∧ (∀ i, i < n → σ (9 + 6 * (i / 4) + i % 2) = a → f_by σ W (i / 4) (i % 2) left (i / 2 % 2) ≤ (f_st σ W left a n).1) ∧ (f_st σ W left a n = (100 * W (ix a), -6, 0) ∨ ∃ j, j < n ∧ σ (9 + 6 * (j / 4) + j % 2) = a ∧ f_st σ W left a n = (f_by σ W (j / 4) (j % 2) left (j / 2 % 2), nI (j / 4), nI (j / 2 % 2)) ∧ 100 * W (ix a) < f_by σ W (j / 4) (j % 2) left (j / 2 % 2) ∧ ∀ i, i < j → σ (9 + 6 * (i / 4) + i % 2) = a → f_by σ W (i / 4) (i % 2) left (i / 2 % 2) < f_by σ W (j / 4) (j % 2) left (j / 2 % 2)) := by
  intro n
  induction n with
  | zero => exact ⟨Int64.le_refl _, fun i hi => absurd hi (Nat.not_lt_zero i), Or.inl rfl⟩
  | succ n ih =>
    obtain ⟨h1, h2, h3⟩ := ih
    rw [f_st]
    by_cases q : σ (9 + 6 * (n / 4) + n % 2) = a ∧ (f_st σ W left a n).1 < f_by σ W (n / 4) (n % 2) left (n / 2 % 2)
    · rw [if_pos q]
      refine ⟨i64_le (i64_tr h1 q.2), fun i hi he => ?_, Or.inr ⟨n, by omega, q.1, rfl, i64_tr h1 q.2, fun i hi he => i64_tr (h2 i hi he) q.2⟩⟩
      rcases (by omega : i < n ∨ i = n) with z | rfl
      · exact i64_le (i64_tr (h2 i z he) q.2)
      · exact Int64.le_refl _
    · rw [if_neg q]
      refine ⟨h1, fun i hi he => ?_, ?_⟩
      · rcases (by omega : i < n ∨ i = n) with z | rfl
        · exact h2 i z he
        · exact Int64.not_lt.mp (fun y => q ⟨he, y⟩)
      · rcases h3 with h3 | ⟨j, hj, he, h3⟩
        · exact Or.inl h3
        · exact Or.inr ⟨j, by omega, he, h3⟩
theorem idx_sw (j : Nat) : (4 * (j / 4) + 2 * (j % 2) + j / 2 % 2) / 4 = j / 4 ∧ (4 * (j / 4) + 2 * (j % 2) + j / 2 % 2) / 2 % 2 = j % 2 ∧ (4 * (j / 4) + 2 * (j % 2) + j / 2 % 2) % 2 = j / 2 % 2 := by
  generalize j / 4 = r
  have hk : j % 2 < 2 := Nat.mod_lt _ (by decide)
  have hh : j / 2 % 2 < 2 := Nat.mod_lt _ (by decide)
  generalize j % 2 = k at *
  generalize j / 2 % 2 = h at *
  exact ⟨by omega, by omega, by omega⟩
/-- what the scan of all ways finds is what a sack is worth -/
theorem st_row (hV : px_V σ) {left : Nat} {a : Int32} (ha : rg a 0 7) : (f_st σ W left a (4 * f_nr σ)).1 = f_row σ 0 left W (4 * f_nr σ) (ix a) := by
  obtain ⟨r1, r2, r3⟩ := row_max (σ := σ) (W := W) left (ix a) (4 * f_nr σ)
  obtain ⟨s1, s2, s3⟩ := st_max (σ := σ) (W := W) left a (4 * f_nr σ)
  have hend : ∀ r k, r < f_nr σ → k < 2 → (ix (σ (9 + 6 * r + k)) = ix a ↔ σ (9 + 6 * r + k) = a) := by
    intro r k hr hk
    obtain ⟨x1, l1⟩ := ix_of_nI (ends_of hV hr hk).2.1
    refine ⟨fun h => ?_, fun h => by rw [h]⟩
    rw [x1, h]
    exact (ix_eq ha).symm
  apply Int64.le_antisymm
  · rcases s3 with s3 | ⟨j, hj, he, s3, -⟩
    · rw [s3]; exact r1
    · rw [s3]
      have := r2 (4 * (j / 4) + 2 * (j % 2) + j / 2 % 2) (by omega)
      rw [(idx_sw j).1, (idx_sw j).2.1, (idx_sw j).2.2] at this
      exact this (by rw [he])
  · rcases r3 with r3 | ⟨i, hi, he, r3⟩
    · rw [r3]; exact s1
    · rw [r3]
      have := s2 (4 * (i / 4) + 2 * (i % 2) + i / 2 % 2) (by omega)
      rw [(idx_sw i).1, (idx_sw i).2.1, (idx_sw i).2.2] at this
      exact this ((hend _ _ (by omega) (by omega)).mp he)
theorem s_X5_isBestOpenly {z ov : Int32} {r k u : Nat} (hG : px_tabs G) (ht : px_rt G T R t) (hw : px_wo G T R w) (hA : px_ag I w σ) (hV : px_V σ) (hr : r < f_nr σ) (hk : k < 2) (ez : z = nI (u + 1)) (hu : u < 4) (hK : px_rk I J t σ ov (u + 1)) : px_K l G 2 mX5_isBestOpenly ([.ref t, .ref (w + 5 + r), .int (σ (9 + 6 * r + k)), .int z]) ((T, I, J, R)) (some (.int (if f_by σ (f_w σ ov u) r k (u + 1) 0 = f_w σ ov (u + 1) (ix (σ (9 + 6 * r + k))) then 1 else 0))) ((T, I, J, R)) := by
  obtain ⟨k1, k2, k3⟩ := hK
  obtain ⟨x1, l1⟩ := ix_of_nI (ends_of hV hr hk).2.1
  refine px_met (M := mX5_isBestOpenly) ([some (.ref t), some (.ref (w + 5 + r)), some (.int (σ (9 + 6 * r + k))), some (.int z)]) (by decide +kernel) rfl (Nat.le_of_ble_eq_true rfl) rfl ?_
  refine px_aload_0 dX5_isBestOpenly_0 ?_
  refine px_aload_1 dX5_isBestOpenly_1 ?_
  refine px_iload_2 dX5_isBestOpenly_2 ?_
  refine px_iload_3 dX5_isBestOpenly_3 ?_
  refine cd_X5_68 rfl ⟨⟨Nat.le_of_ble_eq_true rfl, Nat.le_of_ble_eq_true rfl⟩, Nat.le_of_ble_eq_true rfl, Nat.le_of_ble_eq_true rfl, Nat.le_of_ble_eq_true rfl⟩ (by first | assumption | exact rt_a ht | exact rt_r1 ht | exact rt_w ht | exact rt_rr ht (by omega) | exact rt_ra ht (by omega) | exact wo_a hw | exact wo_r2 hw | exact wo_a3 hw | exact wo_rr hw (by omega) | exact wo_ra hw (by omega)) dX5_isBestOpenly_4 (s_X5_openly hG ht hw hA hV hr hk ez hu (k3 u (by omega))) ?_
  refine px_aload_0 dX5_isBestOpenly_7 ?_
  refine gf_X5_11 rfl dX5_isBestOpenly_8 (by first | assumption | exact rt_a ht | exact rt_r1 ht | exact rt_w ht | exact rt_rr ht (by omega) | exact rt_ra ht (by omega) | exact wo_a hw | exact wo_r2 hw | exact wo_a3 hw | exact wo_rr hw (by omega) | exact wo_ra hw (by omega)) (by first | assumption | exact rt_a ht | exact rt_r1 ht | exact rt_w ht | exact rt_rr ht (by omega) | exact rt_ra ht (by omega) | exact wo_a hw | exact wo_r2 hw | exact wo_a3 hw | exact wo_rr hw (by omega) | exact wo_ra hw (by omega)) ?_
  refine px_iload_3 dX5_isBestOpenly_11 ?_
  refine px_aaldN dX5_isBestOpenly_12 (by first | assumption | exact rt_a ht | exact rt_r1 ht | exact rt_w ht | exact rt_rr ht (by omega) | exact rt_ra ht (by omega) | exact wo_a hw | exact wo_r2 hw | exact wo_a3 hw | exact wo_rr hw (by omega) | exact wo_ra hw (by omega)) (by first | with_reducible rfl | assumption | exact ix_eq (by assumption)) (by omega) (by first | assumption | exact rt_a ht | exact rt_r1 ht | exact rt_w ht | exact rt_rr ht (by omega) | exact rt_ra ht (by omega) | exact wo_a hw | exact wo_r2 hw | exact wo_a3 hw | exact wo_rr hw (by omega) | exact wo_ra hw (by omega)) ?_
  refine px_iload_2 dX5_isBestOpenly_13 ?_
  refine px_laldN dX5_isBestOpenly_14 (by first | assumption | exact rt_a ht | exact rt_r1 ht | exact rt_w ht | exact rt_rr ht (by omega) | exact rt_ra ht (by omega) | exact wo_a hw | exact wo_r2 hw | exact wo_a3 hw | exact wo_rr hw (by omega) | exact wo_ra hw (by omega)) (by first | with_reducible rfl | assumption | exact ix_eq (by assumption)) (by omega) ?_
  rw [k3 _ (Nat.le_refl _) _ l1]
  refine px_lcmp dX5_isBestOpenly_15 ?_
  refine px_lc_ne (tgt := 23) dX5_isBestOpenly_16 (by decide) (fun h16 => ?_) (fun h16 => ?_)
  · skip
    refine px_iconst (0) dX5_isBestOpenly_23 rfl ?_
    refine px_zret dX5_isBestOpenly_24 (by first | rfl | exact px_nb _) ?_
    first | exact ⟨by rw [if_neg h16], rfl⟩ | exact ⟨by rw [if_pos h16], rfl⟩
  · skip
    refine px_iconst (1) dX5_isBestOpenly_19 rfl ?_
    refine px_goto (tgt := 24) dX5_isBestOpenly_20 (by decide) ?_
    refine px_zret dX5_isBestOpenly_24 (by first | rfl | exact px_nb _) ?_
    first | exact ⟨by rw [if_neg h16], rfl⟩ | exact ⟨by rw [if_pos h16], rfl⟩
theorem s_X5_isBest {y z : Int32} {r k u : Nat} (hG : px_tabs G) (ht : px_rt G T R t) (hw : px_wo G T R w) (hA : px_ag I w σ) (hV : px_V σ) (hr : r < f_nr σ) (hk : k < 2) (ey : y = nI r) (ez : z = nI (u + 1)) (hu : u < 4) (hK : px_rk I J t σ 0 (u + 1)) : px_K l G 3 mX5_isBest ([.ref t, .int y, .ref (w + 5 + r), .int (σ (9 + 6 * r + k)), .int z]) ((T, I, J, R)) (some (.int (if f_by σ (f_w σ 0 u) r k (u + 1) 0 = f_w σ 0 (u + 1) (ix (σ (9 + 6 * r + k))) ∨ f_by σ (f_w σ 0 u) r k (u + 1) 1 = f_w σ 0 (u + 1) (ix (σ (9 + 6 * r + k))) then 1 else 0))) ((T, I, J, R)) := by
  have hb := s_X5_isBestOpenly (l := l) hG ht hw hA hV hr hk ez hu hK
  obtain ⟨k1, k2, k3⟩ := hK
  obtain ⟨x1, l1⟩ := ix_of_nI (ends_of hV hr hk).2.1
  refine px_met (M := mX5_isBest) ([some (.ref t), some (.int y), some (.ref (w + 5 + r)), some (.int (σ (9 + 6 * r + k))), some (.int z)]) (by decide +kernel) rfl (Nat.le_of_ble_eq_true rfl) rfl ?_
  by_cases c0 : f_by σ (f_w σ 0 u) r k (u + 1) 0 = f_w σ 0 (u + 1) (ix (σ (9 + 6 * r + k)))
  · rw [if_pos (Or.inl c0)]
    refine px_aload_0 dX5_isBest_0 ?_
    refine px_aload_2 dX5_isBest_1 ?_
    refine px_iload_3 dX5_isBest_2 ?_
    refine px_iload_4 dX5_isBest_3 ?_
    refine cd_X5_103 rfl ⟨⟨Nat.le_of_ble_eq_true rfl, Nat.le_of_ble_eq_true rfl⟩, Nat.le_of_ble_eq_true rfl, Nat.le_of_ble_eq_true rfl, Nat.le_of_ble_eq_true rfl⟩ (by first | assumption | exact rt_a ht | exact rt_r1 ht | exact rt_w ht | exact rt_rr ht (by omega) | exact rt_ra ht (by omega) | exact wo_a hw | exact wo_r2 hw | exact wo_a3 hw | exact wo_rr hw (by omega) | exact wo_ra hw (by omega)) dX5_isBest_5 (hb) ?_
    refine px_ifb_ne (tgt := 33) dX5_isBest_8 (by decide) (fun h8 => ?_) (fun h8 => (by first | exact absurd (c0) h8 | exact absurd h8 (c0)))
    refine px_iconst (1) dX5_isBest_33 rfl ?_
    refine px_goto (tgt := 38) dX5_isBest_34 (by decide) ?_
    refine px_zret dX5_isBest_38 (by first | rfl | exact px_nb _) ?_
    exact ⟨rfl, rfl⟩
  · by_cases c1 : f_by σ (f_w σ 0 u) r k (u + 1) 1 = f_w σ 0 (u + 1) (ix (σ (9 + 6 * r + k)))
    · rw [if_pos (Or.inr c1)]
      refine px_aload_0 dX5_isBest_0 ?_
      refine px_aload_2 dX5_isBest_1 ?_
      refine px_iload_3 dX5_isBest_2 ?_
      refine px_iload_4 dX5_isBest_3 ?_
      refine cd_X5_103 rfl ⟨⟨Nat.le_of_ble_eq_true rfl, Nat.le_of_ble_eq_true rfl⟩, Nat.le_of_ble_eq_true rfl, Nat.le_of_ble_eq_true rfl, Nat.le_of_ble_eq_true rfl⟩ (by first | assumption | exact rt_a ht | exact rt_r1 ht | exact rt_w ht | exact rt_rr ht (by omega) | exact rt_ra ht (by omega) | exact wo_a hw | exact wo_r2 hw | exact wo_a3 hw | exact wo_rr hw (by omega) | exact wo_ra hw (by omega)) dX5_isBest_5 (hb) ?_
      refine px_ifb_ne (tgt := 33) dX5_isBest_8 (by decide) (fun h8 => (by first | exact absurd h8 (c0) | exact absurd (c0) h8)) (fun h8 => ?_)
      refine px_aload_0 dX5_isBest_11 ?_
      refine px_iload_1 dX5_isBest_12 ?_
      refine px_aload_2 dX5_isBest_13 ?_
      refine px_iload_3 dX5_isBest_14 ?_
      refine px_iload_4 dX5_isBest_15 ?_
      refine cd_X5_78 rfl ⟨⟨Nat.le_of_ble_eq_true rfl, Nat.le_of_ble_eq_true rfl⟩, Nat.le_of_ble_eq_true rfl, Nat.le_of_ble_eq_true rfl, Nat.le_of_ble_eq_true rfl⟩ (by first | assumption | exact rt_a ht | exact rt_r1 ht | exact rt_w ht | exact rt_rr ht (by omega) | exact rt_ra ht (by omega) | exact wo_a hw | exact wo_r2 hw | exact wo_a3 hw | exact wo_rr hw (by omega) | exact wo_ra hw (by omega)) dX5_isBest_17 (s_X5_hiding hG ht hw hA hV hr hk ey ez hu (k3 u (by omega)) (k2 r hr) k1) ?_
      refine px_aload_0 dX5_isBest_20 ?_
      refine gf_X5_11 rfl dX5_isBest_21 (by first | assumption | exact rt_a ht | exact rt_r1 ht | exact rt_w ht | exact rt_rr ht (by omega) | exact rt_ra ht (by omega) | exact wo_a hw | exact wo_r2 hw | exact wo_a3 hw | exact wo_rr hw (by omega) | exact wo_ra hw (by omega)) (by first | assumption | exact rt_a ht | exact rt_r1 ht | exact rt_w ht | exact rt_rr ht (by omega) | exact rt_ra ht (by omega) | exact wo_a hw | exact wo_r2 hw | exact wo_a3 hw | exact wo_rr hw (by omega) | exact wo_ra hw (by omega)) ?_
      refine px_iload_4 dX5_isBest_24 ?_
      refine px_aaldN dX5_isBest_26 (by first | assumption | exact rt_a ht | exact rt_r1 ht | exact rt_w ht | exact rt_rr ht (by omega) | exact rt_ra ht (by omega) | exact wo_a hw | exact wo_r2 hw | exact wo_a3 hw | exact wo_rr hw (by omega) | exact wo_ra hw (by omega)) (by first | with_reducible rfl | assumption | exact ix_eq (by assumption)) (by omega) (by first | assumption | exact rt_a ht | exact rt_r1 ht | exact rt_w ht | exact rt_rr ht (by omega) | exact rt_ra ht (by omega) | exact wo_a hw | exact wo_r2 hw | exact wo_a3 hw | exact wo_rr hw (by omega) | exact wo_ra hw (by omega)) ?_
      refine px_iload_3 dX5_isBest_27 ?_
      refine px_laldN dX5_isBest_28 (by first | assumption | exact rt_a ht | exact rt_r1 ht | exact rt_w ht | exact rt_rr ht (by omega) | exact rt_ra ht (by omega) | exact wo_a hw | exact wo_r2 hw | exact wo_a3 hw | exact wo_rr hw (by omega) | exact wo_ra hw (by omega)) (by first | with_reducible rfl | assumption | exact ix_eq (by assumption)) (by omega) ?_
      rw [k3 _ (Nat.le_refl _) _ l1]
      refine px_lcmp dX5_isBest_29 ?_
      refine px_lc_ne (tgt := 37) dX5_isBest_30 (by decide) (fun h30 => (by first | exact absurd h30 (c1) | exact absurd (c1) h30)) (fun h30 => ?_)
      refine px_iconst (1) dX5_isBest_33 rfl ?_
      refine px_goto (tgt := 38) dX5_isBest_34 (by decide) ?_
      refine px_zret dX5_isBest_38 (by first | rfl | exact px_nb _) ?_
      exact ⟨rfl, rfl⟩
    · rw [if_neg (fun q => q.elim c0 c1)]
      refine px_aload_0 dX5_isBest_0 ?_
      refine px_aload_2 dX5_isBest_1 ?_
      refine px_iload_3 dX5_isBest_2 ?_
      refine px_iload_4 dX5_isBest_3 ?_
      refine cd_X5_103 rfl ⟨⟨Nat.le_of_ble_eq_true rfl, Nat.le_of_ble_eq_true rfl⟩, Nat.le_of_ble_eq_true rfl, Nat.le_of_ble_eq_true rfl, Nat.le_of_ble_eq_true rfl⟩ (by first | assumption | exact rt_a ht | exact rt_r1 ht | exact rt_w ht | exact rt_rr ht (by omega) | exact rt_ra ht (by omega) | exact wo_a hw | exact wo_r2 hw | exact wo_a3 hw | exact wo_rr hw (by omega) | exact wo_ra hw (by omega)) dX5_isBest_5 (hb) ?_
      refine px_ifb_ne (tgt := 33) dX5_isBest_8 (by decide) (fun h8 => (by first | exact absurd h8 (c0) | exact absurd (c0) h8)) (fun h8 => ?_)
      refine px_aload_0 dX5_isBest_11 ?_
      refine px_iload_1 dX5_isBest_12 ?_
      refine px_aload_2 dX5_isBest_13 ?_
      refine px_iload_3 dX5_isBest_14 ?_
      refine px_iload_4 dX5_isBest_15 ?_
      refine cd_X5_78 rfl ⟨⟨Nat.le_of_ble_eq_true rfl, Nat.le_of_ble_eq_true rfl⟩, Nat.le_of_ble_eq_true rfl, Nat.le_of_ble_eq_true rfl, Nat.le_of_ble_eq_true rfl⟩ (by first | assumption | exact rt_a ht | exact rt_r1 ht | exact rt_w ht | exact rt_rr ht (by omega) | exact rt_ra ht (by omega) | exact wo_a hw | exact wo_r2 hw | exact wo_a3 hw | exact wo_rr hw (by omega) | exact wo_ra hw (by omega)) dX5_isBest_17 (s_X5_hiding hG ht hw hA hV hr hk ey ez hu (k3 u (by omega)) (k2 r hr) k1) ?_
      refine px_aload_0 dX5_isBest_20 ?_
      refine gf_X5_11 rfl dX5_isBest_21 (by first | assumption | exact rt_a ht | exact rt_r1 ht | exact rt_w ht | exact rt_rr ht (by omega) | exact rt_ra ht (by omega) | exact wo_a hw | exact wo_r2 hw | exact wo_a3 hw | exact wo_rr hw (by omega) | exact wo_ra hw (by omega)) (by first | assumption | exact rt_a ht | exact rt_r1 ht | exact rt_w ht | exact rt_rr ht (by omega) | exact rt_ra ht (by omega) | exact wo_a hw | exact wo_r2 hw | exact wo_a3 hw | exact wo_rr hw (by omega) | exact wo_ra hw (by omega)) ?_
      refine px_iload_4 dX5_isBest_24 ?_
      refine px_aaldN dX5_isBest_26 (by first | assumption | exact rt_a ht | exact rt_r1 ht | exact rt_w ht | exact rt_rr ht (by omega) | exact rt_ra ht (by omega) | exact wo_a hw | exact wo_r2 hw | exact wo_a3 hw | exact wo_rr hw (by omega) | exact wo_ra hw (by omega)) (by first | with_reducible rfl | assumption | exact ix_eq (by assumption)) (by omega) (by first | assumption | exact rt_a ht | exact rt_r1 ht | exact rt_w ht | exact rt_rr ht (by omega) | exact rt_ra ht (by omega) | exact wo_a hw | exact wo_r2 hw | exact wo_a3 hw | exact wo_rr hw (by omega) | exact wo_ra hw (by omega)) ?_
      refine px_iload_3 dX5_isBest_27 ?_
      refine px_laldN dX5_isBest_28 (by first | assumption | exact rt_a ht | exact rt_r1 ht | exact rt_w ht | exact rt_rr ht (by omega) | exact rt_ra ht (by omega) | exact wo_a hw | exact wo_r2 hw | exact wo_a3 hw | exact wo_rr hw (by omega) | exact wo_ra hw (by omega)) (by first | with_reducible rfl | assumption | exact ix_eq (by assumption)) (by omega) ?_
      rw [k3 _ (Nat.le_refl _) _ l1]
      refine px_lcmp dX5_isBest_29 ?_
      refine px_lc_ne (tgt := 37) dX5_isBest_30 (by decide) (fun h30 => ?_) (fun h30 => (by first | exact absurd (c1) h30 | exact absurd h30 (c1)))
      refine px_iconst (0) dX5_isBest_37 rfl ?_
      refine px_zret dX5_isBest_38 (by first | rfl | exact px_nb _) ?_
      exact ⟨rfl, rfl⟩
theorem s_X5_firstRoad {a z : Int32} {u : Nat} (hG : px_tabs G) (ht : px_rt G T R t) (hw : px_wo G T R w) (hA : px_ag I w σ) (hV : px_V σ) (ha : rg a 0 7) (ez : z = nI (u + 1)) (hu : u < 4) (hK : px_rk I J t σ 0 (u + 1)) : px_K l G 4 mX5_firstRoad ([.ref t, .ref w, .int a, .int z]) ((T, I, J, R)) (some (.int (f_st σ (f_w σ 0 u) (u + 1) a (4 * f_nr σ)).2.1)) ((T, I, J, R)) := by
  have hn := ag_n4 hA hV
  have h14 := hV.1.2.1
  have l7 := ix_le ha (k := 7) rfl
  have ea := ix_eq ha
  obtain ⟨k1, k2, k3⟩ := id hK
  have hM := st_row (W := f_w σ 0 u) hV (left := u + 1) ha
  have hM2 : f_w σ 0 (u + 1) (ix a) = f_row σ 0 (u + 1) (f_w σ 0 u) (4 * f_nr σ) (ix a) := rfl
  rw [← hM2] at hM
  obtain ⟨s1, s2, s3⟩ := st_max (σ := σ) (W := f_w σ 0 u) (u + 1) a (4 * f_nr σ)
  rw [hM] at s1 s2
  have hbw := s_X5_byWaiting (l := l) (I := I) (J := J) ht ea (by omega) ez hu
  rw [k3 u (by omega) _ (by omega)] at hbw
  refine px_met (M := mX5_firstRoad) ([some (.ref t), some (.ref w), some (.int a), some (.int z), none, none, none, none]) (by decide +kernel) rfl (Nat.le_of_ble_eq_true rfl) rfl ?_
  rcases s3 with s3 | ⟨j, hj, he, s3, hlt, hfi⟩
  · rw [s3] at hM ⊢
    dsimp only at hM ⊢
    refine px_aload_0 dX5_firstRoad_0 ?_
    refine gf_X5_11 rfl dX5_firstRoad_1 (by first | assumption | exact rt_a ht | exact rt_r1 ht | exact rt_w ht | exact rt_rr ht (by omega) | exact rt_ra ht (by omega) | exact wo_a hw | exact wo_r2 hw | exact wo_a3 hw | exact wo_rr hw (by omega) | exact wo_ra hw (by omega)) (by first | assumption | exact rt_a ht | exact rt_r1 ht | exact rt_w ht | exact rt_rr ht (by omega) | exact rt_ra ht (by omega) | exact wo_a hw | exact wo_r2 hw | exact wo_a3 hw | exact wo_rr hw (by omega) | exact wo_ra hw (by omega)) ?_
    refine px_iload_3 dX5_firstRoad_4 ?_
    refine px_aaldN dX5_firstRoad_5 (by first | assumption | exact rt_a ht | exact rt_r1 ht | exact rt_w ht | exact rt_rr ht (by omega) | exact rt_ra ht (by omega) | exact wo_a hw | exact wo_r2 hw | exact wo_a3 hw | exact wo_rr hw (by omega) | exact wo_ra hw (by omega)) (by first | with_reducible rfl | assumption | exact ix_eq (by assumption)) (by omega) (by first | assumption | exact rt_a ht | exact rt_r1 ht | exact rt_w ht | exact rt_rr ht (by omega) | exact rt_ra ht (by omega) | exact wo_a hw | exact wo_r2 hw | exact wo_a3 hw | exact wo_rr hw (by omega) | exact wo_ra hw (by omega)) ?_
    refine px_iload_2 dX5_firstRoad_6 ?_
    refine px_laldN dX5_firstRoad_7 (by first | assumption | exact rt_a ht | exact rt_r1 ht | exact rt_w ht | exact rt_rr ht (by omega) | exact rt_ra ht (by omega) | exact wo_a hw | exact wo_r2 hw | exact wo_a3 hw | exact wo_rr hw (by omega) | exact wo_ra hw (by omega)) (by first | with_reducible rfl | assumption | exact ix_eq (by assumption)) (by omega) ?_
    rw [k3 _ (Nat.le_refl _) _ (show ix a < 8 by omega)]
    refine px_lstore_4 dX5_firstRoad_8 rfl ?_
    refine px_lload_4 dX5_firstRoad_10 ?_
    refine px_aload_0 dX5_firstRoad_12 ?_
    refine px_iload_2 dX5_firstRoad_13 ?_
    refine px_iload_3 dX5_firstRoad_14 ?_
    refine cd_X5_52 rfl ⟨⟨Nat.le_of_ble_eq_true rfl, Nat.le_of_ble_eq_true rfl⟩, Nat.le_of_ble_eq_true rfl, Nat.le_of_ble_eq_true rfl, Nat.le_of_ble_eq_true rfl⟩ (by first | assumption | exact rt_a ht | exact rt_r1 ht | exact rt_w ht | exact rt_rr ht (by omega) | exact rt_ra ht (by omega) | exact wo_a hw | exact wo_r2 hw | exact wo_a3 hw | exact wo_rr hw (by omega) | exact wo_ra hw (by omega)) dX5_firstRoad_15 (hbw) ?_
    refine px_lcmp dX5_firstRoad_18 ?_
    refine px_lc_ne (tgt := 25) dX5_firstRoad_19 (by decide) (fun h19 => (by first | exact absurd h19 (hM.symm) | exact absurd (hM.symm) h19)) (fun h19 => ?_)
    refine px_bipush (-6) dX5_firstRoad_22 rfl ?_
    refine px_iret dX5_firstRoad_24 ?_
    exact ⟨rfl, rfl⟩
  · rw [s3] at hM ⊢
    dsimp only at hM ⊢
    have hne : ¬ f_w σ 0 (u + 1) (ix a) = 100 * f_w σ 0 u (ix a) := fun q => by
      rw [hM, q] at hlt
      exact Int64.lt_irrefl hlt
    generalize hQ : (fun v m_1 => v = some (Value.int (nI (j / 4))) ∧ m_1 = (T, I, J, R) : Option Value → px_M → Prop) = Q
    have hjr : j / 4 < f_nr σ := by omega
    have L : ∀ n i, i + n = j / 4 → ∀ o7, (px_W l G yX5_firstRoad cX5_firstRoad 8 (some .int) (px_rm 4 0 0) (px_Fn G Q 0 0) 28 [some (.ref t), some (.ref w), some (.int a), some (.int z), some (.long (f_w σ 0 (u + 1) (ix a))), none, some (.int (nI i)), o7] [] 0 0 (T, I, J, R)) := by
      intro n
      induction n with
      | zero =>
        intro i hi o7
        obtain rfl : i = j / 4 := by omega
        have hia := s_X4_isAt (l := l) (I := I) (J := J) (R := R) (t := a) (wo_ra hw (show j / 4 < 14 by omega))
        rw [ag_rd hA hjr (by decide), ag_rd hA hjr (by decide)] at hia
        have hat : f_at σ (j / 4) a := by
          rcases (by omega : j % 2 = 0 ∨ j % 2 = 1) with y | y <;> rw [y] at he
          · exact Or.inl he
          · exact Or.inr he
        have hib := s_X5_isBest (l := l) (y := nI (j / 4)) (k := j % 2) hG ht hw hA hV hjr (Nat.mod_lt _ (by decide)) rfl ez hu hK
        rw [he] at hib
        have hbest : f_by σ (f_w σ 0 u) (j / 4) (j % 2) (u + 1) 0 = f_w σ 0 (u + 1) (ix a) ∨ f_by σ (f_w σ 0 u) (j / 4) (j % 2) (u + 1) 1 = f_w σ 0 (u + 1) (ix a) := by
          rcases (by omega : j / 2 % 2 = 0 ∨ j / 2 % 2 = 1) with y | y <;> rw [y] at hM
          · exact Or.inl hM
          · exact Or.inr hM
        refine px_iload_6 dX5_firstRoad_28 ?_
        refine px_aload_1 dX5_firstRoad_30 ?_
        refine gf_X5_33 rfl dX5_firstRoad_31 (by first | assumption | exact rt_a ht | exact rt_r1 ht | exact rt_w ht | exact rt_rr ht (by omega) | exact rt_ra ht (by omega) | exact wo_a hw | exact wo_r2 hw | exact wo_a3 hw | exact wo_rr hw (by omega) | exact wo_ra hw (by omega)) ?_
        rw [hn]
        refine px_icmp_ge (tgt := 77) dX5_firstRoad_34 (by decide) (fun h34 => (by first | exact absurd h34 ((nI_ge (by omega) (by omega))) | exact absurd ((nI_ge (by omega) (by omega))) h34)) (fun h34 => ?_)
        refine px_aload_1 dX5_firstRoad_37 ?_
        refine gf_X5_37 rfl dX5_firstRoad_38 (by first | assumption | exact rt_a ht | exact rt_r1 ht | exact rt_w ht | exact rt_rr ht (by omega) | exact rt_ra ht (by omega) | exact wo_a hw | exact wo_r2 hw | exact wo_a3 hw | exact wo_rr hw (by omega) | exact wo_ra hw (by omega)) (by first | assumption | exact rt_a ht | exact rt_r1 ht | exact rt_w ht | exact rt_rr ht (by omega) | exact rt_ra ht (by omega) | exact wo_a hw | exact wo_r2 hw | exact wo_a3 hw | exact wo_rr hw (by omega) | exact wo_ra hw (by omega)) ?_
        refine px_iload_6 dX5_firstRoad_41 ?_
        refine px_aaldN dX5_firstRoad_43 (by first | assumption | exact rt_a ht | exact rt_r1 ht | exact rt_w ht | exact rt_rr ht (by omega) | exact rt_ra ht (by omega) | exact wo_a hw | exact wo_r2 hw | exact wo_a3 hw | exact wo_rr hw (by omega) | exact wo_ra hw (by omega)) (by first | with_reducible rfl | assumption | exact ix_eq (by assumption)) (by omega) (by first | assumption | exact rt_a ht | exact rt_r1 ht | exact rt_w ht | exact rt_rr ht (by omega) | exact rt_ra ht (by omega) | exact wo_a hw | exact wo_r2 hw | exact wo_a3 hw | exact wo_rr hw (by omega) | exact wo_ra hw (by omega)) ?_
        refine px_astore_7 dX5_firstRoad_44 rfl ?_
        refine px_aload_7 dX5_firstRoad_46 ?_
        refine px_iload_2 dX5_firstRoad_48 ?_
        refine cd_X5_95 rfl ⟨⟨Nat.le_of_ble_eq_true rfl, Nat.le_of_ble_eq_true rfl⟩, Nat.le_of_ble_eq_true rfl, Nat.le_of_ble_eq_true rfl, Nat.le_of_ble_eq_true rfl⟩ (by first | assumption | exact rt_a ht | exact rt_r1 ht | exact rt_w ht | exact rt_rr ht (by omega) | exact rt_ra ht (by omega) | exact wo_a hw | exact wo_r2 hw | exact wo_a3 hw | exact wo_rr hw (by omega) | exact wo_ra hw (by omega)) dX5_firstRoad_49 (hia) ?_
        refine px_ifb_eq (tgt := 71) dX5_firstRoad_52 (by decide) (fun h52 => (by first | exact absurd h52 (hat) | exact absurd (hat) h52)) (fun h52 => ?_)
        refine px_aload_0 dX5_firstRoad_55 ?_
        refine px_iload_6 dX5_firstRoad_56 ?_
        refine px_aload_7 dX5_firstRoad_58 ?_
        refine px_iload_2 dX5_firstRoad_60 ?_
        refine px_iload_3 dX5_firstRoad_61 ?_
        refine cd_X5_99 rfl ⟨⟨Nat.le_of_ble_eq_true rfl, Nat.le_of_ble_eq_true rfl⟩, Nat.le_of_ble_eq_true rfl, Nat.le_of_ble_eq_true rfl, Nat.le_of_ble_eq_true rfl⟩ (by first | assumption | exact rt_a ht | exact rt_r1 ht | exact rt_w ht | exact rt_rr ht (by omega) | exact rt_ra ht (by omega) | exact wo_a hw | exact wo_r2 hw | exact wo_a3 hw | exact wo_rr hw (by omega) | exact wo_ra hw (by omega)) dX5_firstRoad_62 (hib) ?_
        refine px_ifb_eq (tgt := 71) dX5_firstRoad_65 (by decide) (fun h65 => (by first | exact absurd h65 (hbest) | exact absurd (hbest) h65)) (fun h65 => ?_)
        refine px_iload_6 dX5_firstRoad_68 ?_
        refine px_iret dX5_firstRoad_70 ?_
        subst hQ; exact ⟨rfl, rfl⟩
      | succ n ih =>
        intro i hi o7
        have hir : i < f_nr σ := by omega
        have hia := s_X4_isAt (l := l) (I := I) (J := J) (R := R) (t := a) (wo_ra hw (show i < 14 by omega))
        rw [ag_rd hA hir (by decide), ag_rd hA hir (by decide)] at hia
        by_cases hat : f_at σ i a
        · obtain ⟨k, hk, ek⟩ : ∃ k, k < 2 ∧ σ (9 + 6 * i + k) = a := hat.elim (fun y => ⟨0, by decide, y⟩) (fun y => ⟨1, by decide, y⟩)
          have hib := s_X5_isBest (l := l) (y := nI i) (k := k) hG ht hw hA hV hir hk rfl ez hu hK
          rw [ek] at hib
          have hnb : ¬ (f_by σ (f_w σ 0 u) i k (u + 1) 0 = f_w σ 0 (u + 1) (ix a) ∨ f_by σ (f_w σ 0 u) i k (u + 1) 1 = f_w σ 0 (u + 1) (ix a)) := by
            have f0 := hfi (4 * i + k) (by omega)
            have f1 := hfi (4 * i + 2 + k) (by omega)
            rw [show (4 * i + k) / 4 = i by omega, show (4 * i + k) % 2 = k by omega, show (4 * i + k) / 2 % 2 = 0 by omega, hM] at f0
            rw [show (4 * i + 2 + k) / 4 = i by omega, show (4 * i + 2 + k) % 2 = k by omega, show (4 * i + 2 + k) / 2 % 2 = 1 by omega, hM] at f1
            rintro (q | q)
            · exact absurd (f0 ek) (by rw [q]; exact Int64.lt_irrefl)
            · exact absurd (f1 ek) (by rw [q]; exact Int64.lt_irrefl)
          refine px_iload_6 dX5_firstRoad_28 ?_
          refine px_aload_1 dX5_firstRoad_30 ?_
          refine gf_X5_33 rfl dX5_firstRoad_31 (by first | assumption | exact rt_a ht | exact rt_r1 ht | exact rt_w ht | exact rt_rr ht (by omega) | exact rt_ra ht (by omega) | exact wo_a hw | exact wo_r2 hw | exact wo_a3 hw | exact wo_rr hw (by omega) | exact wo_ra hw (by omega)) ?_
          rw [hn]
          refine px_icmp_ge (tgt := 77) dX5_firstRoad_34 (by decide) (fun h34 => (by first | exact absurd h34 ((nI_ge (by omega) (by omega))) | exact absurd ((nI_ge (by omega) (by omega))) h34)) (fun h34 => ?_)
          refine px_aload_1 dX5_firstRoad_37 ?_
          refine gf_X5_37 rfl dX5_firstRoad_38 (by first | assumption | exact rt_a ht | exact rt_r1 ht | exact rt_w ht | exact rt_rr ht (by omega) | exact rt_ra ht (by omega) | exact wo_a hw | exact wo_r2 hw | exact wo_a3 hw | exact wo_rr hw (by omega) | exact wo_ra hw (by omega)) (by first | assumption | exact rt_a ht | exact rt_r1 ht | exact rt_w ht | exact rt_rr ht (by omega) | exact rt_ra ht (by omega) | exact wo_a hw | exact wo_r2 hw | exact wo_a3 hw | exact wo_rr hw (by omega) | exact wo_ra hw (by omega)) ?_
          refine px_iload_6 dX5_firstRoad_41 ?_
          refine px_aaldN dX5_firstRoad_43 (by first | assumption | exact rt_a ht | exact rt_r1 ht | exact rt_w ht | exact rt_rr ht (by omega) | exact rt_ra ht (by omega) | exact wo_a hw | exact wo_r2 hw | exact wo_a3 hw | exact wo_rr hw (by omega) | exact wo_ra hw (by omega)) (by first | with_reducible rfl | assumption | exact ix_eq (by assumption)) (by omega) (by first | assumption | exact rt_a ht | exact rt_r1 ht | exact rt_w ht | exact rt_rr ht (by omega) | exact rt_ra ht (by omega) | exact wo_a hw | exact wo_r2 hw | exact wo_a3 hw | exact wo_rr hw (by omega) | exact wo_ra hw (by omega)) ?_
          refine px_astore_7 dX5_firstRoad_44 rfl ?_
          refine px_aload_7 dX5_firstRoad_46 ?_
          refine px_iload_2 dX5_firstRoad_48 ?_
          refine cd_X5_95 rfl ⟨⟨Nat.le_of_ble_eq_true rfl, Nat.le_of_ble_eq_true rfl⟩, Nat.le_of_ble_eq_true rfl, Nat.le_of_ble_eq_true rfl, Nat.le_of_ble_eq_true rfl⟩ (by first | assumption | exact rt_a ht | exact rt_r1 ht | exact rt_w ht | exact rt_rr ht (by omega) | exact rt_ra ht (by omega) | exact wo_a hw | exact wo_r2 hw | exact wo_a3 hw | exact wo_rr hw (by omega) | exact wo_ra hw (by omega)) dX5_firstRoad_49 (hia) ?_
          refine px_ifb_eq (tgt := 71) dX5_firstRoad_52 (by decide) (fun h52 => (by first | exact absurd h52 (hat) | exact absurd (hat) h52)) (fun h52 => ?_)
          refine px_aload_0 dX5_firstRoad_55 ?_
          refine px_iload_6 dX5_firstRoad_56 ?_
          refine px_aload_7 dX5_firstRoad_58 ?_
          refine px_iload_2 dX5_firstRoad_60 ?_
          refine px_iload_3 dX5_firstRoad_61 ?_
          refine cd_X5_99 rfl ⟨⟨Nat.le_of_ble_eq_true rfl, Nat.le_of_ble_eq_true rfl⟩, Nat.le_of_ble_eq_true rfl, Nat.le_of_ble_eq_true rfl, Nat.le_of_ble_eq_true rfl⟩ (by first | assumption | exact rt_a ht | exact rt_r1 ht | exact rt_w ht | exact rt_rr ht (by omega) | exact rt_ra ht (by omega) | exact wo_a hw | exact wo_r2 hw | exact wo_a3 hw | exact wo_rr hw (by omega) | exact wo_ra hw (by omega)) dX5_firstRoad_62 (hib) ?_
          refine px_ifb_eq (tgt := 71) dX5_firstRoad_65 (by decide) (fun h65 => ?_) (fun h65 => (by first | exact absurd (hnb) h65 | exact absurd h65 (hnb)))
          refine px_iinc_6 dX5_firstRoad_71 rfl ?_
          refine px_goto (tgt := 28) dX5_firstRoad_74 (by decide) ?_
          rw [inc_nI]; exact ih (i + 1) (by omega) _
        · skip
          refine px_iload_6 dX5_firstRoad_28 ?_
          refine px_aload_1 dX5_firstRoad_30 ?_
          refine gf_X5_33 rfl dX5_firstRoad_31 (by first | assumption | exact rt_a ht | exact rt_r1 ht | exact rt_w ht | exact rt_rr ht (by omega) | exact rt_ra ht (by omega) | exact wo_a hw | exact wo_r2 hw | exact wo_a3 hw | exact wo_rr hw (by omega) | exact wo_ra hw (by omega)) ?_
          rw [hn]
          refine px_icmp_ge (tgt := 77) dX5_firstRoad_34 (by decide) (fun h34 => (by first | exact absurd h34 ((nI_ge (by omega) (by omega))) | exact absurd ((nI_ge (by omega) (by omega))) h34)) (fun h34 => ?_)
          refine px_aload_1 dX5_firstRoad_37 ?_
          refine gf_X5_37 rfl dX5_firstRoad_38 (by first | assumption | exact rt_a ht | exact rt_r1 ht | exact rt_w ht | exact rt_rr ht (by omega) | exact rt_ra ht (by omega) | exact wo_a hw | exact wo_r2 hw | exact wo_a3 hw | exact wo_rr hw (by omega) | exact wo_ra hw (by omega)) (by first | assumption | exact rt_a ht | exact rt_r1 ht | exact rt_w ht | exact rt_rr ht (by omega) | exact rt_ra ht (by omega) | exact wo_a hw | exact wo_r2 hw | exact wo_a3 hw | exact wo_rr hw (by omega) | exact wo_ra hw (by omega)) ?_
          refine px_iload_6 dX5_firstRoad_41 ?_
          refine px_aaldN dX5_firstRoad_43 (by first | assumption | exact rt_a ht | exact rt_r1 ht | exact rt_w ht | exact rt_rr ht (by omega) | exact rt_ra ht (by omega) | exact wo_a hw | exact wo_r2 hw | exact wo_a3 hw | exact wo_rr hw (by omega) | exact wo_ra hw (by omega)) (by first | with_reducible rfl | assumption | exact ix_eq (by assumption)) (by omega) (by first | assumption | exact rt_a ht | exact rt_r1 ht | exact rt_w ht | exact rt_rr ht (by omega) | exact rt_ra ht (by omega) | exact wo_a hw | exact wo_r2 hw | exact wo_a3 hw | exact wo_rr hw (by omega) | exact wo_ra hw (by omega)) ?_
          refine px_astore_7 dX5_firstRoad_44 rfl ?_
          refine px_aload_7 dX5_firstRoad_46 ?_
          refine px_iload_2 dX5_firstRoad_48 ?_
          refine cd_X5_95 rfl ⟨⟨Nat.le_of_ble_eq_true rfl, Nat.le_of_ble_eq_true rfl⟩, Nat.le_of_ble_eq_true rfl, Nat.le_of_ble_eq_true rfl, Nat.le_of_ble_eq_true rfl⟩ (by first | assumption | exact rt_a ht | exact rt_r1 ht | exact rt_w ht | exact rt_rr ht (by omega) | exact rt_ra ht (by omega) | exact wo_a hw | exact wo_r2 hw | exact wo_a3 hw | exact wo_rr hw (by omega) | exact wo_ra hw (by omega)) dX5_firstRoad_49 (hia) ?_
          refine px_ifb_eq (tgt := 71) dX5_firstRoad_52 (by decide) (fun h52 => ?_) (fun h52 => (by first | exact absurd (hat) h52 | exact absurd h52 (hat)))
          refine px_iinc_6 dX5_firstRoad_71 rfl ?_
          refine px_goto (tgt := 28) dX5_firstRoad_74 (by decide) ?_
          rw [inc_nI]; exact ih (i + 1) (by omega) _
    refine px_aload_0 dX5_firstRoad_0 ?_
    refine gf_X5_11 rfl dX5_firstRoad_1 (by first | assumption | exact rt_a ht | exact rt_r1 ht | exact rt_w ht | exact rt_rr ht (by omega) | exact rt_ra ht (by omega) | exact wo_a hw | exact wo_r2 hw | exact wo_a3 hw | exact wo_rr hw (by omega) | exact wo_ra hw (by omega)) (by first | assumption | exact rt_a ht | exact rt_r1 ht | exact rt_w ht | exact rt_rr ht (by omega) | exact rt_ra ht (by omega) | exact wo_a hw | exact wo_r2 hw | exact wo_a3 hw | exact wo_rr hw (by omega) | exact wo_ra hw (by omega)) ?_
    refine px_iload_3 dX5_firstRoad_4 ?_
    refine px_aaldN dX5_firstRoad_5 (by first | assumption | exact rt_a ht | exact rt_r1 ht | exact rt_w ht | exact rt_rr ht (by omega) | exact rt_ra ht (by omega) | exact wo_a hw | exact wo_r2 hw | exact wo_a3 hw | exact wo_rr hw (by omega) | exact wo_ra hw (by omega)) (by first | with_reducible rfl | assumption | exact ix_eq (by assumption)) (by omega) (by first | assumption | exact rt_a ht | exact rt_r1 ht | exact rt_w ht | exact rt_rr ht (by omega) | exact rt_ra ht (by omega) | exact wo_a hw | exact wo_r2 hw | exact wo_a3 hw | exact wo_rr hw (by omega) | exact wo_ra hw (by omega)) ?_
    refine px_iload_2 dX5_firstRoad_6 ?_
    refine px_laldN dX5_firstRoad_7 (by first | assumption | exact rt_a ht | exact rt_r1 ht | exact rt_w ht | exact rt_rr ht (by omega) | exact rt_ra ht (by omega) | exact wo_a hw | exact wo_r2 hw | exact wo_a3 hw | exact wo_rr hw (by omega) | exact wo_ra hw (by omega)) (by first | with_reducible rfl | assumption | exact ix_eq (by assumption)) (by omega) ?_
    rw [k3 _ (Nat.le_refl _) _ (show ix a < 8 by omega)]
    refine px_lstore_4 dX5_firstRoad_8 rfl ?_
    refine px_lload_4 dX5_firstRoad_10 ?_
    refine px_aload_0 dX5_firstRoad_12 ?_
    refine px_iload_2 dX5_firstRoad_13 ?_
    refine px_iload_3 dX5_firstRoad_14 ?_
    refine cd_X5_52 rfl ⟨⟨Nat.le_of_ble_eq_true rfl, Nat.le_of_ble_eq_true rfl⟩, Nat.le_of_ble_eq_true rfl, Nat.le_of_ble_eq_true rfl, Nat.le_of_ble_eq_true rfl⟩ (by first | assumption | exact rt_a ht | exact rt_r1 ht | exact rt_w ht | exact rt_rr ht (by omega) | exact rt_ra ht (by omega) | exact wo_a hw | exact wo_r2 hw | exact wo_a3 hw | exact wo_rr hw (by omega) | exact wo_ra hw (by omega)) dX5_firstRoad_15 (hbw) ?_
    refine px_lcmp dX5_firstRoad_18 ?_
    refine px_lc_ne (tgt := 25) dX5_firstRoad_19 (by decide) (fun h19 => ?_) (fun h19 => (by first | exact absurd (hne) h19 | exact absurd h19 (hne)))
    refine px_iconst (0) dX5_firstRoad_25 rfl ?_
    refine px_istore_6 dX5_firstRoad_26 rfl ?_
    exact L _ 0 (Nat.zero_add _) _
end CST
