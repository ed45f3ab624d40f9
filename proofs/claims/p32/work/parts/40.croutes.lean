section CRT
variable {l : Launch} {G : px_G} {T : px_T} {I I' : px_I} {J : px_J} {R : px_R} {μ : px_M} {t w : Nat} {σ τ : px_s} {W : Nat → Int64}
theorem rt_a (h : px_rt G T R t) : px_at G T t 5 0 := h.1
theorem rt_r1 (h : px_rt G T R t) : R t 1 = some (t + 1) := h.2.1
theorem rt_r2 (h : px_rt G T R t) : R t 2 = some (t + 7) := h.2.2.1
theorem rt_w (h : px_rt G T R t) : px_at G T (t + 1) 15 5 ∧ 12 ≤ 15 ∧ 15 ≤ 15 := ⟨h.2.2.2.1, by decide, by decide⟩
theorem rt_rr (h : px_rt G T R t) {q : Nat} (hq : q < 5) : R (t + 1) q = some (t + 2 + q) := (h.2.2.2.2.1 q hq).1
theorem rt_ra (h : px_rt G T R t) {q : Nat} (hq : q < 5) : px_at G T (t + 2 + q) 10 8 := (h.2.2.2.2.1 q hq).2
theorem rt_c (h : px_rt G T R t) : px_at G T (t + 7) 9 14 := h.2.2.2.2.2
theorem unit_pw {k : Nat} (hk : k < 5) : f_unit k = f_pw k := by
  rcases (by omega : k = 0 ∨ k = 1 ∨ k = 2 ∨ k = 3 ∨ k = 4) with rfl | rfl | rfl | rfl | rfl <;> decide
theorem sub_l {c : Nat} (hc : c ≤ 90) : (100 - nI c : Int32).toInt64 = 100 - (nI c).toInt64 := by
  have h : ∀ c, c < 91 → (100 - nI c : Int32).toInt64 = 100 - (nI c).toInt64 := by decide
  exact h c (by omega)
theorem far_at (hV : px_V σ) {r k : Nat} (hr : r < f_nr σ) (hk : k < 2) : f_far σ r (σ (9 + 6 * r + k)) = σ (9 + 6 * r + (1 - k)) := (ends_of hV hr hk).1
theorem s_X5_byWaiting {a z : Int32} {u k : Nat} (ht : px_rt G T R t) (ea : a = nI u) (hu : u < 8) (ez : z = nI (k + 1)) (hk : k < 4) : px_K l G 0 mX5_byWaiting ([.ref t, .int a, .int z]) ((T, I, J, R)) (some (.long (100 * J (t + 2 + k) u))) ((T, I, J, R)) := by
  have e3 : z - 1 = nI k := by rw [ez, nI_pred]
  refine px_met (M := mX5_byWaiting) ([some (.ref t), some (.int a), some (.int z)]) (by decide +kernel) rfl (Nat.le_of_ble_eq_true rfl) rfl ?_
  refine px_ldc2 ck_X5_82 dX5_byWaiting_0 ?_
  refine px_aload_0 dX5_byWaiting_3 ?_
  refine gf_X5_11 rfl dX5_byWaiting_4 (by first | assumption | exact rt_a ht | exact rt_r1 ht | exact rt_r2 ht | exact rt_w ht | exact rt_c ht | exact rt_rr ht (by omega) | exact rt_ra ht (by omega) | exact wo_a hw | exact wo_r0 hw | exact wo_r1 hw | exact wo_r2 hw | exact wo_a1 hw | exact wo_a2 hw | exact wo_a3 hw | exact wo_rr hw (by omega) | exact wo_ra hw (by omega)) (by first | assumption | exact rt_a ht | exact rt_r1 ht | exact rt_r2 ht | exact rt_w ht | exact rt_c ht | exact rt_rr ht (by omega) | exact rt_ra ht (by omega) | exact wo_a hw | exact wo_r0 hw | exact wo_r1 hw | exact wo_r2 hw | exact wo_a1 hw | exact wo_a2 hw | exact wo_a3 hw | exact wo_rr hw (by omega) | exact wo_ra hw (by omega)) ?_
  refine px_iload_2 dX5_byWaiting_7 ?_
  refine px_iconst (1) dX5_byWaiting_8 rfl ?_
  refine px_isub dX5_byWaiting_9 ?_
  refine px_aaldN dX5_byWaiting_10 (by first | assumption | exact rt_a ht | exact rt_r1 ht | exact rt_r2 ht | exact rt_w ht | exact rt_c ht | exact rt_rr ht (by omega) | exact rt_ra ht (by omega) | exact wo_a hw | exact wo_r0 hw | exact wo_r1 hw | exact wo_r2 hw | exact wo_a1 hw | exact wo_a2 hw | exact wo_a3 hw | exact wo_rr hw (by omega) | exact wo_ra hw (by omega)) (by first | with_reducible rfl | assumption | exact ix_eq (by assumption)) (by omega) (by first | assumption | exact rt_a ht | exact rt_r1 ht | exact rt_r2 ht | exact rt_w ht | exact rt_c ht | exact rt_rr ht (by omega) | exact rt_ra ht (by omega) | exact wo_a hw | exact wo_r0 hw | exact wo_r1 hw | exact wo_r2 hw | exact wo_a1 hw | exact wo_a2 hw | exact wo_a3 hw | exact wo_rr hw (by omega) | exact wo_ra hw (by omega)) ?_
  refine px_iload_1 dX5_byWaiting_11 ?_
  refine px_laldN dX5_byWaiting_12 (by first | assumption | exact rt_a ht | exact rt_r1 ht | exact rt_r2 ht | exact rt_w ht | exact rt_c ht | exact rt_rr ht (by omega) | exact rt_ra ht (by omega) | exact wo_a hw | exact wo_r0 hw | exact wo_r1 hw | exact wo_r2 hw | exact wo_a1 hw | exact wo_a2 hw | exact wo_a3 hw | exact wo_rr hw (by omega) | exact wo_ra hw (by omega)) (by first | with_reducible rfl | assumption | exact ix_eq (by assumption)) (by omega) ?_
  refine px_lmul dX5_byWaiting_13 ?_
  refine px_lret dX5_byWaiting_14 ?_
  exact ⟨rfl, rfl⟩
theorem far_call (hw : px_wo G T R w) (hA : px_ag I w σ) (hV : px_V σ) {r k : Nat} (hr : r < f_nr σ) (hk : k < 2) : px_K l G 0 mX4_farFrom ([.ref (w + 5 + r), .int (σ (9 + 6 * r + k))]) ((T, I, J, R)) (some (.int (σ (9 + 6 * r + (1 - k))))) ((T, I, J, R)) := by
  have h14 := hV.1.2.1
  have h := s_X4_farFrom (l := l) (I := I) (J := J) (R := R) (t := σ (9 + 6 * r + k)) (wo_ra hw (show r < 14 by omega))
  rw [ag_rd hA hr (by decide), ag_rd hA hr (by decide), (ends_of hV hr hk).1] at h
  exact h
theorem s_X5_openly {z : Int32} {r k u : Nat} (hG : px_tabs G) (ht : px_rt G T R t) (hw : px_wo G T R w) (hA : px_ag I w σ) (hV : px_V σ) (hr : r < f_nr σ) (hk : k < 2) (ez : z = nI (u + 1)) (hu : u < 4) (hW : ∀ q, q < 8 → J (t + 2 + u) q = W q) : px_K l G 1 mX5_openly ([.ref t, .ref (w + 5 + r), .int (σ (9 + 6 * r + k)), .int z]) ((T, I, J, R)) (some (.long (f_by σ W r k (u + 1) 0))) ((T, I, J, R)) := by
  obtain ⟨tl, tm, tu, -, -, ⟨q3, hq3⟩, -, -, ⟨z3, hz3⟩⟩ := hG
  have h14 := hV.1.2.1
  have e3 : z - 1 = nI u := by rw [ez, nI_pred]
  obtain ⟨x2, l2⟩ := ix_of_nI (ends_of hV hr hk).2.2
  have vin : vp_in z 5 := by rw [ez]; exact vp_in_nI (by omega) (by omega)
  have el : (fun k => Value.long (f_unit k)) z.toNatClampNeg = .long (f_pw (u + 1)) := by
    show Value.long (f_unit (ix z)) = _
    rw [ez, ix_nI (by omega), unit_pw (by omega)]
  have hf : f_by σ W r k (u + 1) 0 = 100 * W (ix (σ (9 + 6 * r + (1 - k)))) - (σ (9 + 6 * r + 2)).toInt64 * f_pw (u + 1) := if_neg (by decide)
  rw [hf]
  refine px_met (M := mX5_openly) ([some (.ref t), some (.ref (w + 5 + r)), some (.int (σ (9 + 6 * r + k))), some (.int z)]) (by decide +kernel) rfl (Nat.le_of_ble_eq_true rfl) rfl ?_
  refine px_ldc2 ck_X5_82 dX5_openly_0 ?_
  refine px_aload_0 dX5_openly_3 ?_
  refine gf_X5_11 rfl dX5_openly_4 (by first | assumption | exact rt_a ht | exact rt_r1 ht | exact rt_r2 ht | exact rt_w ht | exact rt_c ht | exact rt_rr ht (by omega) | exact rt_ra ht (by omega) | exact wo_a hw | exact wo_r0 hw | exact wo_r1 hw | exact wo_r2 hw | exact wo_a1 hw | exact wo_a2 hw | exact wo_a3 hw | exact wo_rr hw (by omega) | exact wo_ra hw (by omega)) (by first | assumption | exact rt_a ht | exact rt_r1 ht | exact rt_r2 ht | exact rt_w ht | exact rt_c ht | exact rt_rr ht (by omega) | exact rt_ra ht (by omega) | exact wo_a hw | exact wo_r0 hw | exact wo_r1 hw | exact wo_r2 hw | exact wo_a1 hw | exact wo_a2 hw | exact wo_a3 hw | exact wo_rr hw (by omega) | exact wo_ra hw (by omega)) ?_
  refine px_iload_3 dX5_openly_7 ?_
  refine px_iconst (1) dX5_openly_8 rfl ?_
  refine px_isub dX5_openly_9 ?_
  refine px_aaldN dX5_openly_10 (by first | assumption | exact rt_a ht | exact rt_r1 ht | exact rt_r2 ht | exact rt_w ht | exact rt_c ht | exact rt_rr ht (by omega) | exact rt_ra ht (by omega) | exact wo_a hw | exact wo_r0 hw | exact wo_r1 hw | exact wo_r2 hw | exact wo_a1 hw | exact wo_a2 hw | exact wo_a3 hw | exact wo_rr hw (by omega) | exact wo_ra hw (by omega)) (by first | with_reducible rfl | assumption | exact ix_eq (by assumption)) (by omega) (by first | assumption | exact rt_a ht | exact rt_r1 ht | exact rt_r2 ht | exact rt_w ht | exact rt_c ht | exact rt_rr ht (by omega) | exact rt_ra ht (by omega) | exact wo_a hw | exact wo_r0 hw | exact wo_r1 hw | exact wo_r2 hw | exact wo_a1 hw | exact wo_a2 hw | exact wo_a3 hw | exact wo_rr hw (by omega) | exact wo_ra hw (by omega)) ?_
  refine px_aload_1 dX5_openly_11 ?_
  refine px_iload_2 dX5_openly_12 ?_
  refine cd_X5_84 rfl ⟨⟨Nat.le_of_ble_eq_true rfl, Nat.le_of_ble_eq_true rfl⟩, Nat.le_of_ble_eq_true rfl, Nat.le_of_ble_eq_true rfl, Nat.le_of_ble_eq_true rfl⟩ (by first | assumption | exact rt_a ht | exact rt_r1 ht | exact rt_r2 ht | exact rt_w ht | exact rt_c ht | exact rt_rr ht (by omega) | exact rt_ra ht (by omega) | exact wo_a hw | exact wo_r0 hw | exact wo_r1 hw | exact wo_r2 hw | exact wo_a1 hw | exact wo_a2 hw | exact wo_a3 hw | exact wo_rr hw (by omega) | exact wo_ra hw (by omega)) dX5_openly_13 (far_call hw hA hV hr hk) ?_
  refine px_laldN dX5_openly_16 (by first | assumption | exact rt_a ht | exact rt_r1 ht | exact rt_r2 ht | exact rt_w ht | exact rt_c ht | exact rt_rr ht (by omega) | exact rt_ra ht (by omega) | exact wo_a hw | exact wo_r0 hw | exact wo_r1 hw | exact wo_r2 hw | exact wo_a1 hw | exact wo_a2 hw | exact wo_a3 hw | exact wo_rr hw (by omega) | exact wo_ra hw (by omega)) (by first | with_reducible rfl | assumption | exact ix_eq (by assumption)) (by omega) ?_
  rw [hW _ l2]
  refine px_lmul dX5_openly_17 ?_
  refine px_aload_1 dX5_openly_18 ?_
  refine gf_X5_88 rfl dX5_openly_19 (by first | assumption | exact rt_a ht | exact rt_r1 ht | exact rt_r2 ht | exact rt_w ht | exact rt_c ht | exact rt_rr ht (by omega) | exact rt_ra ht (by omega) | exact wo_a hw | exact wo_r0 hw | exact wo_r1 hw | exact wo_r2 hw | exact wo_a1 hw | exact wo_a2 hw | exact wo_a3 hw | exact wo_rr hw (by omega) | exact wo_ra hw (by omega)) ?_
  rw [ag_rd hA hr (by decide)]
  refine px_i2l dX5_openly_22 ?_
  refine px_getsN fl_X5_91 dX5_openly_23 hz3 ?_
  refine px_iload_3 dX5_openly_26 ?_
  refine px_tl dX5_openly_27 hq3 vin el ?_
  refine px_lmul dX5_openly_28 ?_
  refine px_lsub dX5_openly_29 ?_
  refine px_lret dX5_openly_30 ?_
  exact ⟨rfl, rfl⟩
theorem s_X5_hiding {y z : Int32} {r k u : Nat} (hG : px_tabs G) (ht : px_rt G T R t) (hw : px_wo G T R w) (hA : px_ag I w σ) (hV : px_V σ) (hr : r < f_nr σ) (hk : k < 2) (ey : y = nI r) (ez : z = nI (u + 1)) (hu : u < 4) (hW : ∀ q, q < 8 → J (t + 2 + u) q = W q) (hc : I (t + 7) r = f_cr σ r) (hfi : J t 3 = (σ 142).toInt64) : px_K l G 1 mX5_hiding ([.ref t, .int y, .ref (w + 5 + r), .int (σ (9 + 6 * r + k)), .int z]) ((T, I, J, R)) (some (.long (f_by σ W r k (u + 1) 1))) ((T, I, J, R)) := by
  obtain ⟨tl, tm, tu, -, -, ⟨q3, hq3⟩, -, -, ⟨z3, hz3⟩⟩ := hG
  have h14 := hV.1.2.1
  have e3 : z - 1 = nI u := by rw [ez, nI_pred]
  obtain ⟨x2, l2⟩ := ix_of_nI (ends_of hV hr hk).2.2
  have vin : vp_in (z - 1) 5 := by rw [e3]; exact vp_in_nI (by omega) (by omega)
  have el : (fun k => Value.long (f_unit k)) (z - 1).toNatClampNeg = .long (f_pw u) := by
    show Value.long (f_unit (ix (z - 1))) = _
    rw [e3, ix_nI (by omega), unit_pw (by omega)]
  have es : (100 - f_cr σ r : Int32).toInt64 = 100 - (f_cr σ r).toInt64 := by
    have h90 := cr_le (σ := σ) r
    rw [cr_nI hV hr]
    exact sub_l h90
  have hf : f_by σ W r k (u + 1) 1 = (100 - (f_cr σ r).toInt64) * W (ix (σ (9 + 6 * r + (1 - k)))) - (f_cr σ r).toInt64 * (σ 142).toInt64 * f_pw u := if_pos rfl
  rw [hf]
  refine px_met (M := mX5_hiding) ([some (.ref t), some (.int y), some (.ref (w + 5 + r)), some (.int (σ (9 + 6 * r + k))), some (.int z), none, none]) (by decide +kernel) rfl (Nat.le_of_ble_eq_true rfl) rfl ?_
  refine px_bipush (100) dX5_hiding_0 rfl ?_
  refine px_aload_0 dX5_hiding_2 ?_
  refine gf_X5_16 rfl dX5_hiding_3 (by first | assumption | exact rt_a ht | exact rt_r1 ht | exact rt_r2 ht | exact rt_w ht | exact rt_c ht | exact rt_rr ht (by omega) | exact rt_ra ht (by omega) | exact wo_a hw | exact wo_r0 hw | exact wo_r1 hw | exact wo_r2 hw | exact wo_a1 hw | exact wo_a2 hw | exact wo_a3 hw | exact wo_rr hw (by omega) | exact wo_ra hw (by omega)) (by first | assumption | exact rt_a ht | exact rt_r1 ht | exact rt_r2 ht | exact rt_w ht | exact rt_c ht | exact rt_rr ht (by omega) | exact rt_ra ht (by omega) | exact wo_a hw | exact wo_r0 hw | exact wo_r1 hw | exact wo_r2 hw | exact wo_a1 hw | exact wo_a2 hw | exact wo_a3 hw | exact wo_rr hw (by omega) | exact wo_ra hw (by omega)) ?_
  refine px_iload_1 dX5_hiding_6 ?_
  refine px_ialdN dX5_hiding_7 (by first | assumption | exact rt_a ht | exact rt_r1 ht | exact rt_r2 ht | exact rt_w ht | exact rt_c ht | exact rt_rr ht (by omega) | exact rt_ra ht (by omega) | exact wo_a hw | exact wo_r0 hw | exact wo_r1 hw | exact wo_r2 hw | exact wo_a1 hw | exact wo_a2 hw | exact wo_a3 hw | exact wo_rr hw (by omega) | exact wo_ra hw (by omega)) (by exact ey) (by omega) ?_
  rw [hc]
  refine px_isub dX5_hiding_8 ?_
  refine px_i2l dX5_hiding_9 ?_
  rw [es]
  refine px_aload_0 dX5_hiding_10 ?_
  refine gf_X5_11 rfl dX5_hiding_11 (by first | assumption | exact rt_a ht | exact rt_r1 ht | exact rt_r2 ht | exact rt_w ht | exact rt_c ht | exact rt_rr ht (by omega) | exact rt_ra ht (by omega) | exact wo_a hw | exact wo_r0 hw | exact wo_r1 hw | exact wo_r2 hw | exact wo_a1 hw | exact wo_a2 hw | exact wo_a3 hw | exact wo_rr hw (by omega) | exact wo_ra hw (by omega)) (by first | assumption | exact rt_a ht | exact rt_r1 ht | exact rt_r2 ht | exact rt_w ht | exact rt_c ht | exact rt_rr ht (by omega) | exact rt_ra ht (by omega) | exact wo_a hw | exact wo_r0 hw | exact wo_r1 hw | exact wo_r2 hw | exact wo_a1 hw | exact wo_a2 hw | exact wo_a3 hw | exact wo_rr hw (by omega) | exact wo_ra hw (by omega)) ?_
  refine px_iload_4 dX5_hiding_14 ?_
  refine px_iconst (1) dX5_hiding_16 rfl ?_
  refine px_isub dX5_hiding_17 ?_
  refine px_aaldN dX5_hiding_18 (by first | assumption | exact rt_a ht | exact rt_r1 ht | exact rt_r2 ht | exact rt_w ht | exact rt_c ht | exact rt_rr ht (by omega) | exact rt_ra ht (by omega) | exact wo_a hw | exact wo_r0 hw | exact wo_r1 hw | exact wo_r2 hw | exact wo_a1 hw | exact wo_a2 hw | exact wo_a3 hw | exact wo_rr hw (by omega) | exact wo_ra hw (by omega)) (by first | with_reducible rfl | assumption | exact ix_eq (by assumption)) (by omega) (by first | assumption | exact rt_a ht | exact rt_r1 ht | exact rt_r2 ht | exact rt_w ht | exact rt_c ht | exact rt_rr ht (by omega) | exact rt_ra ht (by omega) | exact wo_a hw | exact wo_r0 hw | exact wo_r1 hw | exact wo_r2 hw | exact wo_a1 hw | exact wo_a2 hw | exact wo_a3 hw | exact wo_rr hw (by omega) | exact wo_ra hw (by omega)) ?_
  refine px_aload_2 dX5_hiding_19 ?_
  refine px_iload_3 dX5_hiding_20 ?_
  refine cd_X5_84 rfl ⟨⟨Nat.le_of_ble_eq_true rfl, Nat.le_of_ble_eq_true rfl⟩, Nat.le_of_ble_eq_true rfl, Nat.le_of_ble_eq_true rfl, Nat.le_of_ble_eq_true rfl⟩ (by first | assumption | exact rt_a ht | exact rt_r1 ht | exact rt_r2 ht | exact rt_w ht | exact rt_c ht | exact rt_rr ht (by omega) | exact rt_ra ht (by omega) | exact wo_a hw | exact wo_r0 hw | exact wo_r1 hw | exact wo_r2 hw | exact wo_a1 hw | exact wo_a2 hw | exact wo_a3 hw | exact wo_rr hw (by omega) | exact wo_ra hw (by omega)) dX5_hiding_21 (far_call hw hA hV hr hk) ?_
  refine px_laldN dX5_hiding_24 (by first | assumption | exact rt_a ht | exact rt_r1 ht | exact rt_r2 ht | exact rt_w ht | exact rt_c ht | exact rt_rr ht (by omega) | exact rt_ra ht (by omega) | exact wo_a hw | exact wo_r0 hw | exact wo_r1 hw | exact wo_r2 hw | exact wo_a1 hw | exact wo_a2 hw | exact wo_a3 hw | exact wo_rr hw (by omega) | exact wo_ra hw (by omega)) (by first | with_reducible rfl | assumption | exact ix_eq (by assumption)) (by omega) ?_
  rw [hW _ l2]
  refine px_lmul dX5_hiding_25 ?_
  refine px_lstore_5 dX5_hiding_26 rfl ?_
  refine px_lload_5 dX5_hiding_28 ?_
  refine px_aload_0 dX5_hiding_30 ?_
  refine gf_X5_16 rfl dX5_hiding_31 (by first | assumption | exact rt_a ht | exact rt_r1 ht | exact rt_r2 ht | exact rt_w ht | exact rt_c ht | exact rt_rr ht (by omega) | exact rt_ra ht (by omega) | exact wo_a hw | exact wo_r0 hw | exact wo_r1 hw | exact wo_r2 hw | exact wo_a1 hw | exact wo_a2 hw | exact wo_a3 hw | exact wo_rr hw (by omega) | exact wo_ra hw (by omega)) (by first | assumption | exact rt_a ht | exact rt_r1 ht | exact rt_r2 ht | exact rt_w ht | exact rt_c ht | exact rt_rr ht (by omega) | exact rt_ra ht (by omega) | exact wo_a hw | exact wo_r0 hw | exact wo_r1 hw | exact wo_r2 hw | exact wo_a1 hw | exact wo_a2 hw | exact wo_a3 hw | exact wo_rr hw (by omega) | exact wo_ra hw (by omega)) ?_
  refine px_iload_1 dX5_hiding_34 ?_
  refine px_ialdN dX5_hiding_35 (by first | assumption | exact rt_a ht | exact rt_r1 ht | exact rt_r2 ht | exact rt_w ht | exact rt_c ht | exact rt_rr ht (by omega) | exact rt_ra ht (by omega) | exact wo_a hw | exact wo_r0 hw | exact wo_r1 hw | exact wo_r2 hw | exact wo_a1 hw | exact wo_a2 hw | exact wo_a3 hw | exact wo_rr hw (by omega) | exact wo_ra hw (by omega)) (by exact ey) (by omega) ?_
  rw [hc]
  refine px_i2l dX5_hiding_36 ?_
  refine px_aload_0 dX5_hiding_37 ?_
  refine gf_X5_20 rfl dX5_hiding_38 (by first | assumption | exact rt_a ht | exact rt_r1 ht | exact rt_r2 ht | exact rt_w ht | exact rt_c ht | exact rt_rr ht (by omega) | exact rt_ra ht (by omega) | exact wo_a hw | exact wo_r0 hw | exact wo_r1 hw | exact wo_r2 hw | exact wo_a1 hw | exact wo_a2 hw | exact wo_a3 hw | exact wo_rr hw (by omega) | exact wo_ra hw (by omega)) ?_
  rw [hfi]
  refine px_lmul dX5_hiding_41 ?_
  refine px_getsN fl_X5_91 dX5_hiding_42 hz3 ?_
  refine px_iload_4 dX5_hiding_45 ?_
  refine px_iconst (1) dX5_hiding_47 rfl ?_
  refine px_isub dX5_hiding_48 ?_
  refine px_tl dX5_hiding_49 hq3 vin el ?_
  refine px_lmul dX5_hiding_50 ?_
  refine px_lsub dX5_hiding_51 ?_
  refine px_lret dX5_hiding_52 ?_
  exact ⟨rfl, rfl⟩
theorem max_alt (a b : Int64) : (if b < a then a else b) = if a < b then b else a := by
  by_cases h : b < a
  · rw [if_pos h, if_neg (Int64.not_lt.mpr (Int64.le_of_lt h))]
  · by_cases h2 : a < b
    · rw [if_neg h, if_pos h2]
    · rw [if_neg h, if_neg h2]
      exact Int64.le_antisymm (Int64.not_lt.mp h2) (Int64.not_lt.mp h)
theorem row_s {ov : Int32} {left i : Nat} (q : Nat) : f_row σ ov left W (i + 1) q = if q = ix (σ (9 + 6 * (i / 4) + i / 2 % 2)) ∧ f_row σ ov left W i q < f_by σ W (i / 4) (i / 2 % 2) left (i % 2) ∧ (i % 2 = 1 → ov = 0) then f_by σ W (i / 4) (i / 2 % 2) left (i % 2) else f_row σ ov left W i q := rfl
theorem row2 {ov : Int32} {left r k : Nat} (hk : k < 2) (q : Nat) : f_row σ ov left W (4 * r + 2 * k + 2) q = if q = ix (σ (9 + 6 * r + k)) then (if ov = 0 then (if (if f_row σ ov left W (4 * r + 2 * k) q < f_by σ W r k left 0 then f_by σ W r k left 0 else f_row σ ov left W (4 * r + 2 * k) q) < f_by σ W r k left 1 then f_by σ W r k left 1 else (if f_row σ ov left W (4 * r + 2 * k) q < f_by σ W r k left 0 then f_by σ W r k left 0 else f_row σ ov left W (4 * r + 2 * k) q)) else (if f_row σ ov left W (4 * r + 2 * k) q < f_by σ W r k left 0 then f_by σ W r k left 0 else f_row σ ov left W (4 * r + 2 * k) q)) else f_row σ ov left W (4 * r + 2 * k) q := by
  rw [show 4 * r + 2 * k + 2 = (4 * r + 2 * k + 1) + 1 by omega, row_s, row_s]
  rw [show (4 * r + 2 * k + 1) / 4 = r by omega, show (4 * r + 2 * k + 1) / 2 % 2 = k by omega, show (4 * r + 2 * k + 1) % 2 = 1 by omega, show (4 * r + 2 * k) / 4 = r by omega, show (4 * r + 2 * k) / 2 % 2 = k by omega, show (4 * r + 2 * k) % 2 = 0 by omega]
  generalize f_row σ ov left W (4 * r + 2 * k) q = V
  generalize f_by σ W r k left 0 = v0
  generalize f_by σ W r k left 1 = v1
  generalize ix (σ (9 + 6 * r + k)) = e
  by_cases h1 : q = e
  · by_cases h2 : ov = 0
    · by_cases h3 : V < v0 <;> simp [h1, h2, h3]
    · by_cases h3 : V < v0 <;> simp [h1, h2, h3]
  · simp [h1]
theorem s_X5_raise {y z ov : Int32} {r k u : Nat} (hG : px_tabs G) (ht : px_rt G T R t) (hw : px_wo G T R w) (hA : px_ag I w σ) (hV : px_V σ) (hr : r < f_nr σ) (hk : k < 2) (ey : y = nI r) (ez : z = nI (u + 1)) (hu : u < 4) (hov : I t 0 = ov) (hW : ∀ q, q < 8 → J (t + 2 + u) q = W q) (hc : I (t + 7) r = f_cr σ r) (hfi : J t 3 = (σ 142).toInt64) (hv : J (t + 2 + (u + 1)) (ix (σ (9 + 6 * r + k))) = f_row σ ov (u + 1) W (4 * r + 2 * k) (ix (σ (9 + 6 * r + k)))) : px_K l G 2 mX5_raise ([.ref t, .int y, .ref (w + 5 + r), .int (σ (9 + 6 * r + k)), .int z]) ((T, I, J, R)) (none) ((T, I, px_up J (t + 2 + (u + 1)) (ix (σ (9 + 6 * r + k))) (f_row σ ov (u + 1) W (4 * r + 2 * k + 2) (ix (σ (9 + 6 * r + k)))), R)) := by
  obtain ⟨x1, l1⟩ := ix_of_nI (ends_of hV hr hk).2.1
  have hrow := row2 (σ := σ) (ov := ov) (left := u + 1) (W := W) (r := r) hk (ix (σ (9 + 6 * r + k)))
  rw [if_pos rfl] at hrow
  refine px_met (M := mX5_raise) ([some (.ref t), some (.int y), some (.ref (w + 5 + r)), some (.int (σ (9 + 6 * r + k))), some (.int z), none, none]) (by decide +kernel) rfl (Nat.le_of_ble_eq_true rfl) rfl ?_
  by_cases h0 : ov = 0
  · rw [if_pos h0] at hrow
    rw [hrow]
    refine px_aload_0 dX5_raise_0 ?_
    refine gf_X5_11 rfl dX5_raise_1 (by first | assumption | exact rt_a ht | exact rt_r1 ht | exact rt_r2 ht | exact rt_w ht | exact rt_c ht | exact rt_rr ht (by omega) | exact rt_ra ht (by omega) | exact wo_a hw | exact wo_r0 hw | exact wo_r1 hw | exact wo_r2 hw | exact wo_a1 hw | exact wo_a2 hw | exact wo_a3 hw | exact wo_rr hw (by omega) | exact wo_ra hw (by omega)) (by first | assumption | exact rt_a ht | exact rt_r1 ht | exact rt_r2 ht | exact rt_w ht | exact rt_c ht | exact rt_rr ht (by omega) | exact rt_ra ht (by omega) | exact wo_a hw | exact wo_r0 hw | exact wo_r1 hw | exact wo_r2 hw | exact wo_a1 hw | exact wo_a2 hw | exact wo_a3 hw | exact wo_rr hw (by omega) | exact wo_ra hw (by omega)) ?_
    refine px_iload_4 dX5_raise_4 ?_
    refine px_aaldN dX5_raise_6 (by first | assumption | exact rt_a ht | exact rt_r1 ht | exact rt_r2 ht | exact rt_w ht | exact rt_c ht | exact rt_rr ht (by omega) | exact rt_ra ht (by omega) | exact wo_a hw | exact wo_r0 hw | exact wo_r1 hw | exact wo_r2 hw | exact wo_a1 hw | exact wo_a2 hw | exact wo_a3 hw | exact wo_rr hw (by omega) | exact wo_ra hw (by omega)) (by first | with_reducible rfl | assumption | exact ix_eq (by assumption)) (by omega) (by first | assumption | exact rt_a ht | exact rt_r1 ht | exact rt_r2 ht | exact rt_w ht | exact rt_c ht | exact rt_rr ht (by omega) | exact rt_ra ht (by omega) | exact wo_a hw | exact wo_r0 hw | exact wo_r1 hw | exact wo_r2 hw | exact wo_a1 hw | exact wo_a2 hw | exact wo_a3 hw | exact wo_rr hw (by omega) | exact wo_ra hw (by omega)) ?_
    refine px_iload_3 dX5_raise_7 ?_
    refine px_laldN dX5_raise_8 (by first | assumption | exact rt_a ht | exact rt_r1 ht | exact rt_r2 ht | exact rt_w ht | exact rt_c ht | exact rt_rr ht (by omega) | exact rt_ra ht (by omega) | exact wo_a hw | exact wo_r0 hw | exact wo_r1 hw | exact wo_r2 hw | exact wo_a1 hw | exact wo_a2 hw | exact wo_a3 hw | exact wo_rr hw (by omega) | exact wo_ra hw (by omega)) (by first | with_reducible rfl | assumption | exact ix_eq (by assumption)) (by omega) ?_
    rw [hv]
    refine px_aload_0 dX5_raise_9 ?_
    refine px_aload_2 dX5_raise_10 ?_
    refine px_iload_3 dX5_raise_11 ?_
    refine px_iload_4 dX5_raise_12 ?_
    refine cd_X5_68 rfl ⟨⟨Nat.le_of_ble_eq_true rfl, Nat.le_of_ble_eq_true rfl⟩, Nat.le_of_ble_eq_true rfl, Nat.le_of_ble_eq_true rfl, Nat.le_of_ble_eq_true rfl⟩ (by first | assumption | exact rt_a ht | exact rt_r1 ht | exact rt_r2 ht | exact rt_w ht | exact rt_c ht | exact rt_rr ht (by omega) | exact rt_ra ht (by omega) | exact wo_a hw | exact wo_r0 hw | exact wo_r1 hw | exact wo_r2 hw | exact wo_a1 hw | exact wo_a2 hw | exact wo_a3 hw | exact wo_rr hw (by omega) | exact wo_ra hw (by omega)) dX5_raise_14 (s_X5_openly hG ht hw hA hV hr hk ez hu hW) ?_
    refine cl_X5_72 rfl ⟨Nat.le_of_ble_eq_true rfl, Nat.le_of_ble_eq_true rfl, Nat.le_of_ble_eq_true rfl, Nat.le_of_ble_eq_true rfl⟩ dX5_raise_17 ?_
    rw [max_alt (f_row σ ov (u + 1) W (4 * r + 2 * k) (ix (σ (9 + 6 * r + k)))) (f_by σ W r k (u + 1) 0)]
    refine px_lstore_5 dX5_raise_20 rfl ?_
    refine px_aload_0 dX5_raise_22 ?_
    refine gf_X5_24 rfl dX5_raise_23 (by first | assumption | exact rt_a ht | exact rt_r1 ht | exact rt_r2 ht | exact rt_w ht | exact rt_c ht | exact rt_rr ht (by omega) | exact rt_ra ht (by omega) | exact wo_a hw | exact wo_r0 hw | exact wo_r1 hw | exact wo_r2 hw | exact wo_a1 hw | exact wo_a2 hw | exact wo_a3 hw | exact wo_rr hw (by omega) | exact wo_ra hw (by omega)) ?_
    rw [hov]
    refine px_if_ne (tgt := 45) dX5_raise_26 (by decide) (fun h26 => (by first | exact absurd h26 (h0) | exact absurd (h0) h26)) (fun h26 => ?_)
    refine px_lload_5 dX5_raise_29 ?_
    refine px_aload_0 dX5_raise_31 ?_
    refine px_iload_1 dX5_raise_32 ?_
    refine px_aload_2 dX5_raise_33 ?_
    refine px_iload_3 dX5_raise_34 ?_
    refine px_iload_4 dX5_raise_35 ?_
    refine cd_X5_78 rfl ⟨⟨Nat.le_of_ble_eq_true rfl, Nat.le_of_ble_eq_true rfl⟩, Nat.le_of_ble_eq_true rfl, Nat.le_of_ble_eq_true rfl, Nat.le_of_ble_eq_true rfl⟩ (by first | assumption | exact rt_a ht | exact rt_r1 ht | exact rt_r2 ht | exact rt_w ht | exact rt_c ht | exact rt_rr ht (by omega) | exact rt_ra ht (by omega) | exact wo_a hw | exact wo_r0 hw | exact wo_r1 hw | exact wo_r2 hw | exact wo_a1 hw | exact wo_a2 hw | exact wo_a3 hw | exact wo_rr hw (by omega) | exact wo_ra hw (by omega)) dX5_raise_37 (s_X5_hiding hG ht hw hA hV hr hk ey ez hu hW hc hfi) ?_
    refine cl_X5_72 rfl ⟨Nat.le_of_ble_eq_true rfl, Nat.le_of_ble_eq_true rfl, Nat.le_of_ble_eq_true rfl, Nat.le_of_ble_eq_true rfl⟩ dX5_raise_40 ?_
    rw [max_alt (if f_row σ ov (u + 1) W (4 * r + 2 * k) (ix (σ (9 + 6 * r + k))) < f_by σ W r k (u + 1) 0 then f_by σ W r k (u + 1) 0 else f_row σ ov (u + 1) W (4 * r + 2 * k) (ix (σ (9 + 6 * r + k)))) (f_by σ W r k (u + 1) 1)]
    refine px_lstore_5 dX5_raise_43 rfl ?_
    refine px_aload_0 dX5_raise_45 ?_
    refine gf_X5_11 rfl dX5_raise_46 (by first | assumption | exact rt_a ht | exact rt_r1 ht | exact rt_r2 ht | exact rt_w ht | exact rt_c ht | exact rt_rr ht (by omega) | exact rt_ra ht (by omega) | exact wo_a hw | exact wo_r0 hw | exact wo_r1 hw | exact wo_r2 hw | exact wo_a1 hw | exact wo_a2 hw | exact wo_a3 hw | exact wo_rr hw (by omega) | exact wo_ra hw (by omega)) (by first | assumption | exact rt_a ht | exact rt_r1 ht | exact rt_r2 ht | exact rt_w ht | exact rt_c ht | exact rt_rr ht (by omega) | exact rt_ra ht (by omega) | exact wo_a hw | exact wo_r0 hw | exact wo_r1 hw | exact wo_r2 hw | exact wo_a1 hw | exact wo_a2 hw | exact wo_a3 hw | exact wo_rr hw (by omega) | exact wo_ra hw (by omega)) ?_
    refine px_iload_4 dX5_raise_49 ?_
    refine px_aaldN dX5_raise_51 (by first | assumption | exact rt_a ht | exact rt_r1 ht | exact rt_r2 ht | exact rt_w ht | exact rt_c ht | exact rt_rr ht (by omega) | exact rt_ra ht (by omega) | exact wo_a hw | exact wo_r0 hw | exact wo_r1 hw | exact wo_r2 hw | exact wo_a1 hw | exact wo_a2 hw | exact wo_a3 hw | exact wo_rr hw (by omega) | exact wo_ra hw (by omega)) (by first | with_reducible rfl | assumption | exact ix_eq (by assumption)) (by omega) (by first | assumption | exact rt_a ht | exact rt_r1 ht | exact rt_r2 ht | exact rt_w ht | exact rt_c ht | exact rt_rr ht (by omega) | exact rt_ra ht (by omega) | exact wo_a hw | exact wo_r0 hw | exact wo_r1 hw | exact wo_r2 hw | exact wo_a1 hw | exact wo_a2 hw | exact wo_a3 hw | exact wo_rr hw (by omega) | exact wo_ra hw (by omega)) ?_
    refine px_iload_3 dX5_raise_52 ?_
    refine px_lload_5 dX5_raise_53 ?_
    refine px_lastN dX5_raise_55 (by first | assumption | exact rt_a ht | exact rt_r1 ht | exact rt_r2 ht | exact rt_w ht | exact rt_c ht | exact rt_rr ht (by omega) | exact rt_ra ht (by omega) | exact wo_a hw | exact wo_r0 hw | exact wo_r1 hw | exact wo_r2 hw | exact wo_a1 hw | exact wo_a2 hw | exact wo_a3 hw | exact wo_rr hw (by omega) | exact wo_ra hw (by omega)) (by first | with_reducible rfl | assumption | exact ix_eq (by assumption)) (by omega) ?_
    refine px_vret dX5_raise_56 ?_
    exact ⟨rfl, rfl⟩
  · rw [if_neg h0] at hrow
    rw [hrow]
    refine px_aload_0 dX5_raise_0 ?_
    refine gf_X5_11 rfl dX5_raise_1 (by first | assumption | exact rt_a ht | exact rt_r1 ht | exact rt_r2 ht | exact rt_w ht | exact rt_c ht | exact rt_rr ht (by omega) | exact rt_ra ht (by omega) | exact wo_a hw | exact wo_r0 hw | exact wo_r1 hw | exact wo_r2 hw | exact wo_a1 hw | exact wo_a2 hw | exact wo_a3 hw | exact wo_rr hw (by omega) | exact wo_ra hw (by omega)) (by first | assumption | exact rt_a ht | exact rt_r1 ht | exact rt_r2 ht | exact rt_w ht | exact rt_c ht | exact rt_rr ht (by omega) | exact rt_ra ht (by omega) | exact wo_a hw | exact wo_r0 hw | exact wo_r1 hw | exact wo_r2 hw | exact wo_a1 hw | exact wo_a2 hw | exact wo_a3 hw | exact wo_rr hw (by omega) | exact wo_ra hw (by omega)) ?_
    refine px_iload_4 dX5_raise_4 ?_
    refine px_aaldN dX5_raise_6 (by first | assumption | exact rt_a ht | exact rt_r1 ht | exact rt_r2 ht | exact rt_w ht | exact rt_c ht | exact rt_rr ht (by omega) | exact rt_ra ht (by omega) | exact wo_a hw | exact wo_r0 hw | exact wo_r1 hw | exact wo_r2 hw | exact wo_a1 hw | exact wo_a2 hw | exact wo_a3 hw | exact wo_rr hw (by omega) | exact wo_ra hw (by omega)) (by first | with_reducible rfl | assumption | exact ix_eq (by assumption)) (by omega) (by first | assumption | exact rt_a ht | exact rt_r1 ht | exact rt_r2 ht | exact rt_w ht | exact rt_c ht | exact rt_rr ht (by omega) | exact rt_ra ht (by omega) | exact wo_a hw | exact wo_r0 hw | exact wo_r1 hw | exact wo_r2 hw | exact wo_a1 hw | exact wo_a2 hw | exact wo_a3 hw | exact wo_rr hw (by omega) | exact wo_ra hw (by omega)) ?_
    refine px_iload_3 dX5_raise_7 ?_
    refine px_laldN dX5_raise_8 (by first | assumption | exact rt_a ht | exact rt_r1 ht | exact rt_r2 ht | exact rt_w ht | exact rt_c ht | exact rt_rr ht (by omega) | exact rt_ra ht (by omega) | exact wo_a hw | exact wo_r0 hw | exact wo_r1 hw | exact wo_r2 hw | exact wo_a1 hw | exact wo_a2 hw | exact wo_a3 hw | exact wo_rr hw (by omega) | exact wo_ra hw (by omega)) (by first | with_reducible rfl | assumption | exact ix_eq (by assumption)) (by omega) ?_
    rw [hv]
    refine px_aload_0 dX5_raise_9 ?_
    refine px_aload_2 dX5_raise_10 ?_
    refine px_iload_3 dX5_raise_11 ?_
    refine px_iload_4 dX5_raise_12 ?_
    refine cd_X5_68 rfl ⟨⟨Nat.le_of_ble_eq_true rfl, Nat.le_of_ble_eq_true rfl⟩, Nat.le_of_ble_eq_true rfl, Nat.le_of_ble_eq_true rfl, Nat.le_of_ble_eq_true rfl⟩ (by first | assumption | exact rt_a ht | exact rt_r1 ht | exact rt_r2 ht | exact rt_w ht | exact rt_c ht | exact rt_rr ht (by omega) | exact rt_ra ht (by omega) | exact wo_a hw | exact wo_r0 hw | exact wo_r1 hw | exact wo_r2 hw | exact wo_a1 hw | exact wo_a2 hw | exact wo_a3 hw | exact wo_rr hw (by omega) | exact wo_ra hw (by omega)) dX5_raise_14 (s_X5_openly hG ht hw hA hV hr hk ez hu hW) ?_
    refine cl_X5_72 rfl ⟨Nat.le_of_ble_eq_true rfl, Nat.le_of_ble_eq_true rfl, Nat.le_of_ble_eq_true rfl, Nat.le_of_ble_eq_true rfl⟩ dX5_raise_17 ?_
    rw [max_alt (f_row σ ov (u + 1) W (4 * r + 2 * k) (ix (σ (9 + 6 * r + k)))) (f_by σ W r k (u + 1) 0)]
    refine px_lstore_5 dX5_raise_20 rfl ?_
    refine px_aload_0 dX5_raise_22 ?_
    refine gf_X5_24 rfl dX5_raise_23 (by first | assumption | exact rt_a ht | exact rt_r1 ht | exact rt_r2 ht | exact rt_w ht | exact rt_c ht | exact rt_rr ht (by omega) | exact rt_ra ht (by omega) | exact wo_a hw | exact wo_r0 hw | exact wo_r1 hw | exact wo_r2 hw | exact wo_a1 hw | exact wo_a2 hw | exact wo_a3 hw | exact wo_rr hw (by omega) | exact wo_ra hw (by omega)) ?_
    rw [hov]
    refine px_if_ne (tgt := 45) dX5_raise_26 (by decide) (fun h26 => ?_) (fun h26 => (by first | exact absurd (h0) h26 | exact absurd h26 (h0)))
    refine px_aload_0 dX5_raise_45 ?_
    refine gf_X5_11 rfl dX5_raise_46 (by first | assumption | exact rt_a ht | exact rt_r1 ht | exact rt_r2 ht | exact rt_w ht | exact rt_c ht | exact rt_rr ht (by omega) | exact rt_ra ht (by omega) | exact wo_a hw | exact wo_r0 hw | exact wo_r1 hw | exact wo_r2 hw | exact wo_a1 hw | exact wo_a2 hw | exact wo_a3 hw | exact wo_rr hw (by omega) | exact wo_ra hw (by omega)) (by first | assumption | exact rt_a ht | exact rt_r1 ht | exact rt_r2 ht | exact rt_w ht | exact rt_c ht | exact rt_rr ht (by omega) | exact rt_ra ht (by omega) | exact wo_a hw | exact wo_r0 hw | exact wo_r1 hw | exact wo_r2 hw | exact wo_a1 hw | exact wo_a2 hw | exact wo_a3 hw | exact wo_rr hw (by omega) | exact wo_ra hw (by omega)) ?_
    refine px_iload_4 dX5_raise_49 ?_
    refine px_aaldN dX5_raise_51 (by first | assumption | exact rt_a ht | exact rt_r1 ht | exact rt_r2 ht | exact rt_w ht | exact rt_c ht | exact rt_rr ht (by omega) | exact rt_ra ht (by omega) | exact wo_a hw | exact wo_r0 hw | exact wo_r1 hw | exact wo_r2 hw | exact wo_a1 hw | exact wo_a2 hw | exact wo_a3 hw | exact wo_rr hw (by omega) | exact wo_ra hw (by omega)) (by first | with_reducible rfl | assumption | exact ix_eq (by assumption)) (by omega) (by first | assumption | exact rt_a ht | exact rt_r1 ht | exact rt_r2 ht | exact rt_w ht | exact rt_c ht | exact rt_rr ht (by omega) | exact rt_ra ht (by omega) | exact wo_a hw | exact wo_r0 hw | exact wo_r1 hw | exact wo_r2 hw | exact wo_a1 hw | exact wo_a2 hw | exact wo_a3 hw | exact wo_rr hw (by omega) | exact wo_ra hw (by omega)) ?_
    refine px_iload_3 dX5_raise_52 ?_
    refine px_lload_5 dX5_raise_53 ?_
    refine px_lastN dX5_raise_55 (by first | assumption | exact rt_a ht | exact rt_r1 ht | exact rt_r2 ht | exact rt_w ht | exact rt_c ht | exact rt_rr ht (by omega) | exact rt_ra ht (by omega) | exact wo_a hw | exact wo_r0 hw | exact wo_r1 hw | exact wo_r2 hw | exact wo_a1 hw | exact wo_a2 hw | exact wo_a3 hw | exact wo_rr hw (by omega) | exact wo_ra hw (by omega)) (by first | with_reducible rfl | assumption | exact ix_eq (by assumption)) (by omega) ?_
    refine px_vret dX5_raise_56 ?_
    exact ⟨rfl, rfl⟩
theorem s_X5_fillRow {z ov : Int32} {u : Nat} (hG : px_tabs G) (ht : px_rt G T R t) (hw : px_wo G T R w) (hA : px_ag I w σ) (hV : px_V σ) (ez : z = nI (u + 1)) (hu : u < 4) (hov : I t 0 = ov) (hW : ∀ q, q < 8 → J (t + 2 + u) q = W q) (hc : ∀ r, r < f_nr σ → I (t + 7) r = f_cr σ r) (hfi : J t 3 = (σ 142).toInt64) : px_C l G 3 0 0 mX5_fillRow [.ref t, .ref w, .int z] (T, I, J, R) (fun v μ' => v = none ∧ ∃ J' : px_J, μ' = (T, I, J', R) ∧ (∀ a, a ≠ t + 2 + (u + 1) → J' a = J a) ∧ ∀ q, q < 8 → J' (t + 2 + (u + 1)) q = f_row σ ov (u + 1) W (4 * f_nr σ) q) := by
  have hn := ag_n4 hA hV
  have h14 := hV.1.2.1
  refine px_met (M := mX5_fillRow) ([some (.ref t), some (.ref w), some (.int z), none, none]) (by decide +kernel) rfl (Nat.le_of_ble_eq_true rfl) rfl ?_
  generalize hQ : (fun v μ' => v = none ∧ ∃ J' : px_J, μ' = (T, I, J', R) ∧ (∀ a, a ≠ t + 2 + (u + 1) → J' a = J a) ∧ ∀ q, q < 8 → J' (t + 2 + (u + 1)) q = f_row σ ov (u + 1) W (4 * f_nr σ) q : Option Value → px_M → Prop) = Q
  have LR : ∀ n i, i + n = f_nr σ → ∀ (J1 : px_J), (∀ a, a ≠ t + 2 + (u + 1) → J1 a = J a) → (∀ q, q < 8 → J1 (t + 2 + (u + 1)) q = f_row σ ov (u + 1) W (4 * i) q) → ∀ o4, (px_W l G yX5_fillRow cX5_fillRow 5 none (px_rm 3 0 0) (px_Fn G Q 0 0) 30 [some (.ref t), some (.ref w), some (.int z), some (.int (nI i)), o4] [] 0 0 (T, I, J1, R)) := by
    intro n
    induction n with
    | zero =>
      intro i hi J1 g1 g2 o4
      obtain rfl : i = f_nr σ := by omega
      refine px_iload_3 dX5_fillRow_30 ?_
      refine px_aload_1 dX5_fillRow_31 ?_
      refine gf_X5_33 rfl dX5_fillRow_32 (by first | assumption | exact rt_a ht | exact rt_r1 ht | exact rt_r2 ht | exact rt_w ht | exact rt_c ht | exact rt_rr ht (by omega) | exact rt_ra ht (by omega) | exact wo_a hw | exact wo_r0 hw | exact wo_r1 hw | exact wo_r2 hw | exact wo_a1 hw | exact wo_a2 hw | exact wo_a3 hw | exact wo_rr hw (by omega) | exact wo_ra hw (by omega)) ?_
      rw [hn]
      refine px_icmp_ge (tgt := 78) dX5_fillRow_35 (by decide) (fun h35 => ?_) (fun h35 => (by first | exact absurd ((nI_le (Nat.le_refl _) (by omega))) h35 | exact absurd h35 ((nI_le (Nat.le_refl _) (by omega)))))
      refine px_vret dX5_fillRow_78 ?_
      subst hQ; exact ⟨rfl, J1, rfl, g1, g2⟩
    | succ n ih =>
      intro i hi J1 g1 g2 o4
      have hri : i < f_nr σ := by omega
      obtain ⟨x1, l1⟩ := ix_of_nI (ends_of hV hri (show 0 < 2 by decide)).2.1
      obtain ⟨x2, l2⟩ := ix_of_nI (ends_of hV hri (show 1 < 2 by decide)).2.1
      have r0 := s_X5_raise (l := l) (k := 0) (J := J1) (ov := ov) hG ht hw hA hV hri (by decide) rfl ez hu hov (fun q hq => by rw [g1 _ (by omega)]; exact hW q hq) (hc i hri) (by rw [g1 _ (by omega)]; exact hfi) (g2 _ l1)
      have g2a : ∀ q, q < 8 → px_up J1 (t + 2 + (u + 1)) (ix (σ (9 + 6 * i + 0))) (f_row σ ov (u + 1) W (4 * i + 2 * 0 + 2) (ix (σ (9 + 6 * i + 0)))) (t + 2 + (u + 1)) q = f_row σ ov (u + 1) W (4 * i + 2 * 1) q := by
        intro q hq
        rw [px_up_at]
        by_cases z1 : q = ix (σ (9 + 6 * i + 0))
        · rw [if_pos ⟨rfl, z1⟩, z1]
        · rw [if_neg (fun y => z1 y.2), show 4 * i + 2 * 1 = 4 * i + 2 * 0 + 2 by omega, row2 (r := i) (k := 0) (by decide), if_neg z1]
          exact g2 q hq
      have g1a : ∀ a, a ≠ t + 2 + (u + 1) → px_up J1 (t + 2 + (u + 1)) (ix (σ (9 + 6 * i + 0))) (f_row σ ov (u + 1) W (4 * i + 2 * 0 + 2) (ix (σ (9 + 6 * i + 0)))) a = J a := fun a ha => by rw [px_up_ne ha]; exact g1 a ha
      have r1 := s_X5_raise (l := l) (k := 1) (J := px_up J1 (t + 2 + (u + 1)) (ix (σ (9 + 6 * i + 0))) (f_row σ ov (u + 1) W (4 * i + 2 * 0 + 2) (ix (σ (9 + 6 * i + 0))))) (ov := ov) hG ht hw hA hV hri (by decide) rfl ez hu hov (fun q hq => by rw [g1a _ (by omega)]; exact hW q hq) (hc i hri) (by rw [g1a _ (by omega)]; exact hfi) (g2a _ l2)
      refine px_iload_3 dX5_fillRow_30 ?_
      refine px_aload_1 dX5_fillRow_31 ?_
      refine gf_X5_33 rfl dX5_fillRow_32 (by first | assumption | exact rt_a ht | exact rt_r1 ht | exact rt_r2 ht | exact rt_w ht | exact rt_c ht | exact rt_rr ht (by omega) | exact rt_ra ht (by omega) | exact wo_a hw | exact wo_r0 hw | exact wo_r1 hw | exact wo_r2 hw | exact wo_a1 hw | exact wo_a2 hw | exact wo_a3 hw | exact wo_rr hw (by omega) | exact wo_ra hw (by omega)) ?_
      rw [hn]
      refine px_icmp_ge (tgt := 78) dX5_fillRow_35 (by decide) (fun h35 => (by first | exact absurd h35 ((nI_ge (by omega) (by omega))) | exact absurd ((nI_ge (by omega) (by omega))) h35)) (fun h35 => ?_)
      refine px_aload_1 dX5_fillRow_38 ?_
      refine gf_X5_37 rfl dX5_fillRow_39 (by first | assumption | exact rt_a ht | exact rt_r1 ht | exact rt_r2 ht | exact rt_w ht | exact rt_c ht | exact rt_rr ht (by omega) | exact rt_ra ht (by omega) | exact wo_a hw | exact wo_r0 hw | exact wo_r1 hw | exact wo_r2 hw | exact wo_a1 hw | exact wo_a2 hw | exact wo_a3 hw | exact wo_rr hw (by omega) | exact wo_ra hw (by omega)) (by first | assumption | exact rt_a ht | exact rt_r1 ht | exact rt_r2 ht | exact rt_w ht | exact rt_c ht | exact rt_rr ht (by omega) | exact rt_ra ht (by omega) | exact wo_a hw | exact wo_r0 hw | exact wo_r1 hw | exact wo_r2 hw | exact wo_a1 hw | exact wo_a2 hw | exact wo_a3 hw | exact wo_rr hw (by omega) | exact wo_ra hw (by omega)) ?_
      refine px_iload_3 dX5_fillRow_42 ?_
      refine px_aaldN dX5_fillRow_43 (by first | assumption | exact rt_a ht | exact rt_r1 ht | exact rt_r2 ht | exact rt_w ht | exact rt_c ht | exact rt_rr ht (by omega) | exact rt_ra ht (by omega) | exact wo_a hw | exact wo_r0 hw | exact wo_r1 hw | exact wo_r2 hw | exact wo_a1 hw | exact wo_a2 hw | exact wo_a3 hw | exact wo_rr hw (by omega) | exact wo_ra hw (by omega)) (by first | with_reducible rfl | assumption | exact ix_eq (by assumption)) (by omega) (by first | assumption | exact rt_a ht | exact rt_r1 ht | exact rt_r2 ht | exact rt_w ht | exact rt_c ht | exact rt_rr ht (by omega) | exact rt_ra ht (by omega) | exact wo_a hw | exact wo_r0 hw | exact wo_r1 hw | exact wo_r2 hw | exact wo_a1 hw | exact wo_a2 hw | exact wo_a3 hw | exact wo_rr hw (by omega) | exact wo_ra hw (by omega)) ?_
      refine px_astore_4 dX5_fillRow_44 rfl ?_
      refine px_aload_0 dX5_fillRow_46 ?_
      refine px_iload_3 dX5_fillRow_47 ?_
      refine px_aload_4 dX5_fillRow_48 ?_
      refine px_aload_4 dX5_fillRow_50 ?_
      refine gf_X5_56 rfl dX5_fillRow_52 (by first | assumption | exact rt_a ht | exact rt_r1 ht | exact rt_r2 ht | exact rt_w ht | exact rt_c ht | exact rt_rr ht (by omega) | exact rt_ra ht (by omega) | exact wo_a hw | exact wo_r0 hw | exact wo_r1 hw | exact wo_r2 hw | exact wo_a1 hw | exact wo_a2 hw | exact wo_a3 hw | exact wo_rr hw (by omega) | exact wo_ra hw (by omega)) ?_
      rw [ag_rd hA hri (by decide)]
      refine px_iload_2 dX5_fillRow_55 ?_
      refine cd_X5_61 rfl ⟨⟨Nat.le_of_ble_eq_true rfl, Nat.le_of_ble_eq_true rfl⟩, Nat.le_of_ble_eq_true rfl, Nat.le_of_ble_eq_true rfl, Nat.le_of_ble_eq_true rfl⟩ (by first | assumption | exact rt_a ht | exact rt_r1 ht | exact rt_r2 ht | exact rt_w ht | exact rt_c ht | exact rt_rr ht (by omega) | exact rt_ra ht (by omega) | exact wo_a hw | exact wo_r0 hw | exact wo_r1 hw | exact wo_r2 hw | exact wo_a1 hw | exact wo_a2 hw | exact wo_a3 hw | exact wo_rr hw (by omega) | exact wo_ra hw (by omega)) dX5_fillRow_56 (r0) ?_
      refine px_aload_0 dX5_fillRow_59 ?_
      refine px_iload_3 dX5_fillRow_60 ?_
      refine px_aload_4 dX5_fillRow_61 ?_
      refine px_aload_4 dX5_fillRow_63 ?_
      refine gf_X5_65 rfl dX5_fillRow_65 (by first | assumption | exact rt_a ht | exact rt_r1 ht | exact rt_r2 ht | exact rt_w ht | exact rt_c ht | exact rt_rr ht (by omega) | exact rt_ra ht (by omega) | exact wo_a hw | exact wo_r0 hw | exact wo_r1 hw | exact wo_r2 hw | exact wo_a1 hw | exact wo_a2 hw | exact wo_a3 hw | exact wo_rr hw (by omega) | exact wo_ra hw (by omega)) ?_
      rw [ag_rd hA hri (by decide)]
      refine px_iload_2 dX5_fillRow_68 ?_
      refine cd_X5_61 rfl ⟨⟨Nat.le_of_ble_eq_true rfl, Nat.le_of_ble_eq_true rfl⟩, Nat.le_of_ble_eq_true rfl, Nat.le_of_ble_eq_true rfl, Nat.le_of_ble_eq_true rfl⟩ (by first | assumption | exact rt_a ht | exact rt_r1 ht | exact rt_r2 ht | exact rt_w ht | exact rt_c ht | exact rt_rr ht (by omega) | exact rt_ra ht (by omega) | exact wo_a hw | exact wo_r0 hw | exact wo_r1 hw | exact wo_r2 hw | exact wo_a1 hw | exact wo_a2 hw | exact wo_a3 hw | exact wo_rr hw (by omega) | exact wo_ra hw (by omega)) dX5_fillRow_69 (r1) ?_
      refine px_iinc_3 dX5_fillRow_72 rfl ?_
      refine px_goto (tgt := 30) dX5_fillRow_75 (by decide) ?_
      rw [inc_nI]; refine ih (i + 1) (by omega) _ (fun a ha => by rw [px_up_ne ha]; exact g1a a ha) (fun q hq => ?_) _
      rw [px_up_at]
      by_cases z1 : q = ix (σ (9 + 6 * i + 1))
      · rw [if_pos ⟨rfl, z1⟩, z1, show 4 * i + 2 * 1 + 2 = 4 * (i + 1) by omega]
      · rw [if_neg (fun y => z1 y.2), show 4 * (i + 1) = 4 * i + 2 * 1 + 2 by omega, row2 (r := i) (k := 1) (by decide), if_neg z1]
        exact g2a q hq
  have LT : ∀ n i, i + n = 8 → ∀ (J1 : px_J), (∀ a, a ≠ t + 2 + (u + 1) → J1 a = J a) → (∀ q, q < i → J1 (t + 2 + (u + 1)) q = 100 * W q) → (px_W l G yX5_fillRow cX5_fillRow 5 none (px_rm 3 0 0) (px_Fn G Q 0 0) 2 [some (.ref t), some (.ref w), some (.int z), some (.int (nI i)), none] [] 0 0 (T, I, J1, R)) := by
    intro n
    induction n with
    | zero =>
      intro i hi J1 g1 g2
      obtain rfl : i = 8 := by omega
      refine px_iload_3 dX5_fillRow_2 ?_
      refine px_bipush (8) dX5_fillRow_3 rfl ?_
      refine px_icmp_ge (tgt := 28) dX5_fillRow_5 (by decide) (fun h5 => ?_) (fun h5 => (by first | exact absurd ((nI_le (a := 8) (b := 8) (by omega) (by omega))) h5 | exact absurd h5 ((nI_le (a := 8) (b := 8) (by omega) (by omega)))))
      refine px_iconst (0) dX5_fillRow_28 rfl ?_
      refine px_istore_3 dX5_fillRow_29 rfl ?_
      exact LR _ 0 (Nat.zero_add _) J1 g1 g2 _
    | succ n ih =>
      intro i hi J1 g1 g2
      have hb := s_X5_byWaiting (l := l) (I := I) (J := J1) (a := nI i) ht rfl (show i < 8 by omega) ez hu
      rw [g1 _ (by omega), hW i (by omega)] at hb
      refine px_iload_3 dX5_fillRow_2 ?_
      refine px_bipush (8) dX5_fillRow_3 rfl ?_
      refine px_icmp_ge (tgt := 28) dX5_fillRow_5 (by decide) (fun h5 => (by first | exact absurd h5 ((nI_ge (a := i) (b := 8) (by omega) (by omega))) | exact absurd ((nI_ge (a := i) (b := 8) (by omega) (by omega))) h5)) (fun h5 => ?_)
      refine px_aload_0 dX5_fillRow_8 ?_
      refine gf_X5_11 rfl dX5_fillRow_9 (by first | assumption | exact rt_a ht | exact rt_r1 ht | exact rt_r2 ht | exact rt_w ht | exact rt_c ht | exact rt_rr ht (by omega) | exact rt_ra ht (by omega) | exact wo_a hw | exact wo_r0 hw | exact wo_r1 hw | exact wo_r2 hw | exact wo_a1 hw | exact wo_a2 hw | exact wo_a3 hw | exact wo_rr hw (by omega) | exact wo_ra hw (by omega)) (by first | assumption | exact rt_a ht | exact rt_r1 ht | exact rt_r2 ht | exact rt_w ht | exact rt_c ht | exact rt_rr ht (by omega) | exact rt_ra ht (by omega) | exact wo_a hw | exact wo_r0 hw | exact wo_r1 hw | exact wo_r2 hw | exact wo_a1 hw | exact wo_a2 hw | exact wo_a3 hw | exact wo_rr hw (by omega) | exact wo_ra hw (by omega)) ?_
      refine px_iload_2 dX5_fillRow_12 ?_
      refine px_aaldN dX5_fillRow_13 (by first | assumption | exact rt_a ht | exact rt_r1 ht | exact rt_r2 ht | exact rt_w ht | exact rt_c ht | exact rt_rr ht (by omega) | exact rt_ra ht (by omega) | exact wo_a hw | exact wo_r0 hw | exact wo_r1 hw | exact wo_r2 hw | exact wo_a1 hw | exact wo_a2 hw | exact wo_a3 hw | exact wo_rr hw (by omega) | exact wo_ra hw (by omega)) (by first | with_reducible rfl | assumption | exact ix_eq (by assumption)) (by omega) (by first | assumption | exact rt_a ht | exact rt_r1 ht | exact rt_r2 ht | exact rt_w ht | exact rt_c ht | exact rt_rr ht (by omega) | exact rt_ra ht (by omega) | exact wo_a hw | exact wo_r0 hw | exact wo_r1 hw | exact wo_r2 hw | exact wo_a1 hw | exact wo_a2 hw | exact wo_a3 hw | exact wo_rr hw (by omega) | exact wo_ra hw (by omega)) ?_
      refine px_iload_3 dX5_fillRow_14 ?_
      refine px_aload_0 dX5_fillRow_15 ?_
      refine px_iload_3 dX5_fillRow_16 ?_
      refine px_iload_2 dX5_fillRow_17 ?_
      refine cd_X5_52 rfl ⟨⟨Nat.le_of_ble_eq_true rfl, Nat.le_of_ble_eq_true rfl⟩, Nat.le_of_ble_eq_true rfl, Nat.le_of_ble_eq_true rfl, Nat.le_of_ble_eq_true rfl⟩ (by first | assumption | exact rt_a ht | exact rt_r1 ht | exact rt_r2 ht | exact rt_w ht | exact rt_c ht | exact rt_rr ht (by omega) | exact rt_ra ht (by omega) | exact wo_a hw | exact wo_r0 hw | exact wo_r1 hw | exact wo_r2 hw | exact wo_a1 hw | exact wo_a2 hw | exact wo_a3 hw | exact wo_rr hw (by omega) | exact wo_ra hw (by omega)) dX5_fillRow_18 (hb) ?_
      refine px_lastN dX5_fillRow_21 (by first | assumption | exact rt_a ht | exact rt_r1 ht | exact rt_r2 ht | exact rt_w ht | exact rt_c ht | exact rt_rr ht (by omega) | exact rt_ra ht (by omega) | exact wo_a hw | exact wo_r0 hw | exact wo_r1 hw | exact wo_r2 hw | exact wo_a1 hw | exact wo_a2 hw | exact wo_a3 hw | exact wo_rr hw (by omega) | exact wo_ra hw (by omega)) (by first | with_reducible rfl | assumption | exact ix_eq (by assumption)) (by omega) ?_
      refine px_iinc_3 dX5_fillRow_22 rfl ?_
      refine px_goto (tgt := 2) dX5_fillRow_25 (by decide) ?_
      rw [inc_nI]; refine ih (i + 1) (by omega) _ (fun a ha => by rw [px_up_ne ha]; exact g1 a ha) (fun q hq => ?_)
      rw [px_up_at]
      by_cases z1 : q = i
      · rw [if_pos ⟨rfl, z1⟩, z1]
      · rw [if_neg (fun y => z1 y.2)]; exact g2 q (by omega)
  refine px_iconst (0) dX5_fillRow_0 rfl ?_
  refine px_istore_3 dX5_fillRow_1 rfl ?_
  exact LT 8 0 rfl J (fun _ _ => rfl) (fun q hq => absurd hq (Nat.not_lt_zero q))
/-- what Routes holds behind lookAt -/
def px_rk (I : px_I) (J : px_J) (t : Nat) (σ : px_s) (ov : Int32) (legs : Nat) : Prop := J t 3 = (σ 142).toInt64 ∧ (∀ r, r < f_nr σ → I (t + 7) r = f_cr σ r) ∧ ∀ q, q ≤ legs → ∀ k, k < 8 → J (t + 2 + q) k = f_w σ ov q k
theorem s_X5_lookAt {z ov : Int32} {legs : Nat} (hG : px_tabs G) (ht : px_rt G T R t) (hw : px_wo G T R w) (hd : w + 25 ≤ t) (hA : px_ag I w σ) (hV : px_V σ) (ez : z = nI legs) (hz : legs ≤ 4) (hov : I t 0 = ov) : px_C l G 4 0 0 mX5_lookAt [.ref t, .ref w, .int z] (T, I, J, R) (fun v μ' => v = none ∧ ∃ (I' : px_I) (J' : px_J), μ' = (T, I', J', R) ∧ (∀ a, a ≠ t + 7 → I' a = I a) ∧ (∀ a, (a < t ∨ t + 7 ≤ a) → J' a = J a) ∧ px_rk I' J' t σ ov legs) := by
  subst ez
  have hn := ag_n4 hA hV
  have h14 := hV.1.2.1
  refine px_met (M := mX5_lookAt) ([some (.ref t), some (.ref w), some (.int (nI legs)), none]) (by decide +kernel) rfl (Nat.le_of_ble_eq_true rfl) rfl ?_
  generalize hQ : (fun v μ' => v = none ∧ ∃ (I' : px_I) (J' : px_J), μ' = (T, I', J', R) ∧ (∀ a, a ≠ t + 7 → I' a = I a) ∧ (∀ a, (a < t ∨ t + 7 ≤ a) → J' a = J a) ∧ px_rk I' J' t σ ov legs : Option Value → px_M → Prop) = Q
  have hag : ∀ I1 : px_I, (∀ a, a ≠ t + 7 → I1 a = I a) → px_ag I1 w σ := fun I1 g => ag_congr hA hV (fun a a1 a2 => g a (by omega))
  have LR : ∀ (I1 : px_I), (∀ a, a ≠ t + 7 → I1 a = I a) → (∀ r, r < f_nr σ → I1 (t + 7) r = f_cr σ r) → ∀ n q, q + n = legs → ∀ (J1 : px_J), (∀ a, (a < t ∨ t + 7 ≤ a) → J1 a = J a) → J1 t 3 = (σ 142).toInt64 → (∀ p, p ≤ q → ∀ k, k < 8 → J1 (t + 2 + p) k = f_w σ ov p k) → (px_W l G yX5_lookAt cX5_lookAt 4 none (px_rm 4 0 0) (px_Fn G Q 0 0) 74 [some (.ref t), some (.ref w), some (.int (nI legs)), some (.int (nI (q + 1)))] [] 0 0 (T, I1, J1, R)) := by
    intro I1 g1 gc n
    induction n with
    | zero =>
      intro q hq J1 k1 k2 k3
      obtain rfl : q = legs := by omega
      refine px_iload_3 dX5_lookAt_74 ?_
      refine px_iload_2 dX5_lookAt_75 ?_
      refine px_icmp_gt (tgt := 91) dX5_lookAt_76 (by decide) (fun h76 => ?_) (fun h76 => (by first | exact absurd ((nI_lt (a := q) (b := q + 1) (by omega) (by omega))) h76 | exact absurd h76 ((nI_lt (a := q) (b := q + 1) (by omega) (by omega)))))
      refine px_vret dX5_lookAt_91 ?_
      subst hQ; exact ⟨rfl, I1, J1, rfl, g1, k1, k2, gc, k3⟩
    | succ n ih =>
      intro q hq J1 k1 k2 k3
      refine px_iload_3 dX5_lookAt_74 ?_
      refine px_iload_2 dX5_lookAt_75 ?_
      refine px_icmp_gt (tgt := 91) dX5_lookAt_76 (by decide) (fun h76 => (by first | exact absurd h76 ((nI_nlt (a := legs) (b := q + 1) (by omega) (by omega))) | exact absurd ((nI_nlt (a := legs) (b := q + 1) (by omega) (by omega))) h76)) (fun h76 => ?_)
      refine px_aload_0 dX5_lookAt_79 ?_
      refine px_aload_1 dX5_lookAt_80 ?_
      refine px_iload_3 dX5_lookAt_81 ?_
      refine cg_X5_48 rfl ⟨⟨Nat.le_of_ble_eq_true rfl, Nat.le_of_ble_eq_true rfl⟩, Nat.le_of_ble_eq_true rfl, Nat.le_of_ble_eq_true rfl, Nat.le_of_ble_eq_true rfl⟩ (by first | assumption | exact rt_a ht | exact rt_r1 ht | exact rt_r2 ht | exact rt_w ht | exact rt_c ht | exact rt_rr ht (by omega) | exact rt_ra ht (by omega) | exact wo_a hw | exact wo_r0 hw | exact wo_r1 hw | exact wo_r2 hw | exact wo_a1 hw | exact wo_a2 hw | exact wo_a3 hw | exact wo_rr hw (by omega) | exact wo_ra hw (by omega)) dX5_lookAt_82 (s_X5_fillRow (W := f_w σ ov q) (ov := ov) hG ht hw (hag I1 g1) hV rfl (by omega) (by rw [g1 _ (by omega)]; exact hov) (k3 q (Nat.le_refl _)) gc k2) ?_
      rintro v μ' ⟨rfl, J2, rfl, j1, j2⟩
      refine px_iinc_3 dX5_lookAt_85 rfl ?_
      refine px_goto (tgt := 74) dX5_lookAt_88 (by decide) ?_
      rw [inc_nI]; exact ih (q + 1) (by omega) J2 (fun a ha => by rw [j1 a (by omega)]; exact k1 a ha) (by rw [j1 _ (by omega)]; exact k2) (fun p hp k hk => by rcases (by omega : p ≤ q ∨ p = q + 1) with y | rfl; rw [j1 _ (by omega)]; exact k3 p y k hk; exact j2 k hk)
  have L0 : ∀ (I1 : px_I), (∀ a, a ≠ t + 7 → I1 a = I a) → (∀ r, r < f_nr σ → I1 (t + 7) r = f_cr σ r) → ∀ n i, i + n = 8 → ∀ (J1 : px_J), (∀ a, (a < t ∨ t + 7 ≤ a) → J1 a = J a) → J1 t 3 = (σ 142).toInt64 → (∀ k, k < i → J1 (t + 2 + 0) k = f_w σ ov 0 k) → (px_W l G yX5_lookAt cX5_lookAt 4 none (px_rm 4 0 0) (px_Fn G Q 0 0) 45 [some (.ref t), some (.ref w), some (.int (nI legs)), some (.int (nI i))] [] 0 0 (T, I1, J1, R)) := by
    intro I1 g1 gc n
    induction n with
    | zero =>
      intro i hi J1 k1 k2 k3
      obtain rfl : i = 8 := by omega
      have k30 : ∀ p, p ≤ 0 → ∀ k, k < 8 → J1 (t + 2 + p) k = f_w σ ov p k := by
        intro p hp k hk
        obtain rfl : p = 0 := by omega
        exact k3 k hk
      refine px_iload_3 dX5_lookAt_45 ?_
      refine px_bipush (8) dX5_lookAt_46 rfl ?_
      refine px_icmp_ge (tgt := 72) dX5_lookAt_48 (by decide) (fun h48 => ?_) (fun h48 => (by first | exact absurd ((nI_le (a := 8) (b := 8) (by omega) (by omega))) h48 | exact absurd h48 ((nI_le (a := 8) (b := 8) (by omega) (by omega)))))
      refine px_iconst (1) dX5_lookAt_72 rfl ?_
      refine px_istore_3 dX5_lookAt_73 rfl ?_
      exact LR I1 g1 gc legs 0 (Nat.zero_add _) J1 k1 k2 k30
    | succ n ih =>
      intro i hi J1 k1 k2 k3
      refine px_iload_3 dX5_lookAt_45 ?_
      refine px_bipush (8) dX5_lookAt_46 rfl ?_
      refine px_icmp_ge (tgt := 72) dX5_lookAt_48 (by decide) (fun h48 => (by first | exact absurd h48 ((nI_ge (a := i) (b := 8) (by omega) (by omega))) | exact absurd ((nI_ge (a := i) (b := 8) (by omega) (by omega))) h48)) (fun h48 => ?_)
      refine px_aload_0 dX5_lookAt_51 ?_
      refine gf_X5_11 rfl dX5_lookAt_52 (by first | assumption | exact rt_a ht | exact rt_r1 ht | exact rt_r2 ht | exact rt_w ht | exact rt_c ht | exact rt_rr ht (by omega) | exact rt_ra ht (by omega) | exact wo_a hw | exact wo_r0 hw | exact wo_r1 hw | exact wo_r2 hw | exact wo_a1 hw | exact wo_a2 hw | exact wo_a3 hw | exact wo_rr hw (by omega) | exact wo_ra hw (by omega)) (by first | assumption | exact rt_a ht | exact rt_r1 ht | exact rt_r2 ht | exact rt_w ht | exact rt_c ht | exact rt_rr ht (by omega) | exact rt_ra ht (by omega) | exact wo_a hw | exact wo_r0 hw | exact wo_r1 hw | exact wo_r2 hw | exact wo_a1 hw | exact wo_a2 hw | exact wo_a3 hw | exact wo_rr hw (by omega) | exact wo_ra hw (by omega)) ?_
      refine px_iconst (0) dX5_lookAt_55 rfl ?_
      refine px_aaldN (j := 0) dX5_lookAt_56 (by first | exact rt_w ht | exact rt_rr (q := 0) ht (by decide)) (by rfl) (by first | decide | omega) (by first | exact rt_w ht | exact rt_rr (q := 0) ht (by decide)) ?_
      refine px_iload_3 dX5_lookAt_57 ?_
      refine px_aload_1 dX5_lookAt_58 ?_
      refine gf_X5_45 rfl dX5_lookAt_59 (by first | assumption | exact rt_a ht | exact rt_r1 ht | exact rt_r2 ht | exact rt_w ht | exact rt_c ht | exact rt_rr ht (by omega) | exact rt_ra ht (by omega) | exact wo_a hw | exact wo_r0 hw | exact wo_r1 hw | exact wo_r2 hw | exact wo_a1 hw | exact wo_a2 hw | exact wo_a3 hw | exact wo_rr hw (by omega) | exact wo_ra hw (by omega)) (by first | assumption | exact rt_a ht | exact rt_r1 ht | exact rt_r2 ht | exact rt_w ht | exact rt_c ht | exact rt_rr ht (by omega) | exact rt_ra ht (by omega) | exact wo_a hw | exact wo_r0 hw | exact wo_r1 hw | exact wo_r2 hw | exact wo_a1 hw | exact wo_a2 hw | exact wo_a3 hw | exact wo_rr hw (by omega) | exact wo_ra hw (by omega)) ?_
      refine px_iload_3 dX5_lookAt_62 ?_
      refine px_ialdN dX5_lookAt_63 (by first | assumption | exact rt_a ht | exact rt_r1 ht | exact rt_r2 ht | exact rt_w ht | exact rt_c ht | exact rt_rr ht (by omega) | exact rt_ra ht (by omega) | exact wo_a hw | exact wo_r0 hw | exact wo_r1 hw | exact wo_r2 hw | exact wo_a1 hw | exact wo_a2 hw | exact wo_a3 hw | exact wo_rr hw (by omega) | exact wo_ra hw (by omega)) (by first | with_reducible rfl | assumption | exact ix_eq (by assumption)) (by omega) ?_
      rw [ag_pr (hag I1 g1) (by omega)]
      refine px_i2l dX5_lookAt_64 ?_
      refine px_lastN dX5_lookAt_65 (by exact rt_ra (q := 0) ht (by decide)) (by first | with_reducible rfl | assumption | exact ix_eq (by assumption)) (by omega) ?_
      refine px_iinc_3 dX5_lookAt_66 rfl ?_
      refine px_goto (tgt := 45) dX5_lookAt_69 (by decide) ?_
      rw [inc_nI]; refine ih (i + 1) (by omega) _ (fun a ha => by rw [px_up_ne (by omega)]; exact k1 a ha) (by rw [px_up_ne (by omega)]; exact k2) (fun k hk => ?_)
      rw [px_up_at]
      by_cases z1 : k = i
      · subst z1; rw [if_pos ⟨rfl, rfl⟩]; rfl
      · rw [if_neg (fun y => z1 y.2)]; exact k3 k (by omega)
  have LC : ∀ (J1 : px_J), (∀ a, (a < t ∨ t + 7 ≤ a) → J1 a = J a) → J1 t 3 = (σ 142).toInt64 → ∀ n i, i + n = f_nr σ → ∀ (I1 : px_I), (∀ a, a ≠ t + 7 → I1 a = I a) → (∀ r, r < i → I1 (t + 7) r = f_cr σ r) → (px_W l G yX5_lookAt cX5_lookAt 4 none (px_rm 4 0 0) (px_Fn G Q 0 0) 13 [some (.ref t), some (.ref w), some (.int (nI legs)), some (.int (nI i))] [] 0 0 (T, I1, J1, R)) := by
    intro J1 k1 k2 n
    induction n with
    | zero =>
      intro i hi I1 g1 gc
      obtain rfl : i = f_nr σ := by omega
      refine px_iload_3 dX5_lookAt_13 ?_
      refine px_aload_1 dX5_lookAt_14 ?_
      refine gf_X5_33 rfl dX5_lookAt_15 (by first | assumption | exact rt_a ht | exact rt_r1 ht | exact rt_r2 ht | exact rt_w ht | exact rt_c ht | exact rt_rr ht (by omega) | exact rt_ra ht (by omega) | exact wo_a hw | exact wo_r0 hw | exact wo_r1 hw | exact wo_r2 hw | exact wo_a1 hw | exact wo_a2 hw | exact wo_a3 hw | exact wo_rr hw (by omega) | exact wo_ra hw (by omega)) ?_
      rw [g1 _ (by omega), hn]
      refine px_icmp_ge (tgt := 43) dX5_lookAt_18 (by decide) (fun h18 => ?_) (fun h18 => (by first | exact absurd ((nI_le (Nat.le_refl _) (by omega))) h18 | exact absurd h18 ((nI_le (Nat.le_refl _) (by omega)))))
      refine px_iconst (0) dX5_lookAt_43 rfl ?_
      refine px_istore_3 dX5_lookAt_44 rfl ?_
      exact L0 I1 g1 gc 8 0 rfl J1 k1 k2 (fun k hk => absurd hk (Nat.not_lt_zero k))
    | succ n ih =>
      intro i hi I1 g1 gc
      refine px_iload_3 dX5_lookAt_13 ?_
      refine px_aload_1 dX5_lookAt_14 ?_
      refine gf_X5_33 rfl dX5_lookAt_15 (by first | assumption | exact rt_a ht | exact rt_r1 ht | exact rt_r2 ht | exact rt_w ht | exact rt_c ht | exact rt_rr ht (by omega) | exact rt_ra ht (by omega) | exact wo_a hw | exact wo_r0 hw | exact wo_r1 hw | exact wo_r2 hw | exact wo_a1 hw | exact wo_a2 hw | exact wo_a3 hw | exact wo_rr hw (by omega) | exact wo_ra hw (by omega)) ?_
      rw [g1 _ (by omega), hn]
      refine px_icmp_ge (tgt := 43) dX5_lookAt_18 (by decide) (fun h18 => (by first | exact absurd h18 ((nI_ge (by omega) (by omega))) | exact absurd ((nI_ge (by omega) (by omega))) h18)) (fun h18 => ?_)
      refine px_aload_0 dX5_lookAt_21 ?_
      refine gf_X5_16 rfl dX5_lookAt_22 (by first | assumption | exact rt_a ht | exact rt_r1 ht | exact rt_r2 ht | exact rt_w ht | exact rt_c ht | exact rt_rr ht (by omega) | exact rt_ra ht (by omega) | exact wo_a hw | exact wo_r0 hw | exact wo_r1 hw | exact wo_r2 hw | exact wo_a1 hw | exact wo_a2 hw | exact wo_a3 hw | exact wo_rr hw (by omega) | exact wo_ra hw (by omega)) (by first | assumption | exact rt_a ht | exact rt_r1 ht | exact rt_r2 ht | exact rt_w ht | exact rt_c ht | exact rt_rr ht (by omega) | exact rt_ra ht (by omega) | exact wo_a hw | exact wo_r0 hw | exact wo_r1 hw | exact wo_r2 hw | exact wo_a1 hw | exact wo_a2 hw | exact wo_a3 hw | exact wo_rr hw (by omega) | exact wo_ra hw (by omega)) ?_
      refine px_iload_3 dX5_lookAt_25 ?_
      refine px_aload_1 dX5_lookAt_26 ?_
      refine px_aload_1 dX5_lookAt_27 ?_
      refine gf_X5_37 rfl dX5_lookAt_28 (by first | assumption | exact rt_a ht | exact rt_r1 ht | exact rt_r2 ht | exact rt_w ht | exact rt_c ht | exact rt_rr ht (by omega) | exact rt_ra ht (by omega) | exact wo_a hw | exact wo_r0 hw | exact wo_r1 hw | exact wo_r2 hw | exact wo_a1 hw | exact wo_a2 hw | exact wo_a3 hw | exact wo_rr hw (by omega) | exact wo_ra hw (by omega)) (by first | assumption | exact rt_a ht | exact rt_r1 ht | exact rt_r2 ht | exact rt_w ht | exact rt_c ht | exact rt_rr ht (by omega) | exact rt_ra ht (by omega) | exact wo_a hw | exact wo_r0 hw | exact wo_r1 hw | exact wo_r2 hw | exact wo_a1 hw | exact wo_a2 hw | exact wo_a3 hw | exact wo_rr hw (by omega) | exact wo_ra hw (by omega)) ?_
      refine px_iload_3 dX5_lookAt_31 ?_
      refine px_aaldN dX5_lookAt_32 (by first | assumption | exact rt_a ht | exact rt_r1 ht | exact rt_r2 ht | exact rt_w ht | exact rt_c ht | exact rt_rr ht (by omega) | exact rt_ra ht (by omega) | exact wo_a hw | exact wo_r0 hw | exact wo_r1 hw | exact wo_r2 hw | exact wo_a1 hw | exact wo_a2 hw | exact wo_a3 hw | exact wo_rr hw (by omega) | exact wo_ra hw (by omega)) (by first | with_reducible rfl | assumption | exact ix_eq (by assumption)) (by omega) (by first | assumption | exact rt_a ht | exact rt_r1 ht | exact rt_r2 ht | exact rt_w ht | exact rt_c ht | exact rt_rr ht (by omega) | exact rt_ra ht (by omega) | exact wo_a hw | exact wo_r0 hw | exact wo_r1 hw | exact wo_r2 hw | exact wo_a1 hw | exact wo_a2 hw | exact wo_a3 hw | exact wo_rr hw (by omega) | exact wo_ra hw (by omega)) ?_
      refine cd_X5_41 rfl ⟨⟨Nat.le_of_ble_eq_true rfl, Nat.le_of_ble_eq_true rfl⟩, Nat.le_of_ble_eq_true rfl, Nat.le_of_ble_eq_true rfl, Nat.le_of_ble_eq_true rfl⟩ (by first | assumption | exact rt_a ht | exact rt_r1 ht | exact rt_r2 ht | exact rt_w ht | exact rt_c ht | exact rt_rr ht (by omega) | exact rt_ra ht (by omega) | exact wo_a hw | exact wo_r0 hw | exact wo_r1 hw | exact wo_r2 hw | exact wo_a1 hw | exact wo_a2 hw | exact wo_a3 hw | exact wo_rr hw (by omega) | exact wo_ra hw (by omega)) dX5_lookAt_33 (s_X6_chanceR hw (hag I1 g1) hV (show i < f_nr σ by omega)) ?_
      refine px_iastN dX5_lookAt_36 (by first | assumption | exact rt_a ht | exact rt_r1 ht | exact rt_r2 ht | exact rt_w ht | exact rt_c ht | exact rt_rr ht (by omega) | exact rt_ra ht (by omega) | exact wo_a hw | exact wo_r0 hw | exact wo_r1 hw | exact wo_r2 hw | exact wo_a1 hw | exact wo_a2 hw | exact wo_a3 hw | exact wo_rr hw (by omega) | exact wo_ra hw (by omega)) (by first | with_reducible rfl | assumption | exact ix_eq (by assumption)) (by omega) ?_
      refine px_iinc_3 dX5_lookAt_37 rfl ?_
      refine px_goto (tgt := 13) dX5_lookAt_40 (by decide) ?_
      rw [inc_nI]; refine ih (i + 1) (by omega) _ (fun a ha => by rw [px_up_ne ha]; exact g1 a ha) (fun r hr => ?_)
      rw [px_up_at]
      by_cases z1 : r = i
      · rw [if_pos ⟨rfl, z1⟩, z1]
      · rw [if_neg (fun y => z1 y.2)]; exact gc r (by omega)
  refine px_aload_0 dX5_lookAt_0 ?_
  refine px_aload_1 dX5_lookAt_1 ?_
  refine gf_X5_28 rfl dX5_lookAt_2 (by first | assumption | exact rt_a ht | exact rt_r1 ht | exact rt_r2 ht | exact rt_w ht | exact rt_c ht | exact rt_rr ht (by omega) | exact rt_ra ht (by omega) | exact wo_a hw | exact wo_r0 hw | exact wo_r1 hw | exact wo_r2 hw | exact wo_a1 hw | exact wo_a2 hw | exact wo_a3 hw | exact wo_rr hw (by omega) | exact wo_ra hw (by omega)) (by first | assumption | exact rt_a ht | exact rt_r1 ht | exact rt_r2 ht | exact rt_w ht | exact rt_c ht | exact rt_rr ht (by omega) | exact rt_ra ht (by omega) | exact wo_a hw | exact wo_r0 hw | exact wo_r1 hw | exact wo_r2 hw | exact wo_a1 hw | exact wo_a2 hw | exact wo_a3 hw | exact wo_rr hw (by omega) | exact wo_ra hw (by omega)) ?_
  refine px_iconst (0) dX5_lookAt_5 rfl ?_
  refine px_ialdN (j := 0) dX5_lookAt_6 (by first | assumption | exact rt_a ht | exact rt_r1 ht | exact rt_r2 ht | exact rt_w ht | exact rt_c ht | exact rt_rr ht (by omega) | exact rt_ra ht (by omega) | exact wo_a hw | exact wo_r0 hw | exact wo_r1 hw | exact wo_r2 hw | exact wo_a1 hw | exact wo_a2 hw | exact wo_a3 hw | exact wo_rr hw (by omega) | exact wo_ra hw (by omega)) (by rfl) (by first | decide | omega) ?_
  rw [ag_st hA (by decide)]
  refine px_i2l dX5_lookAt_7 ?_
  refine pf_X5_20 rfl dX5_lookAt_8 (by first | assumption | exact rt_a ht | exact rt_r1 ht | exact rt_r2 ht | exact rt_w ht | exact rt_c ht | exact rt_rr ht (by omega) | exact rt_ra ht (by omega) | exact wo_a hw | exact wo_r0 hw | exact wo_r1 hw | exact wo_r2 hw | exact wo_a1 hw | exact wo_a2 hw | exact wo_a3 hw | exact wo_rr hw (by omega) | exact wo_ra hw (by omega)) ?_
  refine px_iconst (0) dX5_lookAt_11 rfl ?_
  refine px_istore_3 dX5_lookAt_12 rfl ?_
  exact LC _ (fun a ha => px_up_ne (by omega)) (px_up_self _ _ _ _) _ 0 (Nat.zero_add _) I (fun _ _ => rfl) (fun r hr => absurd hr (Nat.not_lt_zero r))
end CRT
