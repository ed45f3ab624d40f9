section LF
variable {l : Launch} {G : px_G} {T : px_T} {I : px_I} {J : px_J} {R : px_R} {μ : px_M} {w : Nat}
theorem s_X7_isOutside {v a b : Int32} : px_K l G 0 mX7_isOutside ([.int v, .int a, .int b]) (μ) (some (.int (if v < a ∨ b < v then 1 else 0))) (μ) := by
  refine px_met (M := mX7_isOutside) ([some (.int v), some (.int a), some (.int b)]) (by decide +kernel) rfl (Nat.le_of_ble_eq_true rfl) rfl ?_
  refine px_iload_0 dX7_isOutside_0 ?_
  refine px_iload_1 dX7_isOutside_1 ?_
  refine px_icmp_lt (tgt := 10) dX7_isOutside_2 (by decide) (fun h2 => ?_) (fun h2 => ?_)
  · skip
    refine px_iconst (1) dX7_isOutside_10 rfl ?_
    refine px_goto (tgt := 15) dX7_isOutside_11 (by decide) ?_
    refine px_zret dX7_isOutside_15 (by first | rfl | exact px_nb _) ?_
    exact ⟨by simp_all, rfl⟩
  · skip
    refine px_iload_0 dX7_isOutside_5 ?_
    refine px_iload_2 dX7_isOutside_6 ?_
    refine px_icmp_le (tgt := 14) dX7_isOutside_7 (by decide) (fun h7 => ?_) (fun h7 => ?_)
    · skip
      refine px_iconst (0) dX7_isOutside_14 rfl ?_
      refine px_zret dX7_isOutside_15 (by first | rfl | exact px_nb _) ?_
      exact ⟨by simp_all, rfl⟩
    · skip
      refine px_iconst (1) dX7_isOutside_10 rfl ?_
      refine px_goto (tgt := 15) dX7_isOutside_11 (by decide) ?_
      refine px_zret dX7_isOutside_15 (by first | rfl | exact px_nb _) ?_
      exact ⟨by simp_all, rfl⟩
theorem s_X7_isTown {v : Int32} : px_K l G 1 mX7_isTown ([.int v]) (μ) (some (.int (if ¬ (v < 0 ∨ 7 < v) then 1 else 0))) (μ) := by
  refine px_met (M := mX7_isTown) ([some (.int v)]) (by decide +kernel) rfl (Nat.le_of_ble_eq_true rfl) rfl ?_
  refine px_iload_0 dX7_isTown_0 ?_
  refine px_iconst (0) dX7_isTown_1 rfl ?_
  refine px_bipush (7) dX7_isTown_2 rfl ?_
  refine cd_X7_209 rfl ⟨⟨Nat.le_of_ble_eq_true rfl, Nat.le_of_ble_eq_true rfl⟩, Nat.le_of_ble_eq_true rfl, Nat.le_of_ble_eq_true rfl, Nat.le_of_ble_eq_true rfl⟩ dX7_isTown_4 (s_X7_isOutside) ?_
  refine px_ifb_ne (tgt := 14) dX7_isTown_7 (by decide) (fun h7 => ?_) (fun h7 => ?_)
  · skip
    refine px_iconst (0) dX7_isTown_14 rfl ?_
    refine px_zret dX7_isTown_15 (by first | rfl | exact px_nb _) ?_
    exact ⟨by simp_all, rfl⟩
  · skip
    refine px_iconst (1) dX7_isTown_10 rfl ?_
    refine px_goto (tgt := 15) dX7_isTown_11 (by decide) ?_
    refine px_zret dX7_isTown_15 (by first | rfl | exact px_nb _) ?_
    exact ⟨by simp_all, rfl⟩
theorem s_X7_bit {P : Prop} [Decidable P] : px_K l G 0 mX7_bit ([.int (if P then 1 else 0)]) (μ) (some (.int (if P then 1 else 0))) (μ) := by
  refine px_met (M := mX7_bit) ([some (.int (if P then 1 else 0))]) (by decide +kernel) rfl (Nat.le_of_ble_eq_true rfl) rfl ?_
  refine px_iload_0 dX7_bit_0 ?_
  refine px_if_eq (tgt := 8) dX7_bit_1 (by decide) (fun h1 => ?_) (fun h1 => ?_)
  · skip
    refine px_iconst (0) dX7_bit_8 rfl ?_
    refine px_iret dX7_bit_9 ?_
    exact ⟨by simp_all, rfl⟩
  · skip
    refine px_iconst (1) dX7_bit_4 rfl ?_
    refine px_goto (tgt := 9) dX7_bit_5 (by decide) ?_
    refine px_iret dX7_bit_9 ?_
    exact ⟨by simp_all, rfl⟩
theorem s_X4_isAt {a : Nat} {t : Int32} (ha : px_at G T a 4 0) : px_K l G 0 mX4_isAt ([.ref a, .int t]) ((T, I, J, R)) (some (.int (if I a 0 = t ∨ I a 1 = t then 1 else 0))) ((T, I, J, R)) := by
  refine px_met (M := mX4_isAt) ([some (.ref a), some (.int t)]) (by decide +kernel) rfl (Nat.le_of_ble_eq_true rfl) rfl ?_
  refine px_aload_0 dX4_isAt_0 ?_
  refine gf_X4_7 rfl dX4_isAt_1 (by first | assumption | exact wo_a hw | exact wo_r0 hw | exact wo_r1 hw | exact wo_r2 hw | exact wo_r3 hw | exact wo_a1 hw | exact wo_a2 hw | exact wo_a3 hw | exact wo_a4 hw | exact wo_rr hw (by omega) | exact wo_ra hw (by omega) | exact wo_cr hw (by omega) | exact wo_ca hw (by omega)) ?_
  refine px_iload_1 dX4_isAt_4 ?_
  refine px_icmp_eq (tgt := 16) dX4_isAt_5 (by decide) (fun h5 => ?_) (fun h5 => ?_)
  · skip
    refine px_iconst (1) dX4_isAt_16 rfl ?_
    refine px_goto (tgt := 21) dX4_isAt_17 (by decide) ?_
    refine px_zret dX4_isAt_21 (by first | rfl | exact px_nb _) ?_
    exact ⟨by simp_all, rfl⟩
  · skip
    refine px_aload_0 dX4_isAt_8 ?_
    refine gf_X4_13 rfl dX4_isAt_9 (by first | assumption | exact wo_a hw | exact wo_r0 hw | exact wo_r1 hw | exact wo_r2 hw | exact wo_r3 hw | exact wo_a1 hw | exact wo_a2 hw | exact wo_a3 hw | exact wo_a4 hw | exact wo_rr hw (by omega) | exact wo_ra hw (by omega) | exact wo_cr hw (by omega) | exact wo_ca hw (by omega)) ?_
    refine px_iload_1 dX4_isAt_12 ?_
    refine px_icmp_ne (tgt := 20) dX4_isAt_13 (by decide) (fun h13 => ?_) (fun h13 => ?_)
    · skip
      refine px_iconst (0) dX4_isAt_20 rfl ?_
      refine px_zret dX4_isAt_21 (by first | rfl | exact px_nb _) ?_
      exact ⟨by simp_all, rfl⟩
    · skip
      refine px_iconst (1) dX4_isAt_16 rfl ?_
      refine px_goto (tgt := 21) dX4_isAt_17 (by decide) ?_
      refine px_zret dX4_isAt_21 (by first | rfl | exact px_nb _) ?_
      exact ⟨by simp_all, rfl⟩
theorem s_X4_farFrom {a : Nat} {t : Int32} (ha : px_at G T a 4 0) : px_K l G 0 mX4_farFrom ([.ref a, .int t]) ((T, I, J, R)) (some (.int (if I a 0 = t then I a 1 else I a 0))) ((T, I, J, R)) := by
  refine px_met (M := mX4_farFrom) ([some (.ref a), some (.int t)]) (by decide +kernel) rfl (Nat.le_of_ble_eq_true rfl) rfl ?_
  refine px_aload_0 dX4_farFrom_0 ?_
  refine gf_X4_7 rfl dX4_farFrom_1 (by first | assumption | exact wo_a hw | exact wo_r0 hw | exact wo_r1 hw | exact wo_r2 hw | exact wo_r3 hw | exact wo_a1 hw | exact wo_a2 hw | exact wo_a3 hw | exact wo_a4 hw | exact wo_rr hw (by omega) | exact wo_ra hw (by omega) | exact wo_cr hw (by omega) | exact wo_ca hw (by omega)) ?_
  refine px_iload_1 dX4_farFrom_4 ?_
  refine px_icmp_ne (tgt := 15) dX4_farFrom_5 (by decide) (fun h5 => ?_) (fun h5 => ?_)
  · skip
    refine px_aload_0 dX4_farFrom_15 ?_
    refine gf_X4_7 rfl dX4_farFrom_16 (by first | assumption | exact wo_a hw | exact wo_r0 hw | exact wo_r1 hw | exact wo_r2 hw | exact wo_r3 hw | exact wo_a1 hw | exact wo_a2 hw | exact wo_a3 hw | exact wo_a4 hw | exact wo_rr hw (by omega) | exact wo_ra hw (by omega) | exact wo_cr hw (by omega) | exact wo_ca hw (by omega)) ?_
    refine px_iret dX4_farFrom_19 ?_
    exact ⟨by simp_all, rfl⟩
  · skip
    refine px_aload_0 dX4_farFrom_8 ?_
    refine gf_X4_13 rfl dX4_farFrom_9 (by first | assumption | exact wo_a hw | exact wo_r0 hw | exact wo_r1 hw | exact wo_r2 hw | exact wo_r3 hw | exact wo_a1 hw | exact wo_a2 hw | exact wo_a3 hw | exact wo_a4 hw | exact wo_rr hw (by omega) | exact wo_ra hw (by omega) | exact wo_cr hw (by omega) | exact wo_ca hw (by omega)) ?_
    refine px_goto (tgt := 19) dX4_farFrom_12 (by decide) ?_
    refine px_iret dX4_farFrom_19 ?_
    exact ⟨by simp_all, rfl⟩
theorem s_X6_chanceWith {g : Int32} (hw : px_wo G T R w) : px_K l G 1 mX6_chanceWith ([.ref w, .int g]) ((T, I, J, R)) (some (.int (if I (w + 1) 1 * g < 90 then I (w + 1) 1 * g else 90))) ((T, I, J, R)) := by
  refine px_met (M := mX6_chanceWith) ([some (.ref w), some (.int g)]) (by decide +kernel) rfl (Nat.le_of_ble_eq_true rfl) rfl ?_
  refine px_bipush (90) dX6_chanceWith_0 rfl ?_
  refine px_aload_0 dX6_chanceWith_2 ?_
  refine gf_X6_9 rfl dX6_chanceWith_3 (by first | assumption | exact wo_a hw | exact wo_r0 hw | exact wo_r1 hw | exact wo_r2 hw | exact wo_r3 hw | exact wo_a1 hw | exact wo_a2 hw | exact wo_a3 hw | exact wo_a4 hw | exact wo_rr hw (by omega) | exact wo_ra hw (by omega) | exact wo_cr hw (by omega) | exact wo_ca hw (by omega)) (by first | assumption | exact wo_a hw | exact wo_r0 hw | exact wo_r1 hw | exact wo_r2 hw | exact wo_r3 hw | exact wo_a1 hw | exact wo_a2 hw | exact wo_a3 hw | exact wo_a4 hw | exact wo_rr hw (by omega) | exact wo_ra hw (by omega) | exact wo_cr hw (by omega) | exact wo_ca hw (by omega)) ?_
  refine px_iconst (1) dX6_chanceWith_6 rfl ?_
  refine px_ialdN dX6_chanceWith_7 (by first | assumption | exact wo_a hw | exact wo_r0 hw | exact wo_r1 hw | exact wo_r2 hw | exact wo_r3 hw | exact wo_a1 hw | exact wo_a2 hw | exact wo_a3 hw | exact wo_a4 hw | exact wo_rr hw (by omega) | exact wo_ra hw (by omega) | exact wo_cr hw (by omega) | exact wo_ca hw (by omega)) (by rfl) (by first | decide | omega) ?_
  refine px_iload_1 dX6_chanceWith_8 ?_
  refine px_imul dX6_chanceWith_9 ?_
  refine cl_X6_90 rfl ⟨Nat.le_of_ble_eq_true rfl, Nat.le_of_ble_eq_true rfl, Nat.le_of_ble_eq_true rfl, Nat.le_of_ble_eq_true rfl⟩ dX6_chanceWith_10 ?_
  refine px_iret dX6_chanceWith_13 ?_
  exact ⟨by simp_all, rfl⟩
theorem s_X6_chanceOf {a : Nat} (hw : px_wo G T R w) (ha : px_at G T a 4 0) : px_K l G 2 mX6_chanceOf ([.ref w, .ref a]) ((T, I, J, R)) (some (.int (if I (w + 1) 1 * I a 3 < 90 then I (w + 1) 1 * I a 3 else 90))) ((T, I, J, R)) := by
  refine px_met (M := mX6_chanceOf) ([some (.ref w), some (.ref a)]) (by decide +kernel) rfl (Nat.le_of_ble_eq_true rfl) rfl ?_
  refine px_aload_0 dX6_chanceOf_0 ?_
  refine px_aload_1 dX6_chanceOf_1 ?_
  refine gf_X6_81 rfl dX6_chanceOf_2 (by first | assumption | exact wo_a hw | exact wo_r0 hw | exact wo_r1 hw | exact wo_r2 hw | exact wo_r3 hw | exact wo_a1 hw | exact wo_a2 hw | exact wo_a3 hw | exact wo_a4 hw | exact wo_rr hw (by omega) | exact wo_ra hw (by omega) | exact wo_cr hw (by omega) | exact wo_ca hw (by omega)) ?_
  refine cd_X6_96 rfl ⟨⟨Nat.le_of_ble_eq_true rfl, Nat.le_of_ble_eq_true rfl⟩, Nat.le_of_ble_eq_true rfl, Nat.le_of_ble_eq_true rfl, Nat.le_of_ble_eq_true rfl⟩ (by first | assumption | exact wo_a hw | exact wo_r0 hw | exact wo_r1 hw | exact wo_r2 hw | exact wo_r3 hw | exact wo_a1 hw | exact wo_a2 hw | exact wo_a3 hw | exact wo_a4 hw | exact wo_rr hw (by omega) | exact wo_ra hw (by omega) | exact wo_cr hw (by omega) | exact wo_ca hw (by omega)) dX6_chanceOf_5 (s_X6_chanceWith hw) ?_
  refine px_iret dX6_chanceOf_8 ?_
  exact ⟨by simp_all, rfl⟩
theorem s_X6_mostHidden {p c : Int32} (hw : px_wo G T R w) (hc : ¬ 100 - c = 0) : px_K l G 0 mX6_mostHidden ([.ref w, .int p, .int c]) ((T, I, J, R)) (some (.int ((100 * p + c * I (w + 1) 0) / (100 - c)))) ((T, I, J, R)) := by
  refine px_met (M := mX6_mostHidden) ([some (.ref w), some (.int p), some (.int c)]) (by decide +kernel) rfl (Nat.le_of_ble_eq_true rfl) rfl ?_
  refine px_bipush (100) dX6_mostHidden_0 rfl ?_
  refine px_iload_1 dX6_mostHidden_2 ?_
  refine px_imul dX6_mostHidden_3 ?_
  refine px_iload_2 dX6_mostHidden_4 ?_
  refine px_aload_0 dX6_mostHidden_5 ?_
  refine gf_X6_9 rfl dX6_mostHidden_6 (by first | assumption | exact wo_a hw | exact wo_r0 hw | exact wo_r1 hw | exact wo_r2 hw | exact wo_r3 hw | exact wo_a1 hw | exact wo_a2 hw | exact wo_a3 hw | exact wo_a4 hw | exact wo_rr hw (by omega) | exact wo_ra hw (by omega) | exact wo_cr hw (by omega) | exact wo_ca hw (by omega)) (by first | assumption | exact wo_a hw | exact wo_r0 hw | exact wo_r1 hw | exact wo_r2 hw | exact wo_r3 hw | exact wo_a1 hw | exact wo_a2 hw | exact wo_a3 hw | exact wo_a4 hw | exact wo_rr hw (by omega) | exact wo_ra hw (by omega) | exact wo_cr hw (by omega) | exact wo_ca hw (by omega)) ?_
  refine px_iconst (0) dX6_mostHidden_9 rfl ?_
  refine px_ialdN dX6_mostHidden_10 (by first | assumption | exact wo_a hw | exact wo_r0 hw | exact wo_r1 hw | exact wo_r2 hw | exact wo_r3 hw | exact wo_a1 hw | exact wo_a2 hw | exact wo_a3 hw | exact wo_a4 hw | exact wo_rr hw (by omega) | exact wo_ra hw (by omega) | exact wo_cr hw (by omega) | exact wo_ca hw (by omega)) (by rfl) (by first | decide | omega) ?_
  refine px_imul dX6_mostHidden_11 ?_
  refine px_iadd dX6_mostHidden_12 ?_
  refine px_bipush (100) dX6_mostHidden_13 rfl ?_
  refine px_iload_2 dX6_mostHidden_15 ?_
  refine px_isub dX6_mostHidden_16 ?_
  refine px_idiv dX6_mostHidden_17 (by exact hc) ?_
  refine px_iret dX6_mostHidden_18 ?_
  exact ⟨by simp_all, rfl⟩
end LF

