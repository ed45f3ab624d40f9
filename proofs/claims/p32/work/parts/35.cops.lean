section COP
variable {l : Launch} {G : px_G} {T : px_T} {I I' : px_I} {J : px_J} {R : px_R} {μ : px_M} {x h w : Nat} {σ τ : px_s} {A : px_a} {kn : Nat} {H : Nat → px_s}
theorem e_set {σ : px_s} (h : px_VV σ) {a b : Int32} : (f_set σ a b).1 < 0 → (f_set σ a b).2 = σ := by
  unfold f_set
  intro q
  split <;> (try rfl)
  split <;> (try rfl)
  split <;> (try rfl)
  rename_i h1 h2 h3
  rw [if_neg h1, if_neg h2, if_neg h3] at q
  exfalso
  dsimp only at q
  have hl := ix_le (Classical.byContradiction h1 : rg a 0 3) (k := 3) rfl
  obtain ⟨g1, g2, g3, g4⟩ := h.1.2.2.2.2.2.2
  rcases (by omega : ix a = 0 ∨ ix a = 1 ∨ ix a = 2 ∨ ix a = 3) with z | z | z | z <;> rw [z] at q
  · exact rg_nneg g1 (by decide) q
  · exact rg_nneg g2 (by decide) q
  · exact rg_nneg g3 (by decide) q
  · exact rg_nneg g4 (by decide) q
theorem e_toll {σ : px_s} (h : px_VV σ) {a b : Int32} : (f_toll σ a b).1 < 0 → (f_toll σ a b).2 = σ := by
  unfold f_toll
  intro q
  split <;> (try rfl)
  split <;> (try rfl)
  rename_i h1 h2
  rw [if_neg h1, if_neg h2] at q
  exfalso
  obtain ⟨-, -, -, -, -, -, -, r, -⟩ := h.1.2.1 _ (rd_lt h.1 (Classical.byContradiction h1)).2.1
  exact rg_nneg r (by decide) q
theorem s_X7_set {a b : Int32} (hx : px_co G T R x) (hG : px_tabs G) (h : px_CI I x A) (hV : px_AV A) : px_C l G 3 0 0 mX7_set [.ref x, .int a, .int b] (T, I, J, R) (px_Qx T I J R x (.int (f_set A.1 a b).1) (a_chg A (f_set A.1 a b))) := by
  refine px_met (M := mX7_set) ([some (.ref x), some (.int a), some (.int b)]) (by decide +kernel) rfl (Nat.le_of_ble_eq_true rfl) rfl ?_
  refine px_aload_0 dX7_set_0 ?_
  refine gf_X7_19 rfl dX7_set_1 (by first | assumption | exact co_a hx | exact co_r0 hx | exact co_r1 hx | exact co_r2 hx | exact co_r3 hx | exact co_r4 hx | exact co_r5 hx | exact co_r6 hx | exact co_r7 hx | exact co_r8 hx | exact co_w hx | exact co_h hx) (by first | assumption | exact co_a hx | exact co_r0 hx | exact co_r1 hx | exact co_r2 hx | exact co_r3 hx | exact co_r4 hx | exact co_r5 hx | exact co_r6 hx | exact co_r7 hx | exact co_r8 hx | exact co_w hx | exact co_h hx) ?_
  refine px_aload_0 dX7_set_4 ?_
  refine gf_X7_10 rfl dX7_set_5 (by first | assumption | exact co_a hx | exact co_r0 hx | exact co_r1 hx | exact co_r2 hx | exact co_r3 hx | exact co_r4 hx | exact co_r5 hx | exact co_r6 hx | exact co_r7 hx | exact co_r8 hx | exact co_w hx | exact co_h hx) (by first | assumption | exact co_a hx | exact co_r0 hx | exact co_r1 hx | exact co_r2 hx | exact co_r3 hx | exact co_r4 hx | exact co_r5 hx | exact co_r6 hx | exact co_r7 hx | exact co_r8 hx | exact co_w hx | exact co_h hx) ?_
  refine cg_X7_63 rfl ⟨⟨Nat.le_of_ble_eq_true rfl, Nat.le_of_ble_eq_true rfl⟩, Nat.le_of_ble_eq_true rfl, Nat.le_of_ble_eq_true rfl, Nat.le_of_ble_eq_true rfl⟩ (by first | assumption | exact co_a hx | exact co_r0 hx | exact co_r1 hx | exact co_r2 hx | exact co_r3 hx | exact co_r4 hx | exact co_r5 hx | exact co_r6 hx | exact co_r7 hx | exact co_r8 hx | exact co_w hx | exact co_h hx) dX7_set_8 (s_X1_keepInMind (co_hs hx) (co_wo hx) (by omega) h.2.1 hV.2.1 h.1 hV.1.1) ?_
  rintro v μ' ⟨I1, rfl, rfl, c1, f1⟩; have hA1 := ag_congr h.1 hV.1.1 (fun a a1 a2 => f1 a (by omega))
  refine px_aload_0 dX7_set_11 ?_
  refine px_aload_0 dX7_set_12 ?_
  refine gf_X7_10 rfl dX7_set_13 (by first | assumption | exact co_a hx | exact co_r0 hx | exact co_r1 hx | exact co_r2 hx | exact co_r3 hx | exact co_r4 hx | exact co_r5 hx | exact co_r6 hx | exact co_r7 hx | exact co_r8 hx | exact co_w hx | exact co_h hx) (by first | assumption | exact co_a hx | exact co_r0 hx | exact co_r1 hx | exact co_r2 hx | exact co_r3 hx | exact co_r4 hx | exact co_r5 hx | exact co_r6 hx | exact co_r7 hx | exact co_r8 hx | exact co_w hx | exact co_h hx) ?_
  refine px_iload_1 dX7_set_16 ?_
  refine px_iload_2 dX7_set_17 ?_
  refine cg_X7_67 rfl ⟨⟨Nat.le_of_ble_eq_true rfl, Nat.le_of_ble_eq_true rfl⟩, Nat.le_of_ble_eq_true rfl, Nat.le_of_ble_eq_true rfl, Nat.le_of_ble_eq_true rfl⟩ (by first | assumption | exact co_a hx | exact co_r0 hx | exact co_r1 hx | exact co_r2 hx | exact co_r3 hx | exact co_r4 hx | exact co_r5 hx | exact co_r6 hx | exact co_r7 hx | exact co_r8 hx | exact co_w hx | exact co_h hx) dX7_set_18 (s_X6_changeSetting hG (co_wo hx) hA1 hV.1.1) ?_
  rintro v μ' ⟨I2, rfl, rfl, hA2, f2⟩
  refine cg_X7_71 rfl ⟨⟨Nat.le_of_ble_eq_true rfl, Nat.le_of_ble_eq_true rfl⟩, Nat.le_of_ble_eq_true rfl, Nat.le_of_ble_eq_true rfl, Nat.le_of_ble_eq_true rfl⟩ (by first | assumption | exact co_a hx | exact co_r0 hx | exact co_r1 hx | exact co_r2 hx | exact co_r3 hx | exact co_r4 hx | exact co_r5 hx | exact co_r6 hx | exact co_r7 hx | exact co_r8 hx | exact co_w hx | exact co_h hx) dX7_set_21 (s_X7_recorded hx (ch1_congr c1 hV.2.1 hV.1 (fun a a1 a2 => f2 a (by omega))) hV.2.1 hV.1) ?_
  rintro v μ' ⟨rfl, hu⟩
  refine px_iret dX7_set_24 ?_
  exact cchg_end h hV (e_set hV.1) (V_set hV.1) f1 c1 hA2 f2 ⟨rfl, hu⟩
theorem s_X7_price {a b : Int32} (hx : px_co G T R x) (hG : px_tabs G) (h : px_CI I x A) (hV : px_AV A) : px_C l G 3 0 0 mX7_price [.ref x, .int a, .int b] (T, I, J, R) (px_Qx T I J R x (.int (f_price A.1 a b).1) (a_chg A (f_price A.1 a b))) := by
  refine px_met (M := mX7_price) ([some (.ref x), some (.int a), some (.int b)]) (by decide +kernel) rfl (Nat.le_of_ble_eq_true rfl) rfl ?_
  refine px_aload_0 dX7_price_0 ?_
  refine gf_X7_19 rfl dX7_price_1 (by first | assumption | exact co_a hx | exact co_r0 hx | exact co_r1 hx | exact co_r2 hx | exact co_r3 hx | exact co_r4 hx | exact co_r5 hx | exact co_r6 hx | exact co_r7 hx | exact co_r8 hx | exact co_w hx | exact co_h hx) (by first | assumption | exact co_a hx | exact co_r0 hx | exact co_r1 hx | exact co_r2 hx | exact co_r3 hx | exact co_r4 hx | exact co_r5 hx | exact co_r6 hx | exact co_r7 hx | exact co_r8 hx | exact co_w hx | exact co_h hx) ?_
  refine px_aload_0 dX7_price_4 ?_
  refine gf_X7_10 rfl dX7_price_5 (by first | assumption | exact co_a hx | exact co_r0 hx | exact co_r1 hx | exact co_r2 hx | exact co_r3 hx | exact co_r4 hx | exact co_r5 hx | exact co_r6 hx | exact co_r7 hx | exact co_r8 hx | exact co_w hx | exact co_h hx) (by first | assumption | exact co_a hx | exact co_r0 hx | exact co_r1 hx | exact co_r2 hx | exact co_r3 hx | exact co_r4 hx | exact co_r5 hx | exact co_r6 hx | exact co_r7 hx | exact co_r8 hx | exact co_w hx | exact co_h hx) ?_
  refine cg_X7_63 rfl ⟨⟨Nat.le_of_ble_eq_true rfl, Nat.le_of_ble_eq_true rfl⟩, Nat.le_of_ble_eq_true rfl, Nat.le_of_ble_eq_true rfl, Nat.le_of_ble_eq_true rfl⟩ (by first | assumption | exact co_a hx | exact co_r0 hx | exact co_r1 hx | exact co_r2 hx | exact co_r3 hx | exact co_r4 hx | exact co_r5 hx | exact co_r6 hx | exact co_r7 hx | exact co_r8 hx | exact co_w hx | exact co_h hx) dX7_price_8 (s_X1_keepInMind (co_hs hx) (co_wo hx) (by omega) h.2.1 hV.2.1 h.1 hV.1.1) ?_
  rintro v μ' ⟨I1, rfl, rfl, c1, f1⟩; have hA1 := ag_congr h.1 hV.1.1 (fun a a1 a2 => f1 a (by omega))
  refine px_aload_0 dX7_price_11 ?_
  refine px_aload_0 dX7_price_12 ?_
  refine gf_X7_10 rfl dX7_price_13 (by first | assumption | exact co_a hx | exact co_r0 hx | exact co_r1 hx | exact co_r2 hx | exact co_r3 hx | exact co_r4 hx | exact co_r5 hx | exact co_r6 hx | exact co_r7 hx | exact co_r8 hx | exact co_w hx | exact co_h hx) (by first | assumption | exact co_a hx | exact co_r0 hx | exact co_r1 hx | exact co_r2 hx | exact co_r3 hx | exact co_r4 hx | exact co_r5 hx | exact co_r6 hx | exact co_r7 hx | exact co_r8 hx | exact co_w hx | exact co_h hx) ?_
  refine px_iload_1 dX7_price_16 ?_
  refine px_iload_2 dX7_price_17 ?_
  refine cg_X7_79 rfl ⟨⟨Nat.le_of_ble_eq_true rfl, Nat.le_of_ble_eq_true rfl⟩, Nat.le_of_ble_eq_true rfl, Nat.le_of_ble_eq_true rfl, Nat.le_of_ble_eq_true rfl⟩ (by first | assumption | exact co_a hx | exact co_r0 hx | exact co_r1 hx | exact co_r2 hx | exact co_r3 hx | exact co_r4 hx | exact co_r5 hx | exact co_r6 hx | exact co_r7 hx | exact co_r8 hx | exact co_w hx | exact co_h hx) dX7_price_18 (s_X6_changePrice (co_wo hx) hA1 hV.1.1) ?_
  rintro v μ' ⟨I2, rfl, rfl, hA2, f2⟩
  refine cg_X7_71 rfl ⟨⟨Nat.le_of_ble_eq_true rfl, Nat.le_of_ble_eq_true rfl⟩, Nat.le_of_ble_eq_true rfl, Nat.le_of_ble_eq_true rfl, Nat.le_of_ble_eq_true rfl⟩ (by first | assumption | exact co_a hx | exact co_r0 hx | exact co_r1 hx | exact co_r2 hx | exact co_r3 hx | exact co_r4 hx | exact co_r5 hx | exact co_r6 hx | exact co_r7 hx | exact co_r8 hx | exact co_w hx | exact co_h hx) dX7_price_21 (s_X7_recorded hx (ch1_congr c1 hV.2.1 hV.1 (fun a a1 a2 => f2 a (by omega))) hV.2.1 hV.1) ?_
  rintro v μ' ⟨rfl, hu⟩
  refine px_iret dX7_price_24 ?_
  exact cchg_end h hV (e_price hV.1) (V_fprice hV.1) f1 c1 hA2 f2 ⟨rfl, hu⟩
theorem s_X7_guard {a b : Int32} (hx : px_co G T R x) (hG : px_tabs G) (h : px_CI I x A) (hV : px_AV A) : px_C l G 3 0 0 mX7_guard [.ref x, .int a, .int b] (T, I, J, R) (px_Qx T I J R x (.int (f_guard A.1 a b).1) (a_chg A (f_guard A.1 a b))) := by
  refine px_met (M := mX7_guard) ([some (.ref x), some (.int a), some (.int b)]) (by decide +kernel) rfl (Nat.le_of_ble_eq_true rfl) rfl ?_
  refine px_aload_0 dX7_guard_0 ?_
  refine gf_X7_19 rfl dX7_guard_1 (by first | assumption | exact co_a hx | exact co_r0 hx | exact co_r1 hx | exact co_r2 hx | exact co_r3 hx | exact co_r4 hx | exact co_r5 hx | exact co_r6 hx | exact co_r7 hx | exact co_r8 hx | exact co_w hx | exact co_h hx) (by first | assumption | exact co_a hx | exact co_r0 hx | exact co_r1 hx | exact co_r2 hx | exact co_r3 hx | exact co_r4 hx | exact co_r5 hx | exact co_r6 hx | exact co_r7 hx | exact co_r8 hx | exact co_w hx | exact co_h hx) ?_
  refine px_aload_0 dX7_guard_4 ?_
  refine gf_X7_10 rfl dX7_guard_5 (by first | assumption | exact co_a hx | exact co_r0 hx | exact co_r1 hx | exact co_r2 hx | exact co_r3 hx | exact co_r4 hx | exact co_r5 hx | exact co_r6 hx | exact co_r7 hx | exact co_r8 hx | exact co_w hx | exact co_h hx) (by first | assumption | exact co_a hx | exact co_r0 hx | exact co_r1 hx | exact co_r2 hx | exact co_r3 hx | exact co_r4 hx | exact co_r5 hx | exact co_r6 hx | exact co_r7 hx | exact co_r8 hx | exact co_w hx | exact co_h hx) ?_
  refine cg_X7_63 rfl ⟨⟨Nat.le_of_ble_eq_true rfl, Nat.le_of_ble_eq_true rfl⟩, Nat.le_of_ble_eq_true rfl, Nat.le_of_ble_eq_true rfl, Nat.le_of_ble_eq_true rfl⟩ (by first | assumption | exact co_a hx | exact co_r0 hx | exact co_r1 hx | exact co_r2 hx | exact co_r3 hx | exact co_r4 hx | exact co_r5 hx | exact co_r6 hx | exact co_r7 hx | exact co_r8 hx | exact co_w hx | exact co_h hx) dX7_guard_8 (s_X1_keepInMind (co_hs hx) (co_wo hx) (by omega) h.2.1 hV.2.1 h.1 hV.1.1) ?_
  rintro v μ' ⟨I1, rfl, rfl, c1, f1⟩; have hA1 := ag_congr h.1 hV.1.1 (fun a a1 a2 => f1 a (by omega))
  refine px_aload_0 dX7_guard_11 ?_
  refine px_aload_0 dX7_guard_12 ?_
  refine gf_X7_10 rfl dX7_guard_13 (by first | assumption | exact co_a hx | exact co_r0 hx | exact co_r1 hx | exact co_r2 hx | exact co_r3 hx | exact co_r4 hx | exact co_r5 hx | exact co_r6 hx | exact co_r7 hx | exact co_r8 hx | exact co_w hx | exact co_h hx) (by first | assumption | exact co_a hx | exact co_r0 hx | exact co_r1 hx | exact co_r2 hx | exact co_r3 hx | exact co_r4 hx | exact co_r5 hx | exact co_r6 hx | exact co_r7 hx | exact co_r8 hx | exact co_w hx | exact co_h hx) ?_
  refine px_iload_1 dX7_guard_16 ?_
  refine px_iload_2 dX7_guard_17 ?_
  refine cg_X7_82 rfl ⟨⟨Nat.le_of_ble_eq_true rfl, Nat.le_of_ble_eq_true rfl⟩, Nat.le_of_ble_eq_true rfl, Nat.le_of_ble_eq_true rfl, Nat.le_of_ble_eq_true rfl⟩ (by first | assumption | exact co_a hx | exact co_r0 hx | exact co_r1 hx | exact co_r2 hx | exact co_r3 hx | exact co_r4 hx | exact co_r5 hx | exact co_r6 hx | exact co_r7 hx | exact co_r8 hx | exact co_w hx | exact co_h hx) dX7_guard_18 (s_X6_changeGuards (co_wo hx) hA1 hV.1.1) ?_
  rintro v μ' ⟨I2, rfl, rfl, hA2, f2⟩
  refine cg_X7_71 rfl ⟨⟨Nat.le_of_ble_eq_true rfl, Nat.le_of_ble_eq_true rfl⟩, Nat.le_of_ble_eq_true rfl, Nat.le_of_ble_eq_true rfl, Nat.le_of_ble_eq_true rfl⟩ (by first | assumption | exact co_a hx | exact co_r0 hx | exact co_r1 hx | exact co_r2 hx | exact co_r3 hx | exact co_r4 hx | exact co_r5 hx | exact co_r6 hx | exact co_r7 hx | exact co_r8 hx | exact co_w hx | exact co_h hx) dX7_guard_21 (s_X7_recorded hx (ch1_congr c1 hV.2.1 hV.1 (fun a a1 a2 => f2 a (by omega))) hV.2.1 hV.1) ?_
  rintro v μ' ⟨rfl, hu⟩
  refine px_iret dX7_guard_24 ?_
  exact cchg_end h hV (e_guard hV.1) (V_guard hV.1) f1 c1 hA2 f2 ⟨rfl, hu⟩
theorem s_X7_toll {a b : Int32} (hx : px_co G T R x) (hG : px_tabs G) (h : px_CI I x A) (hV : px_AV A) : px_C l G 3 0 0 mX7_toll [.ref x, .int a, .int b] (T, I, J, R) (px_Qx T I J R x (.int (f_toll A.1 a b).1) (a_chg A (f_toll A.1 a b))) := by
  refine px_met (M := mX7_toll) ([some (.ref x), some (.int a), some (.int b)]) (by decide +kernel) rfl (Nat.le_of_ble_eq_true rfl) rfl ?_
  refine px_aload_0 dX7_toll_0 ?_
  refine gf_X7_19 rfl dX7_toll_1 (by first | assumption | exact co_a hx | exact co_r0 hx | exact co_r1 hx | exact co_r2 hx | exact co_r3 hx | exact co_r4 hx | exact co_r5 hx | exact co_r6 hx | exact co_r7 hx | exact co_r8 hx | exact co_w hx | exact co_h hx) (by first | assumption | exact co_a hx | exact co_r0 hx | exact co_r1 hx | exact co_r2 hx | exact co_r3 hx | exact co_r4 hx | exact co_r5 hx | exact co_r6 hx | exact co_r7 hx | exact co_r8 hx | exact co_w hx | exact co_h hx) ?_
  refine px_aload_0 dX7_toll_4 ?_
  refine gf_X7_10 rfl dX7_toll_5 (by first | assumption | exact co_a hx | exact co_r0 hx | exact co_r1 hx | exact co_r2 hx | exact co_r3 hx | exact co_r4 hx | exact co_r5 hx | exact co_r6 hx | exact co_r7 hx | exact co_r8 hx | exact co_w hx | exact co_h hx) (by first | assumption | exact co_a hx | exact co_r0 hx | exact co_r1 hx | exact co_r2 hx | exact co_r3 hx | exact co_r4 hx | exact co_r5 hx | exact co_r6 hx | exact co_r7 hx | exact co_r8 hx | exact co_w hx | exact co_h hx) ?_
  refine cg_X7_63 rfl ⟨⟨Nat.le_of_ble_eq_true rfl, Nat.le_of_ble_eq_true rfl⟩, Nat.le_of_ble_eq_true rfl, Nat.le_of_ble_eq_true rfl, Nat.le_of_ble_eq_true rfl⟩ (by first | assumption | exact co_a hx | exact co_r0 hx | exact co_r1 hx | exact co_r2 hx | exact co_r3 hx | exact co_r4 hx | exact co_r5 hx | exact co_r6 hx | exact co_r7 hx | exact co_r8 hx | exact co_w hx | exact co_h hx) dX7_toll_8 (s_X1_keepInMind (co_hs hx) (co_wo hx) (by omega) h.2.1 hV.2.1 h.1 hV.1.1) ?_
  rintro v μ' ⟨I1, rfl, rfl, c1, f1⟩; have hA1 := ag_congr h.1 hV.1.1 (fun a a1 a2 => f1 a (by omega))
  refine px_aload_0 dX7_toll_11 ?_
  refine px_aload_0 dX7_toll_12 ?_
  refine gf_X7_10 rfl dX7_toll_13 (by first | assumption | exact co_a hx | exact co_r0 hx | exact co_r1 hx | exact co_r2 hx | exact co_r3 hx | exact co_r4 hx | exact co_r5 hx | exact co_r6 hx | exact co_r7 hx | exact co_r8 hx | exact co_w hx | exact co_h hx) (by first | assumption | exact co_a hx | exact co_r0 hx | exact co_r1 hx | exact co_r2 hx | exact co_r3 hx | exact co_r4 hx | exact co_r5 hx | exact co_r6 hx | exact co_r7 hx | exact co_r8 hx | exact co_w hx | exact co_h hx) ?_
  refine px_iload_1 dX7_toll_16 ?_
  refine px_iload_2 dX7_toll_17 ?_
  refine cg_X7_85 rfl ⟨⟨Nat.le_of_ble_eq_true rfl, Nat.le_of_ble_eq_true rfl⟩, Nat.le_of_ble_eq_true rfl, Nat.le_of_ble_eq_true rfl, Nat.le_of_ble_eq_true rfl⟩ (by first | assumption | exact co_a hx | exact co_r0 hx | exact co_r1 hx | exact co_r2 hx | exact co_r3 hx | exact co_r4 hx | exact co_r5 hx | exact co_r6 hx | exact co_r7 hx | exact co_r8 hx | exact co_w hx | exact co_h hx) dX7_toll_18 (s_X6_changeToll (co_wo hx) hA1 hV.1.1) ?_
  rintro v μ' ⟨I2, rfl, rfl, hA2, f2⟩
  refine cg_X7_71 rfl ⟨⟨Nat.le_of_ble_eq_true rfl, Nat.le_of_ble_eq_true rfl⟩, Nat.le_of_ble_eq_true rfl, Nat.le_of_ble_eq_true rfl, Nat.le_of_ble_eq_true rfl⟩ (by first | assumption | exact co_a hx | exact co_r0 hx | exact co_r1 hx | exact co_r2 hx | exact co_r3 hx | exact co_r4 hx | exact co_r5 hx | exact co_r6 hx | exact co_r7 hx | exact co_r8 hx | exact co_w hx | exact co_h hx) dX7_toll_21 (s_X7_recorded hx (ch1_congr c1 hV.2.1 hV.1 (fun a a1 a2 => f2 a (by omega))) hV.2.1 hV.1) ?_
  rintro v μ' ⟨rfl, hu⟩
  refine px_iret dX7_toll_24 ?_
  exact cchg_end h hV (e_toll hV.1) (V_toll hV.1) f1 c1 hA2 f2 ⟨rfl, hu⟩
theorem s_X7_cart {a b : Int32} (hx : px_co G T R x) (hG : px_tabs G) (h : px_CI I x A) (hV : px_AV A) : px_C l G 3 0 0 mX7_cart [.ref x, .int a, .int b] (T, I, J, R) (px_Qx T I J R x (.int (f_cart A.1 a b).1) (a_chg A (f_cart A.1 a b))) := by
  refine px_met (M := mX7_cart) ([some (.ref x), some (.int a), some (.int b)]) (by decide +kernel) rfl (Nat.le_of_ble_eq_true rfl) rfl ?_
  refine px_aload_0 dX7_cart_0 ?_
  refine gf_X7_19 rfl dX7_cart_1 (by first | assumption | exact co_a hx | exact co_r0 hx | exact co_r1 hx | exact co_r2 hx | exact co_r3 hx | exact co_r4 hx | exact co_r5 hx | exact co_r6 hx | exact co_r7 hx | exact co_r8 hx | exact co_w hx | exact co_h hx) (by first | assumption | exact co_a hx | exact co_r0 hx | exact co_r1 hx | exact co_r2 hx | exact co_r3 hx | exact co_r4 hx | exact co_r5 hx | exact co_r6 hx | exact co_r7 hx | exact co_r8 hx | exact co_w hx | exact co_h hx) ?_
  refine px_aload_0 dX7_cart_4 ?_
  refine gf_X7_10 rfl dX7_cart_5 (by first | assumption | exact co_a hx | exact co_r0 hx | exact co_r1 hx | exact co_r2 hx | exact co_r3 hx | exact co_r4 hx | exact co_r5 hx | exact co_r6 hx | exact co_r7 hx | exact co_r8 hx | exact co_w hx | exact co_h hx) (by first | assumption | exact co_a hx | exact co_r0 hx | exact co_r1 hx | exact co_r2 hx | exact co_r3 hx | exact co_r4 hx | exact co_r5 hx | exact co_r6 hx | exact co_r7 hx | exact co_r8 hx | exact co_w hx | exact co_h hx) ?_
  refine cg_X7_63 rfl ⟨⟨Nat.le_of_ble_eq_true rfl, Nat.le_of_ble_eq_true rfl⟩, Nat.le_of_ble_eq_true rfl, Nat.le_of_ble_eq_true rfl, Nat.le_of_ble_eq_true rfl⟩ (by first | assumption | exact co_a hx | exact co_r0 hx | exact co_r1 hx | exact co_r2 hx | exact co_r3 hx | exact co_r4 hx | exact co_r5 hx | exact co_r6 hx | exact co_r7 hx | exact co_r8 hx | exact co_w hx | exact co_h hx) dX7_cart_8 (s_X1_keepInMind (co_hs hx) (co_wo hx) (by omega) h.2.1 hV.2.1 h.1 hV.1.1) ?_
  rintro v μ' ⟨I1, rfl, rfl, c1, f1⟩; have hA1 := ag_congr h.1 hV.1.1 (fun a a1 a2 => f1 a (by omega))
  refine px_aload_0 dX7_cart_11 ?_
  refine px_aload_0 dX7_cart_12 ?_
  refine gf_X7_10 rfl dX7_cart_13 (by first | assumption | exact co_a hx | exact co_r0 hx | exact co_r1 hx | exact co_r2 hx | exact co_r3 hx | exact co_r4 hx | exact co_r5 hx | exact co_r6 hx | exact co_r7 hx | exact co_r8 hx | exact co_w hx | exact co_h hx) (by first | assumption | exact co_a hx | exact co_r0 hx | exact co_r1 hx | exact co_r2 hx | exact co_r3 hx | exact co_r4 hx | exact co_r5 hx | exact co_r6 hx | exact co_r7 hx | exact co_r8 hx | exact co_w hx | exact co_h hx) ?_
  refine px_iload_1 dX7_cart_16 ?_
  refine px_iload_2 dX7_cart_17 ?_
  refine cg_X7_101 rfl ⟨⟨Nat.le_of_ble_eq_true rfl, Nat.le_of_ble_eq_true rfl⟩, Nat.le_of_ble_eq_true rfl, Nat.le_of_ble_eq_true rfl, Nat.le_of_ble_eq_true rfl⟩ (by first | assumption | exact co_a hx | exact co_r0 hx | exact co_r1 hx | exact co_r2 hx | exact co_r3 hx | exact co_r4 hx | exact co_r5 hx | exact co_r6 hx | exact co_r7 hx | exact co_r8 hx | exact co_w hx | exact co_h hx) dX7_cart_18 (s_X6_addCart (co_wo hx) hA1 hV.1.1) ?_
  rintro v μ' ⟨I2, rfl, rfl, hA2, f2⟩
  refine cg_X7_71 rfl ⟨⟨Nat.le_of_ble_eq_true rfl, Nat.le_of_ble_eq_true rfl⟩, Nat.le_of_ble_eq_true rfl, Nat.le_of_ble_eq_true rfl, Nat.le_of_ble_eq_true rfl⟩ (by first | assumption | exact co_a hx | exact co_r0 hx | exact co_r1 hx | exact co_r2 hx | exact co_r3 hx | exact co_r4 hx | exact co_r5 hx | exact co_r6 hx | exact co_r7 hx | exact co_r8 hx | exact co_w hx | exact co_h hx) dX7_cart_21 (s_X7_recorded hx (ch1_congr c1 hV.2.1 hV.1 (fun a a1 a2 => f2 a (by omega))) hV.2.1 hV.1) ?_
  rintro v μ' ⟨rfl, hu⟩
  refine px_iret dX7_cart_24 ?_
  exact cchg_end h hV (e_cart hV.1) (V_addcart hV.1) f1 c1 hA2 f2 ⟨rfl, hu⟩
theorem s_X7_buy {a b : Int32} (hx : px_co G T R x) (hG : px_tabs G) (h : px_CI I x A) (hV : px_AV A) : px_C l G 3 0 0 mX7_buy [.ref x, .int a, .int b] (T, I, J, R) (px_Qx T I J R x (.int (f_buy A.1 a b).1) (a_chg A (f_buy A.1 a b))) := by
  refine px_met (M := mX7_buy) ([some (.ref x), some (.int a), some (.int b)]) (by decide +kernel) rfl (Nat.le_of_ble_eq_true rfl) rfl ?_
  refine px_aload_0 dX7_buy_0 ?_
  refine gf_X7_19 rfl dX7_buy_1 (by first | assumption | exact co_a hx | exact co_r0 hx | exact co_r1 hx | exact co_r2 hx | exact co_r3 hx | exact co_r4 hx | exact co_r5 hx | exact co_r6 hx | exact co_r7 hx | exact co_r8 hx | exact co_w hx | exact co_h hx) (by first | assumption | exact co_a hx | exact co_r0 hx | exact co_r1 hx | exact co_r2 hx | exact co_r3 hx | exact co_r4 hx | exact co_r5 hx | exact co_r6 hx | exact co_r7 hx | exact co_r8 hx | exact co_w hx | exact co_h hx) ?_
  refine px_aload_0 dX7_buy_4 ?_
  refine gf_X7_10 rfl dX7_buy_5 (by first | assumption | exact co_a hx | exact co_r0 hx | exact co_r1 hx | exact co_r2 hx | exact co_r3 hx | exact co_r4 hx | exact co_r5 hx | exact co_r6 hx | exact co_r7 hx | exact co_r8 hx | exact co_w hx | exact co_h hx) (by first | assumption | exact co_a hx | exact co_r0 hx | exact co_r1 hx | exact co_r2 hx | exact co_r3 hx | exact co_r4 hx | exact co_r5 hx | exact co_r6 hx | exact co_r7 hx | exact co_r8 hx | exact co_w hx | exact co_h hx) ?_
  refine cg_X7_63 rfl ⟨⟨Nat.le_of_ble_eq_true rfl, Nat.le_of_ble_eq_true rfl⟩, Nat.le_of_ble_eq_true rfl, Nat.le_of_ble_eq_true rfl, Nat.le_of_ble_eq_true rfl⟩ (by first | assumption | exact co_a hx | exact co_r0 hx | exact co_r1 hx | exact co_r2 hx | exact co_r3 hx | exact co_r4 hx | exact co_r5 hx | exact co_r6 hx | exact co_r7 hx | exact co_r8 hx | exact co_w hx | exact co_h hx) dX7_buy_8 (s_X1_keepInMind (co_hs hx) (co_wo hx) (by omega) h.2.1 hV.2.1 h.1 hV.1.1) ?_
  rintro v μ' ⟨I1, rfl, rfl, c1, f1⟩; have hA1 := ag_congr h.1 hV.1.1 (fun a a1 a2 => f1 a (by omega))
  refine px_aload_0 dX7_buy_11 ?_
  refine px_aload_0 dX7_buy_12 ?_
  refine gf_X7_10 rfl dX7_buy_13 (by first | assumption | exact co_a hx | exact co_r0 hx | exact co_r1 hx | exact co_r2 hx | exact co_r3 hx | exact co_r4 hx | exact co_r5 hx | exact co_r6 hx | exact co_r7 hx | exact co_r8 hx | exact co_w hx | exact co_h hx) (by first | assumption | exact co_a hx | exact co_r0 hx | exact co_r1 hx | exact co_r2 hx | exact co_r3 hx | exact co_r4 hx | exact co_r5 hx | exact co_r6 hx | exact co_r7 hx | exact co_r8 hx | exact co_w hx | exact co_h hx) ?_
  refine px_iload_1 dX7_buy_16 ?_
  refine px_iload_2 dX7_buy_17 ?_
  refine cg_X7_104 rfl ⟨⟨Nat.le_of_ble_eq_true rfl, Nat.le_of_ble_eq_true rfl⟩, Nat.le_of_ble_eq_true rfl, Nat.le_of_ble_eq_true rfl, Nat.le_of_ble_eq_true rfl⟩ (by first | assumption | exact co_a hx | exact co_r0 hx | exact co_r1 hx | exact co_r2 hx | exact co_r3 hx | exact co_r4 hx | exact co_r5 hx | exact co_r6 hx | exact co_r7 hx | exact co_r8 hx | exact co_w hx | exact co_h hx) dX7_buy_18 (s_X6_buySacks (co_wo hx) hA1 hV.1.1) ?_
  rintro v μ' ⟨I2, rfl, rfl, hA2, f2⟩
  refine cg_X7_71 rfl ⟨⟨Nat.le_of_ble_eq_true rfl, Nat.le_of_ble_eq_true rfl⟩, Nat.le_of_ble_eq_true rfl, Nat.le_of_ble_eq_true rfl, Nat.le_of_ble_eq_true rfl⟩ (by first | assumption | exact co_a hx | exact co_r0 hx | exact co_r1 hx | exact co_r2 hx | exact co_r3 hx | exact co_r4 hx | exact co_r5 hx | exact co_r6 hx | exact co_r7 hx | exact co_r8 hx | exact co_w hx | exact co_h hx) dX7_buy_21 (s_X7_recorded hx (ch1_congr c1 hV.2.1 hV.1 (fun a a1 a2 => f2 a (by omega))) hV.2.1 hV.1) ?_
  rintro v μ' ⟨rfl, hu⟩
  refine px_iret dX7_buy_24 ?_
  exact cchg_end h hV (e_buy hV.1) (V_buy hV.1) f1 c1 hA2 f2 ⟨rfl, hu⟩
theorem s_X7_sell {a b : Int32} (hx : px_co G T R x) (hG : px_tabs G) (h : px_CI I x A) (hV : px_AV A) : px_C l G 3 0 0 mX7_sell [.ref x, .int a, .int b] (T, I, J, R) (px_Qx T I J R x (.int (f_sell A.1 a b).1) (a_chg A (f_sell A.1 a b))) := by
  refine px_met (M := mX7_sell) ([some (.ref x), some (.int a), some (.int b)]) (by decide +kernel) rfl (Nat.le_of_ble_eq_true rfl) rfl ?_
  refine px_aload_0 dX7_sell_0 ?_
  refine gf_X7_19 rfl dX7_sell_1 (by first | assumption | exact co_a hx | exact co_r0 hx | exact co_r1 hx | exact co_r2 hx | exact co_r3 hx | exact co_r4 hx | exact co_r5 hx | exact co_r6 hx | exact co_r7 hx | exact co_r8 hx | exact co_w hx | exact co_h hx) (by first | assumption | exact co_a hx | exact co_r0 hx | exact co_r1 hx | exact co_r2 hx | exact co_r3 hx | exact co_r4 hx | exact co_r5 hx | exact co_r6 hx | exact co_r7 hx | exact co_r8 hx | exact co_w hx | exact co_h hx) ?_
  refine px_aload_0 dX7_sell_4 ?_
  refine gf_X7_10 rfl dX7_sell_5 (by first | assumption | exact co_a hx | exact co_r0 hx | exact co_r1 hx | exact co_r2 hx | exact co_r3 hx | exact co_r4 hx | exact co_r5 hx | exact co_r6 hx | exact co_r7 hx | exact co_r8 hx | exact co_w hx | exact co_h hx) (by first | assumption | exact co_a hx | exact co_r0 hx | exact co_r1 hx | exact co_r2 hx | exact co_r3 hx | exact co_r4 hx | exact co_r5 hx | exact co_r6 hx | exact co_r7 hx | exact co_r8 hx | exact co_w hx | exact co_h hx) ?_
  refine cg_X7_63 rfl ⟨⟨Nat.le_of_ble_eq_true rfl, Nat.le_of_ble_eq_true rfl⟩, Nat.le_of_ble_eq_true rfl, Nat.le_of_ble_eq_true rfl, Nat.le_of_ble_eq_true rfl⟩ (by first | assumption | exact co_a hx | exact co_r0 hx | exact co_r1 hx | exact co_r2 hx | exact co_r3 hx | exact co_r4 hx | exact co_r5 hx | exact co_r6 hx | exact co_r7 hx | exact co_r8 hx | exact co_w hx | exact co_h hx) dX7_sell_8 (s_X1_keepInMind (co_hs hx) (co_wo hx) (by omega) h.2.1 hV.2.1 h.1 hV.1.1) ?_
  rintro v μ' ⟨I1, rfl, rfl, c1, f1⟩; have hA1 := ag_congr h.1 hV.1.1 (fun a a1 a2 => f1 a (by omega))
  refine px_aload_0 dX7_sell_11 ?_
  refine px_aload_0 dX7_sell_12 ?_
  refine gf_X7_10 rfl dX7_sell_13 (by first | assumption | exact co_a hx | exact co_r0 hx | exact co_r1 hx | exact co_r2 hx | exact co_r3 hx | exact co_r4 hx | exact co_r5 hx | exact co_r6 hx | exact co_r7 hx | exact co_r8 hx | exact co_w hx | exact co_h hx) (by first | assumption | exact co_a hx | exact co_r0 hx | exact co_r1 hx | exact co_r2 hx | exact co_r3 hx | exact co_r4 hx | exact co_r5 hx | exact co_r6 hx | exact co_r7 hx | exact co_r8 hx | exact co_w hx | exact co_h hx) ?_
  refine px_iload_1 dX7_sell_16 ?_
  refine px_iload_2 dX7_sell_17 ?_
  refine cg_X7_107 rfl ⟨⟨Nat.le_of_ble_eq_true rfl, Nat.le_of_ble_eq_true rfl⟩, Nat.le_of_ble_eq_true rfl, Nat.le_of_ble_eq_true rfl, Nat.le_of_ble_eq_true rfl⟩ (by first | assumption | exact co_a hx | exact co_r0 hx | exact co_r1 hx | exact co_r2 hx | exact co_r3 hx | exact co_r4 hx | exact co_r5 hx | exact co_r6 hx | exact co_r7 hx | exact co_r8 hx | exact co_w hx | exact co_h hx) dX7_sell_18 (s_X6_sellSacks (co_wo hx) hA1 hV.1.1) ?_
  rintro v μ' ⟨I2, rfl, rfl, hA2, f2⟩
  refine cg_X7_71 rfl ⟨⟨Nat.le_of_ble_eq_true rfl, Nat.le_of_ble_eq_true rfl⟩, Nat.le_of_ble_eq_true rfl, Nat.le_of_ble_eq_true rfl, Nat.le_of_ble_eq_true rfl⟩ (by first | assumption | exact co_a hx | exact co_r0 hx | exact co_r1 hx | exact co_r2 hx | exact co_r3 hx | exact co_r4 hx | exact co_r5 hx | exact co_r6 hx | exact co_r7 hx | exact co_r8 hx | exact co_w hx | exact co_h hx) dX7_sell_21 (s_X7_recorded hx (ch1_congr c1 hV.2.1 hV.1 (fun a a1 a2 => f2 a (by omega))) hV.2.1 hV.1) ?_
  rintro v μ' ⟨rfl, hu⟩
  refine px_iret dX7_sell_24 ?_
  exact cchg_end h hV (e_sell hV.1) (V_sell hV.1) f1 c1 hA2 f2 ⟨rfl, hu⟩
theorem s_X7_road {a b t : Int32} (hx : px_co G T R x) (hG : px_tabs G) (h : px_CI I x A) (hV : px_AV A) : px_C l G 3 0 0 mX7_road [.ref x, .int a, .int b, .int t] (T, I, J, R) (px_Qx T I J R x (.int (f_road A.1 a b t).1) (a_chg A (f_road A.1 a b t))) := by
  refine px_met (M := mX7_road) ([some (.ref x), some (.int a), some (.int b), some (.int t)]) (by decide +kernel) rfl (Nat.le_of_ble_eq_true rfl) rfl ?_
  refine px_aload_0 dX7_road_0 ?_
  refine gf_X7_19 rfl dX7_road_1 (by first | assumption | exact co_a hx | exact co_r0 hx | exact co_r1 hx | exact co_r2 hx | exact co_r3 hx | exact co_r4 hx | exact co_r5 hx | exact co_r6 hx | exact co_r7 hx | exact co_r8 hx | exact co_w hx | exact co_h hx) (by first | assumption | exact co_a hx | exact co_r0 hx | exact co_r1 hx | exact co_r2 hx | exact co_r3 hx | exact co_r4 hx | exact co_r5 hx | exact co_r6 hx | exact co_r7 hx | exact co_r8 hx | exact co_w hx | exact co_h hx) ?_
  refine px_aload_0 dX7_road_4 ?_
  refine gf_X7_10 rfl dX7_road_5 (by first | assumption | exact co_a hx | exact co_r0 hx | exact co_r1 hx | exact co_r2 hx | exact co_r3 hx | exact co_r4 hx | exact co_r5 hx | exact co_r6 hx | exact co_r7 hx | exact co_r8 hx | exact co_w hx | exact co_h hx) (by first | assumption | exact co_a hx | exact co_r0 hx | exact co_r1 hx | exact co_r2 hx | exact co_r3 hx | exact co_r4 hx | exact co_r5 hx | exact co_r6 hx | exact co_r7 hx | exact co_r8 hx | exact co_w hx | exact co_h hx) ?_
  refine cg_X7_63 rfl ⟨⟨Nat.le_of_ble_eq_true rfl, Nat.le_of_ble_eq_true rfl⟩, Nat.le_of_ble_eq_true rfl, Nat.le_of_ble_eq_true rfl, Nat.le_of_ble_eq_true rfl⟩ (by first | assumption | exact co_a hx | exact co_r0 hx | exact co_r1 hx | exact co_r2 hx | exact co_r3 hx | exact co_r4 hx | exact co_r5 hx | exact co_r6 hx | exact co_r7 hx | exact co_r8 hx | exact co_w hx | exact co_h hx) dX7_road_8 (s_X1_keepInMind (co_hs hx) (co_wo hx) (by omega) h.2.1 hV.2.1 h.1 hV.1.1) ?_
  rintro v μ' ⟨I1, rfl, rfl, c1, f1⟩; have hA1 := ag_congr h.1 hV.1.1 (fun a a1 a2 => f1 a (by omega))
  refine px_aload_0 dX7_road_11 ?_
  refine px_aload_0 dX7_road_12 ?_
  refine gf_X7_10 rfl dX7_road_13 (by first | assumption | exact co_a hx | exact co_r0 hx | exact co_r1 hx | exact co_r2 hx | exact co_r3 hx | exact co_r4 hx | exact co_r5 hx | exact co_r6 hx | exact co_r7 hx | exact co_r8 hx | exact co_w hx | exact co_h hx) (by first | assumption | exact co_a hx | exact co_r0 hx | exact co_r1 hx | exact co_r2 hx | exact co_r3 hx | exact co_r4 hx | exact co_r5 hx | exact co_r6 hx | exact co_r7 hx | exact co_r8 hx | exact co_w hx | exact co_h hx) ?_
  refine px_iload_1 dX7_road_16 ?_
  refine px_iload_2 dX7_road_17 ?_
  refine px_iload_3 dX7_road_18 ?_
  refine cg_X7_75 rfl ⟨⟨Nat.le_of_ble_eq_true rfl, Nat.le_of_ble_eq_true rfl⟩, Nat.le_of_ble_eq_true rfl, Nat.le_of_ble_eq_true rfl, Nat.le_of_ble_eq_true rfl⟩ (by first | assumption | exact co_a hx | exact co_r0 hx | exact co_r1 hx | exact co_r2 hx | exact co_r3 hx | exact co_r4 hx | exact co_r5 hx | exact co_r6 hx | exact co_r7 hx | exact co_r8 hx | exact co_w hx | exact co_h hx) dX7_road_19 (s_X6_addRoad (co_wo hx) hA1 hV.1.1) ?_
  rintro v μ' ⟨I2, rfl, rfl, hA2, f2⟩
  refine cg_X7_71 rfl ⟨⟨Nat.le_of_ble_eq_true rfl, Nat.le_of_ble_eq_true rfl⟩, Nat.le_of_ble_eq_true rfl, Nat.le_of_ble_eq_true rfl, Nat.le_of_ble_eq_true rfl⟩ (by first | assumption | exact co_a hx | exact co_r0 hx | exact co_r1 hx | exact co_r2 hx | exact co_r3 hx | exact co_r4 hx | exact co_r5 hx | exact co_r6 hx | exact co_r7 hx | exact co_r8 hx | exact co_w hx | exact co_h hx) dX7_road_22 (s_X7_recorded hx (ch1_congr c1 hV.2.1 hV.1 (fun a a1 a2 => f2 a (by omega))) hV.2.1 hV.1) ?_
  rintro v μ' ⟨rfl, hu⟩
  refine px_iret dX7_road_25 ?_
  exact cchg_end h hV (e_road hV.1) (V_addroad hV.1) f1 c1 hA2 f2 ⟨rfl, hu⟩
theorem s_X7_go {a b t : Int32} (hx : px_co G T R x) (hG : px_tabs G) (h : px_CI I x A) (hV : px_AV A) : px_C l G 5 0 0 mX7_go [.ref x, .int a, .int b, .int t] (T, I, J, R) (px_Qx T I J R x (.int (f_go A.1 a b t).1) (a_chg A (f_go A.1 a b t))) := by
  refine px_met (M := mX7_go) ([some (.ref x), some (.int a), some (.int b), some (.int t)]) (by decide +kernel) rfl (Nat.le_of_ble_eq_true rfl) rfl ?_
  refine px_aload_0 dX7_go_0 ?_
  refine gf_X7_19 rfl dX7_go_1 (by first | assumption | exact co_a hx | exact co_r0 hx | exact co_r1 hx | exact co_r2 hx | exact co_r3 hx | exact co_r4 hx | exact co_r5 hx | exact co_r6 hx | exact co_r7 hx | exact co_r8 hx | exact co_w hx | exact co_h hx) (by first | assumption | exact co_a hx | exact co_r0 hx | exact co_r1 hx | exact co_r2 hx | exact co_r3 hx | exact co_r4 hx | exact co_r5 hx | exact co_r6 hx | exact co_r7 hx | exact co_r8 hx | exact co_w hx | exact co_h hx) ?_
  refine px_aload_0 dX7_go_4 ?_
  refine gf_X7_10 rfl dX7_go_5 (by first | assumption | exact co_a hx | exact co_r0 hx | exact co_r1 hx | exact co_r2 hx | exact co_r3 hx | exact co_r4 hx | exact co_r5 hx | exact co_r6 hx | exact co_r7 hx | exact co_r8 hx | exact co_w hx | exact co_h hx) (by first | assumption | exact co_a hx | exact co_r0 hx | exact co_r1 hx | exact co_r2 hx | exact co_r3 hx | exact co_r4 hx | exact co_r5 hx | exact co_r6 hx | exact co_r7 hx | exact co_r8 hx | exact co_w hx | exact co_h hx) ?_
  refine cg_X7_63 rfl ⟨⟨Nat.le_of_ble_eq_true rfl, Nat.le_of_ble_eq_true rfl⟩, Nat.le_of_ble_eq_true rfl, Nat.le_of_ble_eq_true rfl, Nat.le_of_ble_eq_true rfl⟩ (by first | assumption | exact co_a hx | exact co_r0 hx | exact co_r1 hx | exact co_r2 hx | exact co_r3 hx | exact co_r4 hx | exact co_r5 hx | exact co_r6 hx | exact co_r7 hx | exact co_r8 hx | exact co_w hx | exact co_h hx) dX7_go_8 (s_X1_keepInMind (co_hs hx) (co_wo hx) (by omega) h.2.1 hV.2.1 h.1 hV.1.1) ?_
  rintro v μ' ⟨I1, rfl, rfl, c1, f1⟩; have hA1 := ag_congr h.1 hV.1.1 (fun a a1 a2 => f1 a (by omega))
  refine px_aload_0 dX7_go_11 ?_
  refine px_aload_0 dX7_go_12 ?_
  refine gf_X7_10 rfl dX7_go_13 (by first | assumption | exact co_a hx | exact co_r0 hx | exact co_r1 hx | exact co_r2 hx | exact co_r3 hx | exact co_r4 hx | exact co_r5 hx | exact co_r6 hx | exact co_r7 hx | exact co_r8 hx | exact co_w hx | exact co_h hx) (by first | assumption | exact co_a hx | exact co_r0 hx | exact co_r1 hx | exact co_r2 hx | exact co_r3 hx | exact co_r4 hx | exact co_r5 hx | exact co_r6 hx | exact co_r7 hx | exact co_r8 hx | exact co_w hx | exact co_h hx) ?_
  refine px_iload_1 dX7_go_16 ?_
  refine px_iload_2 dX7_go_17 ?_
  refine px_iload_3 dX7_go_18 ?_
  refine cg_X7_110 rfl ⟨⟨Nat.le_of_ble_eq_true rfl, Nat.le_of_ble_eq_true rfl⟩, Nat.le_of_ble_eq_true rfl, Nat.le_of_ble_eq_true rfl, Nat.le_of_ble_eq_true rfl⟩ (by first | assumption | exact co_a hx | exact co_r0 hx | exact co_r1 hx | exact co_r2 hx | exact co_r3 hx | exact co_r4 hx | exact co_r5 hx | exact co_r6 hx | exact co_r7 hx | exact co_r8 hx | exact co_w hx | exact co_h hx) dX7_go_19 (s_X6_drive (co_wo hx) hA1 hV.1.1) ?_
  rintro v μ' ⟨I2, rfl, rfl, hA2, f2⟩
  refine cg_X7_71 rfl ⟨⟨Nat.le_of_ble_eq_true rfl, Nat.le_of_ble_eq_true rfl⟩, Nat.le_of_ble_eq_true rfl, Nat.le_of_ble_eq_true rfl, Nat.le_of_ble_eq_true rfl⟩ (by first | assumption | exact co_a hx | exact co_r0 hx | exact co_r1 hx | exact co_r2 hx | exact co_r3 hx | exact co_r4 hx | exact co_r5 hx | exact co_r6 hx | exact co_r7 hx | exact co_r8 hx | exact co_w hx | exact co_h hx) dX7_go_22 (s_X7_recorded hx (ch1_congr c1 hV.2.1 hV.1 (fun a a1 a2 => f2 a (by omega))) hV.2.1 hV.1) ?_
  rintro v μ' ⟨rfl, hu⟩
  refine px_iret dX7_go_25 ?_
  exact cchg_end h hV (e_go hV.1) (V_go hV.1) f1 c1 hA2 f2 ⟨rfl, hu⟩
/-- only the pad of the class's object is another -/
theorem s_X7_undo (hx : px_co G T R x) (h : px_CI I x A) (hV : px_AV A) : px_C l G 3 0 0 mX7_undo [.ref x] (T, I, J, R) (if A.2.1.1 = 0 then px_Qx T I J R x (.int (-5)) A else px_Qx T I J R x (.int (nI (A.2.1.1 - 1))) (f_mix A.1 (A.2.1.2 (A.2.1.1 - 1)), (A.2.1.1 - 1, A.2.1.2), A.2.2)) := by
  obtain ⟨h1, ⟨o, ho, b1, b2, b3, b4⟩, hC0⟩ := id h
  refine px_met (M := mX7_undo) ([some (.ref x)]) (by decide +kernel) rfl (Nat.le_of_ble_eq_true rfl) rfl ?_
  by_cases hk : A.2.1.1 = 0
  · rw [if_pos hk]
    refine px_aload_0 dX7_undo_0 ?_
    refine gf_X7_19 rfl dX7_undo_1 (by first | assumption | exact co_a hx | exact co_r0 hx | exact co_r1 hx | exact co_r2 hx | exact co_r3 hx | exact co_r4 hx | exact co_r5 hx | exact co_r6 hx | exact co_r7 hx | exact co_r8 hx | exact co_w hx | exact co_h hx) (by first | assumption | exact co_a hx | exact co_r0 hx | exact co_r1 hx | exact co_r2 hx | exact co_r3 hx | exact co_r4 hx | exact co_r5 hx | exact co_r6 hx | exact co_r7 hx | exact co_r8 hx | exact co_w hx | exact co_h hx) ?_
    refine gf_X7_263 rfl dX7_undo_4 (by first | assumption | exact co_a hx | exact co_r0 hx | exact co_r1 hx | exact co_r2 hx | exact co_r3 hx | exact co_r4 hx | exact co_r5 hx | exact co_r6 hx | exact co_r7 hx | exact co_r8 hx | exact co_w hx | exact co_h hx) ?_
    rw [b2]
    refine px_if_ne (tgt := 13) dX7_undo_7 (by decide) (fun h7 => (by first | exact absurd h7 ((by rw [hk]; rfl)) | exact absurd ((by rw [hk]; rfl)) h7)) (fun h7 => ?_)
    refine px_bipush (-5) dX7_undo_10 rfl ?_
    refine px_iret dX7_undo_12 ?_
    exact ⟨rfl, I, J, rfl, h, fun _ _ => rfl, fun _ _ => rfl⟩
  · rw [if_neg hk]
    obtain ⟨k, ek⟩ : ∃ k, A.2.1.1 = k + 1 := ⟨A.2.1.1 - 1, by omega⟩
    have e1 : A.2.1.1 - 1 = k := by omega
    rw [e1]
    have hnz : ¬ nI A.2.1.1 = 0 := nI_ne0 (by omega) (by omega)
    have e2 : nI A.2.1.1 - 1 = nI k := by rw [ek, nI_pred]
    have hp : (o + k) % 7 < 7 := Nat.mod_lt _ (by decide)
    have hVk := hV.2.1 k (by omega)
    have htb : px_C l G 2 0 0 mX1_takeBack [.ref (x + 26), .ref (x + 1)] (T, I, J, R) (fun v μ' => v = none ∧ ∃ I' : px_I, μ' = (T, I', J, R) ∧ px_ag I' (x + 1) (A.2.1.2 k) ∧ ∀ a, (a < x + 1 ∨ x + 1 + 25 ≤ a) → I' a = px_up I (x + 26) 2 (nI k) a) := by
      refine px_met (M := mX1_takeBack) ([some (.ref (x + 26)), some (.ref (x + 1))]) (by decide +kernel) rfl (Nat.le_of_ble_eq_true rfl) rfl ?_
      refine px_aload_0 dX1_takeBack_0 ?_
      refine px_dup dX1_takeBack_1 rfl ?_
      refine gf_X1_21 rfl dX1_takeBack_2 (by first | assumption | exact co_a hx | exact co_r0 hx | exact co_r1 hx | exact co_r2 hx | exact co_r3 hx | exact co_r4 hx | exact co_r5 hx | exact co_r6 hx | exact co_r7 hx | exact co_r8 hx | exact co_w hx | exact co_h hx) ?_
      rw [b2]
      refine px_iconst (1) dX1_takeBack_5 rfl ?_
      refine px_isub dX1_takeBack_6 ?_
      rw [e2]
      refine pf_X1_21 rfl dX1_takeBack_7 (by first | assumption | exact co_a hx | exact co_r0 hx | exact co_r1 hx | exact co_r2 hx | exact co_r3 hx | exact co_r4 hx | exact co_r5 hx | exact co_r6 hx | exact co_r7 hx | exact co_r8 hx | exact co_w hx | exact co_h hx) ?_
      refine px_aload_1 dX1_takeBack_10 ?_
      refine px_aload_0 dX1_takeBack_11 ?_
      refine gf_X1_11 rfl dX1_takeBack_12 (by first | exact co_h hx | exact hs_r (co_hs hx)) (by first | exact co_h hx | exact hs_r (co_hs hx)) ?_
      refine px_aload_0 dX1_takeBack_15 ?_
      refine px_aload_0 dX1_takeBack_16 ?_
      refine gf_X1_21 rfl dX1_takeBack_17 (by first | assumption | exact co_a hx | exact co_r0 hx | exact co_r1 hx | exact co_r2 hx | exact co_r3 hx | exact co_r4 hx | exact co_r5 hx | exact co_r6 hx | exact co_r7 hx | exact co_r8 hx | exact co_w hx | exact co_h hx) ?_
      rw [px_up_self]
      refine cd_X1_25 rfl ⟨⟨Nat.le_of_ble_eq_true rfl, Nat.le_of_ble_eq_true rfl⟩, Nat.le_of_ble_eq_true rfl, Nat.le_of_ble_eq_true rfl, Nat.le_of_ble_eq_true rfl⟩ (by first | assumption | exact co_a hx | exact co_r0 hx | exact co_r1 hx | exact co_r2 hx | exact co_r3 hx | exact co_r4 hx | exact co_r5 hx | exact co_r6 hx | exact co_r7 hx | exact co_r8 hx | exact co_w hx | exact co_h hx) dX1_takeBack_20 (s_X1_placeBehind (hs_a (co_hs hx)) (by rw [px_up_nj (by decide)]; exact b1) rfl (by omega)) ?_
      refine px_aaldN dX1_takeBack_23 (by first | exact hs_ra (co_hs hx) | exact hs_rr (co_hs hx) hp) (by exact rfl) (by omega) (by first | exact hs_ra (co_hs hx) | exact hs_rr (co_hs hx) hp) ?_
      refine cg_X1_29 rfl ⟨⟨Nat.le_of_ble_eq_true rfl, Nat.le_of_ble_eq_true rfl⟩, Nat.le_of_ble_eq_true rfl, Nat.le_of_ble_eq_true rfl, Nat.le_of_ble_eq_true rfl⟩ (by first | assumption | exact co_a hx | exact co_r0 hx | exact co_r1 hx | exact co_r2 hx | exact co_r3 hx | exact co_r4 hx | exact co_r5 hx | exact co_r6 hx | exact co_r7 hx | exact co_r8 hx | exact co_w hx | exact co_h hx) dX1_takeBack_24 (s_X6_copyFrom (co_wo hx) (hs_w (co_hs hx) hp) (by omega) (ag_congr (b4 k (by omega)) hVk.1 (fun a a1 a2 => px_up_ne (by omega))) hVk.1) ?_
      rintro v μ' ⟨I', rfl, rfl, k1, k2⟩
      refine px_vret dX1_takeBack_27 ?_
      exact ⟨rfl, I', rfl, k1, k2⟩
    refine px_aload_0 dX7_undo_0 ?_
    refine gf_X7_19 rfl dX7_undo_1 (by first | assumption | exact co_a hx | exact co_r0 hx | exact co_r1 hx | exact co_r2 hx | exact co_r3 hx | exact co_r4 hx | exact co_r5 hx | exact co_r6 hx | exact co_r7 hx | exact co_r8 hx | exact co_w hx | exact co_h hx) (by first | assumption | exact co_a hx | exact co_r0 hx | exact co_r1 hx | exact co_r2 hx | exact co_r3 hx | exact co_r4 hx | exact co_r5 hx | exact co_r6 hx | exact co_r7 hx | exact co_r8 hx | exact co_w hx | exact co_h hx) ?_
    refine gf_X7_263 rfl dX7_undo_4 (by first | assumption | exact co_a hx | exact co_r0 hx | exact co_r1 hx | exact co_r2 hx | exact co_r3 hx | exact co_r4 hx | exact co_r5 hx | exact co_r6 hx | exact co_r7 hx | exact co_r8 hx | exact co_w hx | exact co_h hx) ?_
    rw [b2]
    refine px_if_ne (tgt := 13) dX7_undo_7 (by decide) (fun h7 => ?_) (fun h7 => (by first | exact absurd (hnz) h7 | exact absurd h7 (hnz)))
    refine px_aload_0 dX7_undo_13 ?_
    refine gf_X7_19 rfl dX7_undo_14 (by first | assumption | exact co_a hx | exact co_r0 hx | exact co_r1 hx | exact co_r2 hx | exact co_r3 hx | exact co_r4 hx | exact co_r5 hx | exact co_r6 hx | exact co_r7 hx | exact co_r8 hx | exact co_w hx | exact co_h hx) (by first | assumption | exact co_a hx | exact co_r0 hx | exact co_r1 hx | exact co_r2 hx | exact co_r3 hx | exact co_r4 hx | exact co_r5 hx | exact co_r6 hx | exact co_r7 hx | exact co_r8 hx | exact co_w hx | exact co_h hx) ?_
    refine px_aload_0 dX7_undo_17 ?_
    refine gf_X7_10 rfl dX7_undo_18 (by first | assumption | exact co_a hx | exact co_r0 hx | exact co_r1 hx | exact co_r2 hx | exact co_r3 hx | exact co_r4 hx | exact co_r5 hx | exact co_r6 hx | exact co_r7 hx | exact co_r8 hx | exact co_w hx | exact co_h hx) (by first | assumption | exact co_a hx | exact co_r0 hx | exact co_r1 hx | exact co_r2 hx | exact co_r3 hx | exact co_r4 hx | exact co_r5 hx | exact co_r6 hx | exact co_r7 hx | exact co_r8 hx | exact co_w hx | exact co_h hx) ?_
    refine cg_X7_318 rfl ⟨⟨Nat.le_of_ble_eq_true rfl, Nat.le_of_ble_eq_true rfl⟩, Nat.le_of_ble_eq_true rfl, Nat.le_of_ble_eq_true rfl, Nat.le_of_ble_eq_true rfl⟩ (by first | assumption | exact co_a hx | exact co_r0 hx | exact co_r1 hx | exact co_r2 hx | exact co_r3 hx | exact co_r4 hx | exact co_r5 hx | exact co_r6 hx | exact co_r7 hx | exact co_r8 hx | exact co_w hx | exact co_h hx) dX7_undo_21 (htb) ?_
    rintro v μ' ⟨rfl, I', rfl, k1, k2⟩
    refine px_aload_0 dX7_undo_24 ?_
    refine gf_X7_19 rfl dX7_undo_25 (by first | assumption | exact co_a hx | exact co_r0 hx | exact co_r1 hx | exact co_r2 hx | exact co_r3 hx | exact co_r4 hx | exact co_r5 hx | exact co_r6 hx | exact co_r7 hx | exact co_r8 hx | exact co_w hx | exact co_h hx) (by first | assumption | exact co_a hx | exact co_r0 hx | exact co_r1 hx | exact co_r2 hx | exact co_r3 hx | exact co_r4 hx | exact co_r5 hx | exact co_r6 hx | exact co_r7 hx | exact co_r8 hx | exact co_w hx | exact co_h hx) ?_
    refine gf_X7_263 rfl dX7_undo_28 (by first | assumption | exact co_a hx | exact co_r0 hx | exact co_r1 hx | exact co_r2 hx | exact co_r3 hx | exact co_r4 hx | exact co_r5 hx | exact co_r6 hx | exact co_r7 hx | exact co_r8 hx | exact co_w hx | exact co_h hx) ?_
    rw [k2 _ (by omega), px_up_self]
    refine px_iret dX7_undo_31 ?_
    skip
    refine ⟨rfl, I', J, rfl, ⟨ag_mix k1 hVk.1 (fun q hq => if_pos hq), ⟨o, ho, ?_, ?_, by show k ≤ 6; omega, fun i hi => ?_⟩, C0_congr (A := A) hC0 hV (fun a a1 a2 => by rw [k2 a (by omega), px_up_ne (by omega)])⟩, fun a ha => by rw [k2 a (by omega), px_up_ne (by omega)], fun a ha => rfl⟩
    · rw [k2 _ (by omega), px_up_nj (by decide)]; exact b1
    · rw [k2 _ (by omega), px_up_self]
    · have hi2 : i < k := hi
      exact ag_congr (b4 i (by omega)) (hV.2.1 i (by omega)).1 (fun a a1 a2 => by rw [k2 a (by omega), px_up_ne (by omega)])
theorem VV93 (h : px_VV σ) : ¬ σ 93 < 0 := by
  rw [h.1.1.2.2.1]; exact nI_pos (by have := h.1.1.2.2.2; omega)
end COP
