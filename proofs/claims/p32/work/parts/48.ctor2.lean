/-! the constructors of History, SaltPrices, SaltPricesModel -/
section CT2
variable {l : Launch} {G : px_G} {T : px_T} {I : px_I} {J : px_J} {R : px_R} {μ : px_M} {x w a p h m : Nat} {σ : px_s}
theorem s_X1_init (hG : px_tab0 G) (hw : px_h G + T.1 = h + 1) (ha : px_at G T h 1 0) : px_C l G 3 176 1232 mX1_init [.ref h] (T, I, J, R) (px_Qn (T, I, J, R) h 176 (fun μ' => px_hs G μ'.1 μ'.2.2.2 h ∧ μ'.2.1 h 1 = 0 ∧ μ'.2.1 h 2 = 0)) := by
  refine px_met (M := mX1_init) ([some (.ref h), none]) (by decide +kernel) rfl (Nat.le_of_ble_eq_true rfl) rfl ?_
  generalize hQ : px_Qn (T, I, J, R) h 176 (fun μ' => px_hs G μ'.1 μ'.2.2.2 h ∧ μ'.2.1 h 1 = 0 ∧ μ'.2.1 h 2 = 0) = Q
  have L : ∀ d i (T1 : px_T) (I1 : px_I) (J1 : px_J) (R1 : px_R), i + d = 7 → T1.1 = T.1 + 1 + 25 * i → px_ke 0 h (T, I, J, R) (T1, I1, J1, R1) → px_at G T1 h 1 0 → R1 h 0 = some (h + 1) → px_at G T1 (h + 1) 14 7 → I1 h 1 = 0 ∧ I1 h 2 = 0 → (∀ p, p < i → R1 (h + 1) p = some (h + 2 + 25 * p) ∧ px_wo G T1 R1 (h + 2 + 25 * p)) → ∀ k n, k = 1 + 25 * i → n = 7 + 175 * i → (px_W l G yX1_init cX1_init 2 none (px_rm 3 176 1232) (px_Fn G Q 176 1232) 25 [some (.ref h), some (.int (nI i))] [] (k) (n) (T1, I1, J1, R1)) := by
    intro d
    induction d with
    | zero =>
      intro i T1 I1 J1 R1 hi c1 ke g1 g2 g3 g4 g5 k n hk hn
      obtain rfl : i = 7 := by omega
      subst hk hn
      refine px_iload_1 dX1_init_25 ?_
      refine px_aload_0 dX1_init_26 ?_
      refine gf_X1_11 rfl dX1_init_27 (by first | assumption | rfl) (by first | assumption | rfl) ?_
      refine px_alen14 dX1_init_30 (by first | assumption | rfl) rfl ?_
      refine px_icmp_ge (tgt := 53) dX1_init_31 (by decide) (fun h31 => ?_) (fun h31 => (by first | exact absurd ((by decide)) h31 | exact absurd h31 ((by decide))))
      refine px_vret dX1_init_53 ?_
      subst hQ
      exact ⟨rfl, _, _, _, _, rfl, c1, ke, ⟨g1, g2, g3, g5⟩, g4⟩
    | succ d ih =>
      intro i T1 I1 J1 R1 hi c1 ke g1 g2 g3 g4 g5 k n hk hn
      subst hk hn
      refine px_iload_1 dX1_init_25 ?_
      refine px_aload_0 dX1_init_26 ?_
      refine gf_X1_11 rfl dX1_init_27 (by first | assumption | rfl) (by first | assumption | rfl) ?_
      refine px_alen14 dX1_init_30 (by first | assumption | rfl) rfl ?_
      refine px_icmp_ge (tgt := 53) dX1_init_31 (by decide) (fun h31 => (by first | exact absurd h31 ((nI_ge (a := i) (b := 7) (by omega) (by omega))) | exact absurd ((nI_ge (a := i) (b := 7) (by omega) (by omega))) h31)) (fun h31 => ?_)
      refine px_aload_0 dX1_init_34 ?_
      refine gf_X1_11 rfl dX1_init_35 (by first | assumption | rfl) (by first | assumption | rfl) ?_
      refine px_iload_1 dX1_init_38 ?_
      refine nw_X1_9 (w := h + 2 + 25 * i) rfl (by (try dsimp only [px_nx, px_ty1, px_mm]); omega) (by refine ⟨?_, ?_⟩ <;> first | (dsimp only [px_rm]; omega) | exact Nat.le_of_ble_eq_true rfl) dX1_init_39 ?_
      refine nx_go (w := h + 2 + 25 * i) (by dsimp only; omega) ?_; rintro T2 I2 J2 R2 c2 k2 a2 z2 y2; dsimp only at c2
      refine px_dup dX1_init_42 rfl ?_
      refine cg_X1_24 rfl ⟨⟨Nat.le_of_ble_eq_true rfl, Nat.le_of_ble_eq_true rfl⟩, by first | (dsimp only [px_rm]; omega) | exact Nat.le_of_ble_eq_true rfl, by first | (dsimp only [px_rm]; omega) | exact Nat.le_of_ble_eq_true rfl, Nat.le_of_ble_eq_true rfl⟩ dX1_init_43 (s_X6_init (w := h + 2 + 25 * i) hG (by omega) a2) ?_
      rintro v μ' ⟨rfl, T3, I3, J3, R3, rfl, c3, k3, wo3, ag3⟩; dsimp only at c3 wo3 ag3
      refine px_aastN14 dX1_init_46 (by first | exact wo_a wo3 | exact at_ke (at_ke g3 k2 (by omega) (by omega)) k3 (by omega) (by omega)) (by first | exact wo_a wo3 | exact at_ke (at_ke g3 k2 (by omega) (by omega)) k3 (by omega) (by omega)) (by rfl) (by exact ⟨by omega, by decide⟩) ?_
      refine px_iinc_1 dX1_init_47 rfl ?_
      rw [inc_nI]
      refine px_goto (tgt := 25) dX1_init_50 (by decide) ?_
      skip
      refine ih (i + 1) T3 I3 J3 _ (by omega) (by omega) (ke_tr ke (ke_tr (ke_mo (by omega) (by omega) k2) (ke_tr (ke_mo (by omega) (by omega) k3) (ke_R (by omega))))) (at_ke (at_ke g1 k2 (by omega) (by omega)) k3 (by omega) (by omega)) (by rw [px_up_ne (by omega), ke_Ra k3 (by omega) (by omega), ke_Ra k2 (by omega) (by omega)]; exact g2) (at_ke (at_ke g3 k2 (by omega) (by omega)) k3 (by omega) (by omega)) (by rw [ke_Ia k3 (by omega) (by omega), ke_Ia k2 (by omega) (by omega)]; exact g4) (fun p hp => ?_) _ _ (by omega) (by omega)
      have hR : px_ke (h + 2) (h + 200) (T3, I3, J3, R3) (T3, I3, J3, px_up R3 (h + 1) i (some (h + 2 + 25 * i))) := ke_R (by omega)
      rcases (by omega : p < i ∨ p = i) with z | rfl
      · exact ⟨by rw [px_up_nj (by omega), ke_Ra k3 (by omega) (by omega), ke_Ra k2 (by omega) (by omega)]; exact (g5 p z).1, wo_ke (wo_ke (wo_ke (g5 p z).2 k2 (by omega) (by omega)) k3 (by omega) (by omega)) hR (by omega) (by omega)⟩
      · exact ⟨px_up_self _ _ _ _, wo_ke wo3 hR (by omega) (by omega)⟩
  refine px_aload_0 dX1_init_0 ?_
  refine cl_X1_3 rfl ⟨Nat.le_of_ble_eq_true rfl, Nat.le_of_ble_eq_true rfl⟩ dX1_init_1 ?_
  refine px_aload_0 dX1_init_4 ?_
  refine px_bipush (7) dX1_init_5 rfl ?_
  refine an_X1_9 (N := 7) (w := h + 1) rfl (by (try dsimp only [px_nx, px_ty1, px_mm]); omega) rfl (by decide) (by refine ⟨?_, ?_⟩ <;> first | (dsimp only [px_rm]; omega) | exact Nat.le_of_ble_eq_true rfl) dX1_init_7 ?_
  refine nx_go (w := h + 1) (by dsimp only; omega) ?_; rintro T1 I1 J1 R1 c1 k1 a1 z1 y1; dsimp only at c1; have h1 := at_ke ha k1 (by omega) (by omega)
  refine pf_X1_11 rfl rfl dX1_init_10 (by first | assumption | rfl) ?_
  refine px_aload_0 dX1_init_13 ?_
  refine px_iconst (0) dX1_init_14 rfl ?_
  refine pf_X1_17 rfl dX1_init_15 (by first | assumption | rfl) ?_
  refine px_aload_0 dX1_init_18 ?_
  refine px_iconst (0) dX1_init_19 rfl ?_
  refine pf_X1_21 rfl dX1_init_20 (by first | assumption | rfl) ?_
  refine px_iconst (0) dX1_init_23 rfl ?_
  refine px_istore_1 dX1_init_24 rfl ?_
  skip
  exact L 7 0 T1 _ J1 _ rfl (by omega) (ke_tr (ke_mo (by omega) (by omega) k1) (ke_tr (ke_R (by omega)) (ke_tr (ke_I (by omega)) (ke_I (by omega))))) h1 (px_up_self _ _ _ _) a1 ⟨by rw [px_up_nj (by decide), px_up_self], px_up_self _ _ _ _⟩ (fun p hp => absurd hp (Nat.not_lt_zero p)) _ _ rfl rfl
/-- all of the class's object but the worlds of its slots -/
def px_pre (G : px_G) (T : px_T) (R : px_R) (x : Nat) : Prop :=
  (px_at G T x 7 0 ∧ R x 0 = some (x + 1) ∧ R x 1 = some (x + 26) ∧ R x 2 = some (x + 203) ∧ R x 3 = some (x + 204) ∧ R x 4 = some (x + 205) ∧ R x 5 = some (x + 207) ∧ R x 6 = some (x + 208) ∧ R x 7 = some (x + 216) ∧ R x 8 = some (x + 224)) ∧
  px_wo G T R (x + 1) ∧ px_hs G T R (x + 26) ∧ px_at G T (x + 203) 14 2 ∧ px_at G T (x + 204) 11 2 ∧
  px_pa G T R (x + 205) ∧ px_re G T R (x + 207) (x + 205) ∧ px_rt G T R (x + 208) ∧ px_rt G T R (x + 216) ∧ px_at G T (x + 224) 9 8
def px_prI (I : px_I) (x : Nat) : Prop := px_ag I (x + 1) a_s0 ∧ (I (x + 26) 1 = 0 ∧ I (x + 26) 2 = 0) ∧ (∀ s, s < 2 → I (x + 204) s = 0) ∧ px_cp I (x + 205) (0, fun _ => 0) ∧ I (x + 208) 0 = 0 ∧ I (x + 216) 0 = 1
theorem pre_mv {T' : px_T} {I' : px_I} {J' : px_J} {R1 R' : px_R} (h : px_pre G T R x) (hk : px_ke 0 (x + 225) (T, I, J, R) (T', I', J', R1)) (hr : ∀ a, a ≠ x + 203 → R' a = R1 a) : px_pre G T' R' x := by
  have k1 : px_ke x (x + 203) (T, I, J, R) (T', I', J', R') := ke_tr (ke_mo (by omega) (by omega) hk) ⟨Nat.le_refl _, fun a h1 h2 => ⟨rfl, rfl, rfl, hr a (by omega)⟩⟩
  have k2 : px_ke (x + 204) (x + 225) (T, I, J, R) (T', I', J', R') := ke_tr (ke_mo (by omega) (by omega) hk) ⟨Nat.le_refl _, fun a h1 h2 => ⟨rfl, rfl, rfl, hr a (by omega)⟩⟩
  obtain ⟨⟨g0, g1⟩, h1, h2, h3, h4, h5, h6, h7, h8, h9⟩ := h
  refine ⟨⟨at_ke g0 k1 (by omega) (by omega), ?_⟩, wo_ke h1 k1 (by omega) (by omega), hs_ke h2 k1 (by omega) (by omega), at_ke h3 hk (by omega) (by omega), at_ke h4 k2 (by omega) (by omega), pa_ke h5 k2 (by omega) (by omega), re_ke h6 k2 (by omega) (by omega), rt_ke h7 k2 (by omega) (by omega), rt_ke h8 k2 (by omega) (by omega), at_ke h9 k2 (by omega) (by omega)⟩
  rw [ke_Ra k1 (by omega) (by omega)]
  exact g1
theorem prI_mv {T' : px_T} {I' : px_I} {J' : px_J} {R' : px_R} (h : px_prI I x) (hk : px_ke 0 (x + 225) (T, I, J, R) (T', I', J', R')) : px_prI I' x := by
  obtain ⟨h1, h2, h3, h4, h5, h6⟩ := h
  refine ⟨ag_ke h1 s0_V.1 hk (by omega) (by omega), ?_, fun s hs => ?_, cp_congr h4 (ke_Ia hk (by omega) (by omega)) (ke_Ia hk (by omega) (by omega)), ?_, ?_⟩
  · rw [ke_Ia hk (by omega) (by omega)]; exact h2
  · rw [ke_Ia hk (by omega) (by omega)]; exact h3 s hs
  · rw [ke_Ia hk (by omega) (by omega)]; exact h5
  · rw [ke_Ia hk (by omega) (by omega)]; exact h6
theorem prI_CI (h : px_prI I x) : px_CI I x a_A0 := by
  obtain ⟨h1, h2, h3, h4, h5, h6⟩ := h
  exact ⟨h1, ⟨0, by decide, h2.1, h2.2, by decide, fun i hi => absurd hi (Nat.not_lt_zero i)⟩, fun s hs => h3 s hs, fun s _ hk => (by cases hk), h4, h5, h6⟩
theorem s_X7_init (hG : px_tab0 G) (hw : px_h G + T.1 = x + 1) (ha : px_at G T x 7 0) : px_C l G 4 274 1987 mX7_init [.ref x] (T, I, J, R) (px_Qn (T, I, J, R) x 274 (fun μ' => px_co G μ'.1 μ'.2.2.2 x ∧ px_CI μ'.2.1 x a_A0)) := by
  refine px_met (M := mX7_init) ([some (.ref x), none]) (by decide +kernel) rfl (Nat.le_of_ble_eq_true rfl) rfl ?_
  generalize hQ : px_Qn (T, I, J, R) x 274 (fun μ' => px_co G μ'.1 μ'.2.2.2 x ∧ px_CI μ'.2.1 x a_A0) = Q
  have L : ∀ d i (T1 : px_T) (I1 : px_I) (J1 : px_J) (R1 : px_R), i + d = 2 → T1.1 = T.1 + 224 + 25 * i → px_ke 0 x (T, I, J, R) (T1, I1, J1, R1) → px_pre G T1 R1 x → px_prI I1 x → (∀ p, p < i → R1 (x + 203) p = some (x + 225 + 25 * p) ∧ px_wo G T1 R1 (x + 225 + 25 * p)) → ∀ k n, k = 224 + 25 * i → n = 1637 + 175 * i → (px_W l G yX7_init cX7_init 2 none (px_rm 4 274 1987) (px_Fn G Q 274 1987) 101 [some (.ref x), some (.int (nI i))] [] (k) (n) (T1, I1, J1, R1)) := by
    intro d
    induction d with
    | zero =>
      intro i T1 I1 J1 R1 hi c1 ke g1 g2 g3 k n hk hn
      obtain rfl : i = 2 := by omega
      subst hk hn
      refine px_iload_1 dX7_init_101 ?_
      refine px_iconst (2) dX7_init_102 rfl ?_
      refine px_icmp_ge (tgt := 125) dX7_init_103 (by decide) (fun h103 => ?_) (fun h103 => (by first | exact absurd ((by decide)) h103 | exact absurd h103 ((by decide))))
      refine px_vret dX7_init_125 ?_
      subst hQ
      obtain ⟨h0, h1, h2, h3, h4, h5, h6, h7, h8, h9⟩ := g1
      exact ⟨rfl, _, _, _, _, rfl, c1, ke, ⟨h0, h1, h2, ⟨h3, g3⟩, h4, h5, h6, h7, h8, h9⟩, prI_CI g2⟩
    | succ d ih =>
      intro i T1 I1 J1 R1 hi c1 ke g1 g2 g3 k n hk hn
      subst hk hn
      refine px_iload_1 dX7_init_101 ?_
      refine px_iconst (2) dX7_init_102 rfl ?_
      refine px_icmp_ge (tgt := 125) dX7_init_103 (by decide) (fun h103 => (by first | exact absurd h103 ((nI_ge (a := i) (b := 2) (by omega) (by omega))) | exact absurd ((nI_ge (a := i) (b := 2) (by omega) (by omega))) h103)) (fun h103 => ?_)
      refine px_aload_0 dX7_init_106 ?_
      refine gf_X7_23 rfl dX7_init_107 (by first | exact g1.1.1 | exact g1.1.2.2.2.1) (by first | exact g1.1.1 | exact g1.1.2.2.2.1) ?_
      refine px_iload_1 dX7_init_110 ?_
      refine nw_X7_7 (w := x + 225 + 25 * i) rfl (by (try dsimp only [px_nx, px_ty1, px_mm]); omega) (by refine ⟨?_, ?_⟩ <;> first | (dsimp only [px_rm]; omega) | exact Nat.le_of_ble_eq_true rfl) dX7_init_111 ?_
      refine nx_go (w := x + 225 + 25 * i) (by dsimp only; omega) ?_; rintro T2 I2 J2 R2 c2 k2 a2 z2 y2; dsimp only at c2
      refine px_dup dX7_init_114 rfl ?_
      refine cg_X7_9 rfl ⟨⟨Nat.le_of_ble_eq_true rfl, Nat.le_of_ble_eq_true rfl⟩, by first | (dsimp only [px_rm]; omega) | exact Nat.le_of_ble_eq_true rfl, by first | (dsimp only [px_rm]; omega) | exact Nat.le_of_ble_eq_true rfl, Nat.le_of_ble_eq_true rfl⟩ dX7_init_115 (s_X6_init (w := x + 225 + 25 * i) hG (by omega) a2) ?_
      rintro v μ' ⟨rfl, T3, I3, J3, R3, rfl, c3, k3, wo3, ag3⟩; dsimp only at c3 wo3 ag3
      refine px_aastN14 dX7_init_118 (by first | exact wo_a wo3 | exact at_ke (at_ke g1.2.2.2.1 k2 (by omega) (by omega)) k3 (by omega) (by omega)) (by first | exact wo_a wo3 | exact at_ke (at_ke g1.2.2.2.1 k2 (by omega) (by omega)) k3 (by omega) (by omega)) (by rfl) (by exact ⟨by omega, by decide⟩) ?_
      refine px_iinc_1 dX7_init_119 rfl ?_
      rw [inc_nI]
      refine px_goto (tgt := 101) dX7_init_122 (by decide) ?_
      skip
      have kk : px_ke 0 (x + 225) (T1, I1, J1, R1) (T3, I3, J3, R3) := ke_tr (ke_mo (by omega) (by omega) k2) (ke_mo (by omega) (by omega) k3)
      refine ih (i + 1) T3 I3 J3 _ (by omega) (by omega) (ke_tr ke (ke_tr (ke_mo (by omega) (by omega) k2) (ke_tr (ke_mo (by omega) (by omega) k3) (ke_R (by omega))))) (pre_mv g1 kk (fun a ha => px_up_ne ha)) (prI_mv g2 kk) (fun p hp => ?_) _ _ (by omega) (by omega)
      have hR : px_ke (x + 204) (x + 300) (T3, I3, J3, R3) (T3, I3, J3, px_up R3 (x + 203) i (some (x + 225 + 25 * i))) := ke_R (by omega)
      rcases (by omega : p < i ∨ p = i) with z | rfl
      · exact ⟨by rw [px_up_nj (by omega), ke_Ra k3 (by omega) (by omega), ke_Ra k2 (by omega) (by omega)]; exact (g3 p z).1, wo_ke (wo_ke (wo_ke (g3 p z).2 k2 (by omega) (by omega)) k3 (by omega) (by omega)) hR (by omega) (by omega)⟩
      · exact ⟨px_up_self _ _ _ _, wo_ke wo3 hR (by omega) (by omega)⟩
  refine px_aload_0 dX7_init_0 ?_
  refine cl_X7_1 rfl ⟨Nat.le_of_ble_eq_true rfl, Nat.le_of_ble_eq_true rfl⟩ dX7_init_1 ?_
  refine px_aload_0 dX7_init_4 ?_
  refine nw_X7_7 (w := x + 1) rfl (by (try dsimp only [px_nx, px_ty1, px_mm]); omega) (by refine ⟨?_, ?_⟩ <;> first | (dsimp only [px_rm]; omega) | exact Nat.le_of_ble_eq_true rfl) dX7_init_5 ?_
  refine nx_go (w := x + 1) (by dsimp only; omega) ?_; rintro T1 I1 J1 R1 c1 k1 a1 z1 y1; dsimp only at c1; have x1 := at_ke ha k1 (by omega) (by omega)
  refine px_dup dX7_init_8 rfl ?_
  refine cg_X7_9 rfl ⟨⟨Nat.le_of_ble_eq_true rfl, Nat.le_of_ble_eq_true rfl⟩, by first | (dsimp only [px_rm]; omega) | exact Nat.le_of_ble_eq_true rfl, by first | (dsimp only [px_rm]; omega) | exact Nat.le_of_ble_eq_true rfl, Nat.le_of_ble_eq_true rfl⟩ dX7_init_9 (s_X6_init (w := x + 1) hG (by omega) a1) ?_
  rintro v μ' ⟨rfl, T2, I2, J2, R2, rfl, c2, k2, wo2, ag2⟩; dsimp only at c2; have x2 := at_ke x1 k2 (by omega) (by omega)
  refine pf_X7_10 rfl rfl dX7_init_12 (by first | assumption | rfl) ?_
  refine px_aload_0 dX7_init_15 ?_
  refine nw_X7_16 (w := x + 26) rfl (by (try dsimp only [px_nx, px_ty1, px_mm]); omega) (by refine ⟨?_, ?_⟩ <;> first | (dsimp only [px_rm]; omega) | exact Nat.le_of_ble_eq_true rfl) dX7_init_16 ?_
  refine nx_go (w := x + 26) (by dsimp only; omega) ?_; rintro T3 I3 J3 R3 c3 k3 a3 z3 y3; dsimp only at c3; have x3 := at_ke x2 k3 (by omega) (by omega)
  refine px_dup dX7_init_19 rfl ?_
  refine cg_X7_18 rfl ⟨⟨Nat.le_of_ble_eq_true rfl, Nat.le_of_ble_eq_true rfl⟩, by first | (dsimp only [px_rm]; omega) | exact Nat.le_of_ble_eq_true rfl, by first | (dsimp only [px_rm]; omega) | exact Nat.le_of_ble_eq_true rfl, Nat.le_of_ble_eq_true rfl⟩ dX7_init_20 (s_X1_init (h := x + 26) hG (by omega) a3) ?_
  rintro v μ' ⟨rfl, T4, I4, J4, R4, rfl, c4, k4, hs4, hi4⟩; dsimp only at c4; have x4 := at_ke x3 k4 (by omega) (by omega)
  refine pf_X7_19 rfl rfl dX7_init_23 (by first | assumption | rfl) ?_
  refine px_aload_0 dX7_init_26 ?_
  refine px_iconst (2) dX7_init_27 rfl ?_
  refine an_X7_7 (N := 2) (w := x + 203) rfl (by (try dsimp only [px_nx, px_ty1, px_mm]); omega) rfl (by decide) (by refine ⟨?_, ?_⟩ <;> first | (dsimp only [px_rm]; omega) | exact Nat.le_of_ble_eq_true rfl) dX7_init_28 ?_
  refine nx_go (w := x + 203) (by dsimp only; omega) ?_; rintro T5 I5 J5 R5 c5 k5 a5 z5 y5; dsimp only at c5; have x5 := at_ke x4 k5 (by omega) (by omega)
  refine pf_X7_23 rfl rfl dX7_init_31 (by first | assumption | rfl) ?_
  refine px_aload_0 dX7_init_34 ?_
  refine px_iconst (2) dX7_init_35 rfl ?_
  refine na_boolean (N := 2) (w := x + 204) (by (try dsimp only [px_nx, px_ty1, px_mm]); omega) rfl (by decide) (by refine ⟨?_, ?_⟩ <;> first | (dsimp only [px_rm]; omega) | exact Nat.le_of_ble_eq_true rfl) dX7_init_36 ?_
  refine nx_go (w := x + 204) (by dsimp only; omega) ?_; rintro T6 I6 J6 R6 c6 k6 a6 z6 y6; dsimp only at c6; have x6 := at_ke x5 k6 (by omega) (by omega)
  refine pf_X7_27 rfl rfl dX7_init_38 (by first | assumption | rfl) ?_
  refine px_aload_0 dX7_init_41 ?_
  refine nw_X7_31 (w := x + 205) rfl (by (try dsimp only [px_nx, px_ty1, px_mm]); omega) (by refine ⟨?_, ?_⟩ <;> first | (dsimp only [px_rm]; omega) | exact Nat.le_of_ble_eq_true rfl) dX7_init_42 ?_
  refine nx_go (w := x + 205) (by dsimp only; omega) ?_; rintro T7 I7 J7 R7 c7 k7 a7 z7 y7; dsimp only at c7; have x7 := at_ke x6 k7 (by omega) (by omega)
  refine px_dup dX7_init_45 rfl ?_
  refine cg_X7_33 rfl ⟨⟨Nat.le_of_ble_eq_true rfl, Nat.le_of_ble_eq_true rfl⟩, by first | (dsimp only [px_rm]; omega) | exact Nat.le_of_ble_eq_true rfl, by first | (dsimp only [px_rm]; omega) | exact Nat.le_of_ble_eq_true rfl, Nat.le_of_ble_eq_true rfl⟩ dX7_init_46 (s_X2_init (a := x + 205) (by omega) a7) ?_
  rintro v μ' ⟨rfl, T8, I8, J8, R8, rfl, c8, k8, pa8, cp8⟩; dsimp only at c8; have x8 := at_ke x7 k8 (by omega) (by omega)
  refine pf_X7_34 rfl rfl dX7_init_49 (by first | assumption | rfl) ?_
  refine px_aload_0 dX7_init_52 ?_
  refine nw_X7_38 (w := x + 207) rfl (by (try dsimp only [px_nx, px_ty1, px_mm]); omega) (by refine ⟨?_, ?_⟩ <;> first | (dsimp only [px_rm]; omega) | exact Nat.le_of_ble_eq_true rfl) dX7_init_53 ?_
  refine nx_go (w := x + 207) (by dsimp only; omega) ?_; rintro T9 I9 J9 R9 c9 k9 a9 z9 y9; dsimp only at c9; have x9 := at_ke x8 k9 (by omega) (by omega)
  refine px_dup dX7_init_56 rfl ?_
  refine px_aload_0 dX7_init_57 ?_
  refine gf_X7_34 rfl dX7_init_58 (by first | assumption | (rw [ke_Ra k9 (by omega) (by omega), px_up_self])) (by first | assumption | (rw [ke_Ra k9 (by omega) (by omega), px_up_self])) ?_
  refine cg_X7_40 rfl ⟨⟨Nat.le_of_ble_eq_true rfl, Nat.le_of_ble_eq_true rfl⟩, by first | (dsimp only [px_rm]; omega) | exact Nat.le_of_ble_eq_true rfl, by first | (dsimp only [px_rm]; omega) | exact Nat.le_of_ble_eq_true rfl, Nat.le_of_ble_eq_true rfl⟩ dX7_init_61 (s_X3_init (a := x + 207) (p := x + 205) a9) ?_
  rintro v μ' ⟨rfl, T10, I10, J10, R10, rfl, c10, k10, re10⟩; dsimp only at c10; have x10 := at_ke x9 k10 (by omega) (by omega)
  refine pf_X7_43 rfl rfl dX7_init_64 (by first | assumption | rfl) ?_
  refine px_aload_0 dX7_init_67 ?_
  refine nw_X7_47 (w := x + 208) rfl (by (try dsimp only [px_nx, px_ty1, px_mm]); omega) (by refine ⟨?_, ?_⟩ <;> first | (dsimp only [px_rm]; omega) | exact Nat.le_of_ble_eq_true rfl) dX7_init_68 ?_
  refine nx_go (w := x + 208) (by dsimp only; omega) ?_; rintro T11 I11 J11 R11 c11 k11 a11 z11 y11; dsimp only at c11; have x11 := at_ke x10 k11 (by omega) (by omega)
  refine px_dup dX7_init_71 rfl ?_
  refine px_iconst (0) dX7_init_72 rfl ?_
  refine cg_X7_49 rfl ⟨⟨Nat.le_of_ble_eq_true rfl, Nat.le_of_ble_eq_true rfl⟩, by first | (dsimp only [px_rm]; omega) | exact Nat.le_of_ble_eq_true rfl, by first | (dsimp only [px_rm]; omega) | exact Nat.le_of_ble_eq_true rfl, Nat.le_of_ble_eq_true rfl⟩ dX7_init_73 (s_X5_init (a := x + 208) (b := 0) (Or.inl rfl) (by omega) a11) ?_
  rintro v μ' ⟨rfl, T12, I12, J12, R12, rfl, c12, k12, rt12, op12⟩; dsimp only at c12; have x12 := at_ke x11 k12 (by omega) (by omega)
  refine pf_X7_52 rfl rfl dX7_init_76 (by first | assumption | rfl) ?_
  refine px_aload_0 dX7_init_79 ?_
  refine nw_X7_47 (w := x + 216) rfl (by (try dsimp only [px_nx, px_ty1, px_mm]); omega) (by refine ⟨?_, ?_⟩ <;> first | (dsimp only [px_rm]; omega) | exact Nat.le_of_ble_eq_true rfl) dX7_init_80 ?_
  refine nx_go (w := x + 216) (by dsimp only; omega) ?_; rintro T13 I13 J13 R13 c13 k13 a13 z13 y13; dsimp only at c13; have x13 := at_ke x12 k13 (by omega) (by omega)
  refine px_dup dX7_init_83 rfl ?_
  refine px_iconst (1) dX7_init_84 rfl ?_
  refine cg_X7_49 rfl ⟨⟨Nat.le_of_ble_eq_true rfl, Nat.le_of_ble_eq_true rfl⟩, by first | (dsimp only [px_rm]; omega) | exact Nat.le_of_ble_eq_true rfl, by first | (dsimp only [px_rm]; omega) | exact Nat.le_of_ble_eq_true rfl, Nat.le_of_ble_eq_true rfl⟩ dX7_init_85 (s_X5_init (a := x + 216) (b := 1) (Or.inr rfl) (by omega) a13) ?_
  rintro v μ' ⟨rfl, T14, I14, J14, R14, rfl, c14, k14, rt14, op14⟩; dsimp only at c14; have x14 := at_ke x13 k14 (by omega) (by omega)
  refine pf_X7_56 rfl rfl dX7_init_88 (by first | assumption | rfl) ?_
  refine px_aload_0 dX7_init_91 ?_
  refine px_bipush (8) dX7_init_92 rfl ?_
  refine na_int (N := 8) (w := x + 224) (by (try dsimp only [px_nx, px_ty1, px_mm]); omega) rfl (by decide) (by refine ⟨?_, ?_⟩ <;> first | (dsimp only [px_rm]; omega) | exact Nat.le_of_ble_eq_true rfl) dX7_init_94 ?_
  refine nx_go (w := x + 224) (by dsimp only; omega) ?_; rintro T15 I15 J15 R15 c15 k15 a15 z15 y15; dsimp only at c15; have x15 := at_ke x14 k15 (by omega) (by omega)
  refine pf_X7_59 rfl rfl dX7_init_96 (by first | assumption | rfl) ?_
  refine px_iconst (0) dX7_init_99 rfl ?_
  refine px_istore_1 dX7_init_100 rfl ?_
  skip
  have e8 : px_ke (x + 1) (x + 225) (T15, I15, J15, R15) (T15, I15, J15, px_up R15 x 8 (some (x + 224))) := (ke_R (by omega))
  have e7 : px_ke (x + 1) (x + 224) (T14, I14, J14, R14) (T15, I15, J15, px_up R15 x 8 (some (x + 224))) := (ke_tr (ke_R (by omega)) (ke_tr (ke_mo (by omega) (by omega) k15) (ke_mo (by omega) (by omega) e8)))
  have e6 : px_ke (x + 1) (x + 216) (T12, I12, J12, R12) (T15, I15, J15, px_up R15 x 8 (some (x + 224))) := (ke_tr (ke_R (by omega)) (ke_tr (ke_mo (by omega) (by omega) k13) (ke_tr (ke_mo (by omega) (by omega) k14) (ke_mo (by omega) (by omega) e7))))
  have e5 : px_ke (x + 1) (x + 208) (T10, I10, J10, R10) (T15, I15, J15, px_up R15 x 8 (some (x + 224))) := (ke_tr (ke_R (by omega)) (ke_tr (ke_mo (by omega) (by omega) k11) (ke_tr (ke_mo (by omega) (by omega) k12) (ke_mo (by omega) (by omega) e6))))
  have e4 : px_ke (x + 1) (x + 207) (T8, I8, J8, R8) (T15, I15, J15, px_up R15 x 8 (some (x + 224))) := (ke_tr (ke_R (by omega)) (ke_tr (ke_mo (by omega) (by omega) k9) (ke_tr (ke_mo (by omega) (by omega) k10) (ke_mo (by omega) (by omega) e5))))
  have e3 : px_ke (x + 1) (x + 205) (T6, I6, J6, R6) (T15, I15, J15, px_up R15 x 8 (some (x + 224))) := (ke_tr (ke_R (by omega)) (ke_tr (ke_mo (by omega) (by omega) k7) (ke_tr (ke_mo (by omega) (by omega) k8) (ke_mo (by omega) (by omega) e4))))
  have e2 : px_ke (x + 1) (x + 204) (T5, I5, J5, R5) (T15, I15, J15, px_up R15 x 8 (some (x + 224))) := (ke_tr (ke_R (by omega)) (ke_tr (ke_mo (by omega) (by omega) k6) (ke_mo (by omega) (by omega) e3)))
  have e1 : px_ke (x + 1) (x + 203) (T4, I4, J4, R4) (T15, I15, J15, px_up R15 x 8 (some (x + 224))) := (ke_tr (ke_R (by omega)) (ke_tr (ke_mo (by omega) (by omega) k5) (ke_mo (by omega) (by omega) e2)))
  have e0 : px_ke (x + 1) (x + 26) (T2, I2, J2, R2) (T15, I15, J15, px_up R15 x 8 (some (x + 224))) := (ke_tr (ke_R (by omega)) (ke_tr (ke_mo (by omega) (by omega) k3) (ke_tr (ke_mo (by omega) (by omega) k4) (ke_mo (by omega) (by omega) e1))))
  refine L 2 0 T15 I15 J15 _ rfl (by omega) (ke_tr (ke_mo (by omega) (by omega) k1) (ke_tr (ke_mo (by omega) (by omega) k2) (ke_tr (ke_R (by omega)) (ke_tr (ke_mo (by omega) (by omega) k3) (ke_tr (ke_mo (by omega) (by omega) k4) (ke_tr (ke_R (by omega)) (ke_tr (ke_mo (by omega) (by omega) k5) (ke_tr (ke_R (by omega)) (ke_tr (ke_mo (by omega) (by omega) k6) (ke_tr (ke_R (by omega)) (ke_tr (ke_mo (by omega) (by omega) k7) (ke_tr (ke_mo (by omega) (by omega) k8) (ke_tr (ke_R (by omega)) (ke_tr (ke_mo (by omega) (by omega) k9) (ke_tr (ke_mo (by omega) (by omega) k10) (ke_tr (ke_R (by omega)) (ke_tr (ke_mo (by omega) (by omega) k11) (ke_tr (ke_mo (by omega) (by omega) k12) (ke_tr (ke_R (by omega)) (ke_tr (ke_mo (by omega) (by omega) k13) (ke_tr (ke_mo (by omega) (by omega) k14) (ke_tr (ke_R (by omega)) (ke_tr (ke_mo (by omega) (by omega) k15) (ke_R (by omega))))))))))))))))))))))))) ?_ ?_ (fun p hp => absurd hp (Nat.not_lt_zero p)) _ _ rfl rfl
  · refine ⟨⟨x15, ?_, ?_, ?_, ?_, ?_, ?_, ?_, ?_, ?_⟩, wo_ke wo2 e0 (by omega) (by omega), hs_ke hs4 e1 (by omega) (by omega), at_ke a5 e2 (by omega) (by omega), at_ke a6 e3 (by omega) (by omega), pa_ke pa8 e4 (by omega) (by omega), re_ke re10 e5 (by omega) (by omega), rt_ke rt12 e6 (by omega) (by omega), rt_ke rt14 e7 (by omega) (by omega), at_ke a15 e8 (by omega) (by omega)⟩
    · rw [px_up_nj (by decide), ke_Ra k15 (by omega) (by omega), px_up_nj (by decide), ke_Ra k14 (by omega) (by omega), ke_Ra k13 (by omega) (by omega), px_up_nj (by decide), ke_Ra k12 (by omega) (by omega), ke_Ra k11 (by omega) (by omega), px_up_nj (by decide), ke_Ra k10 (by omega) (by omega), ke_Ra k9 (by omega) (by omega), px_up_nj (by decide), ke_Ra k8 (by omega) (by omega), ke_Ra k7 (by omega) (by omega), px_up_nj (by decide), ke_Ra k6 (by omega) (by omega), px_up_nj (by decide), ke_Ra k5 (by omega) (by omega), px_up_nj (by decide), ke_Ra k4 (by omega) (by omega), ke_Ra k3 (by omega) (by omega), px_up_self]
    · rw [px_up_nj (by decide), ke_Ra k15 (by omega) (by omega), px_up_nj (by decide), ke_Ra k14 (by omega) (by omega), ke_Ra k13 (by omega) (by omega), px_up_nj (by decide), ke_Ra k12 (by omega) (by omega), ke_Ra k11 (by omega) (by omega), px_up_nj (by decide), ke_Ra k10 (by omega) (by omega), ke_Ra k9 (by omega) (by omega), px_up_nj (by decide), ke_Ra k8 (by omega) (by omega), ke_Ra k7 (by omega) (by omega), px_up_nj (by decide), ke_Ra k6 (by omega) (by omega), px_up_nj (by decide), ke_Ra k5 (by omega) (by omega), px_up_self]
    · rw [px_up_nj (by decide), ke_Ra k15 (by omega) (by omega), px_up_nj (by decide), ke_Ra k14 (by omega) (by omega), ke_Ra k13 (by omega) (by omega), px_up_nj (by decide), ke_Ra k12 (by omega) (by omega), ke_Ra k11 (by omega) (by omega), px_up_nj (by decide), ke_Ra k10 (by omega) (by omega), ke_Ra k9 (by omega) (by omega), px_up_nj (by decide), ke_Ra k8 (by omega) (by omega), ke_Ra k7 (by omega) (by omega), px_up_nj (by decide), ke_Ra k6 (by omega) (by omega), px_up_self]
    · rw [px_up_nj (by decide), ke_Ra k15 (by omega) (by omega), px_up_nj (by decide), ke_Ra k14 (by omega) (by omega), ke_Ra k13 (by omega) (by omega), px_up_nj (by decide), ke_Ra k12 (by omega) (by omega), ke_Ra k11 (by omega) (by omega), px_up_nj (by decide), ke_Ra k10 (by omega) (by omega), ke_Ra k9 (by omega) (by omega), px_up_nj (by decide), ke_Ra k8 (by omega) (by omega), ke_Ra k7 (by omega) (by omega), px_up_self]
    · rw [px_up_nj (by decide), ke_Ra k15 (by omega) (by omega), px_up_nj (by decide), ke_Ra k14 (by omega) (by omega), ke_Ra k13 (by omega) (by omega), px_up_nj (by decide), ke_Ra k12 (by omega) (by omega), ke_Ra k11 (by omega) (by omega), px_up_nj (by decide), ke_Ra k10 (by omega) (by omega), ke_Ra k9 (by omega) (by omega), px_up_self]
    · rw [px_up_nj (by decide), ke_Ra k15 (by omega) (by omega), px_up_nj (by decide), ke_Ra k14 (by omega) (by omega), ke_Ra k13 (by omega) (by omega), px_up_nj (by decide), ke_Ra k12 (by omega) (by omega), ke_Ra k11 (by omega) (by omega), px_up_self]
    · rw [px_up_nj (by decide), ke_Ra k15 (by omega) (by omega), px_up_nj (by decide), ke_Ra k14 (by omega) (by omega), ke_Ra k13 (by omega) (by omega), px_up_self]
    · rw [px_up_nj (by decide), ke_Ra k15 (by omega) (by omega), px_up_self]
    · rw [px_up_self]
  · refine ⟨ag_ke ag2 s0_V.1 e0 (by omega) (by omega), ?_, fun s hs => ?_, cp_congr cp8 (ke_Ia e4 (by omega) (by omega)) (ke_Ia e4 (by omega) (by omega)), ?_, ?_⟩
    · rw [ke_Ia e1 (by omega) (by omega)]; exact hi4
    · rw [ke_Ia e3 (by omega) (by omega), z6]
    · rw [ke_Ia e6 (by omega) (by omega)]; exact op12
    · rw [ke_Ia e7 (by omega) (by omega)]; exact op14
end CT2
