/-! the constructors -/
section CTR
variable {l : Launch} {G : px_G} {T : px_T} {I : px_I} {J : px_J} {R : px_R} {μ : px_M} {x w a p : Nat} {σ : px_s}
theorem s_X4_init : px_K l G 1 mX4_init ([.ref a]) (μ) (none) (μ) := by
  refine px_met (M := mX4_init) ([some (.ref a)]) (by decide +kernel) rfl (Nat.le_of_ble_eq_true rfl) rfl ?_
  refine px_aload_0 dX4_init_0 ?_
  refine cl_X4_1 rfl ⟨Nat.le_of_ble_eq_true rfl, Nat.le_of_ble_eq_true rfl⟩ dX4_init_1 ?_
  refine px_vret dX4_init_4 ?_
  exact ⟨rfl, rfl⟩
theorem s_X0_init : px_K l G 1 mX0_init ([.ref a]) (μ) (none) (μ) := by
  refine px_met (M := mX0_init) ([some (.ref a)]) (by decide +kernel) rfl (Nat.le_of_ble_eq_true rfl) rfl ?_
  refine px_aload_0 dX0_init_0 ?_
  refine cl_X0_1 rfl ⟨Nat.le_of_ble_eq_true rfl, Nat.le_of_ble_eq_true rfl⟩ dX0_init_1 ?_
  refine px_vret dX0_init_4 ?_
  exact ⟨rfl, rfl⟩
theorem s_X2_init (hw : px_h G + T.1 = a + 1) (ha : px_at G T a 2 0) : px_C l G 1 1 80 mX2_init [.ref a] (T, I, J, R) (px_Qn (T, I, J, R) a 1 (fun μ' => px_pa G μ'.1 μ'.2.2.2 a ∧ px_cp μ'.2.1 a (0, fun _ => 0))) := by
  refine px_met (M := mX2_init) ([some (.ref a)]) (by decide +kernel) rfl (Nat.le_of_ble_eq_true rfl) rfl ?_
  refine px_aload_0 dX2_init_0 ?_
  refine cl_X2_3 rfl ⟨Nat.le_of_ble_eq_true rfl, Nat.le_of_ble_eq_true rfl⟩ dX2_init_1 ?_
  refine px_aload_0 dX2_init_4 ?_
  refine px_bipush (80) dX2_init_5 rfl ?_
  refine na_int (N := 80) (w := a + 1) (by (try dsimp only [px_nx, px_ty1, px_mm]); omega) rfl (by decide) (by refine ⟨?_, ?_⟩ <;> first | (dsimp only [px_rm]; omega) | exact Nat.le_of_ble_eq_true rfl) dX2_init_7 ?_
  refine nx_go (w := a + 1) (by dsimp only; omega) ?_; rintro T1 I1 J1 R1 c1 k1 a1 z1 y1; have ha1 := at_ke ha k1 (by omega) (by omega)
  refine pf_X2_9 rfl rfl dX2_init_9 (by first | assumption | rfl) ?_
  refine px_aload_0 dX2_init_12 ?_
  refine px_iconst (0) dX2_init_13 rfl ?_
  refine pf_X2_15 rfl dX2_init_14 (by first | assumption | rfl) ?_
  refine px_vret dX2_init_17 ?_
  skip
  refine ⟨rfl, _, _, _, _, rfl, c1, ke_tr (ke_mo (Nat.le_refl _) (by omega) k1) (ke_tr (ke_R (by omega)) (ke_I (by omega))), ⟨ha1, px_up_self _ _ _ _, a1⟩, px_up_self _ _ _ _, by decide, fun i hi => absurd hi (Nat.not_lt_zero i)⟩
theorem s_X3_init (ha : px_at G T a 3 0) : px_C l G 1 0 0 mX3_init [.ref a, .ref p] (T, I, J, R) (px_Qn (T, I, J, R) a 0 (fun μ' => px_re G μ'.1 μ'.2.2.2 a p)) := by
  refine px_met (M := mX3_init) ([some (.ref a), some (.ref p)]) (by decide +kernel) rfl (Nat.le_of_ble_eq_true rfl) rfl ?_
  refine px_aload_0 dX3_init_0 ?_
  refine cl_X3_3 rfl ⟨Nat.le_of_ble_eq_true rfl, Nat.le_of_ble_eq_true rfl⟩ dX3_init_1 ?_
  refine px_aload_0 dX3_init_4 ?_
  refine px_iconst (0) dX3_init_5 rfl ?_
  refine pf_X3_9 rfl dX3_init_6 (by first | assumption | rfl) ?_
  refine px_aload_0 dX3_init_9 ?_
  refine px_iconst (0) dX3_init_10 rfl ?_
  refine pf_X3_15 rfl dX3_init_11 (by first | assumption | rfl) ?_
  refine px_aload_0 dX3_init_14 ?_
  refine px_iconst (0) dX3_init_15 rfl ?_
  refine pf_X3_18 rfl dX3_init_16 (by first | assumption | rfl) ?_
  refine px_aload_0 dX3_init_19 ?_
  refine px_iconst (0) dX3_init_20 rfl ?_
  refine pf_X3_21 rfl dX3_init_21 (by first | assumption | rfl) ?_
  refine px_aload_0 dX3_init_24 ?_
  refine px_iconst (0) dX3_init_25 rfl ?_
  refine pf_X3_24 rfl dX3_init_26 (by first | assumption | rfl) ?_
  refine px_aload_0 dX3_init_29 ?_
  refine px_iconst (0) dX3_init_30 rfl ?_
  refine pf_X3_27 rfl dX3_init_31 (by first | assumption | rfl) ?_
  refine px_aload_0 dX3_init_34 ?_
  refine px_aload_1 dX3_init_35 ?_
  refine pf_X3_30 rfl rfl dX3_init_36 (by first | assumption | rfl) ?_
  refine px_vret dX3_init_39 ?_
  skip
  refine ⟨rfl, _, _, _, _, rfl, rfl, ?_, ha, px_up_self _ _ _ _⟩
  exact ke_tr (ke_I (by omega)) (ke_tr (ke_I (by omega)) (ke_tr (ke_I (by omega)) (ke_tr (ke_I (by omega)) (ke_tr (ke_I (by omega)) (ke_tr (ke_I (by omega)) (ke_R (by omega)))))))
theorem s_X5_init {b : Int32} (hb : b = 0 ∨ b = 1) (hw : px_h G + T.1 = a + 1) (ha : px_at G T a 5 0) : px_C l G 1 7 59 mX5_init [.ref a, .int b] (T, I, J, R) (px_Qn (T, I, J, R) a 7 (fun μ' => px_rt G μ'.1 μ'.2.2.2 a ∧ μ'.2.1 a 0 = b)) := by
  refine px_met (M := mX5_init) ([some (.ref a), some (.int b)]) (by decide +kernel) rfl (Nat.le_of_ble_eq_true rfl) rfl ?_
  refine px_aload_0 dX5_init_0 ?_
  refine cl_X5_3 rfl ⟨Nat.le_of_ble_eq_true rfl, Nat.le_of_ble_eq_true rfl⟩ dX5_init_1 ?_
  refine px_aload_0 dX5_init_4 ?_
  refine px_iconst (5) dX5_init_5 rfl ?_
  refine px_bipush (8) dX5_init_6 rfl ?_
  refine mu_X5_9 (w := a + 1) rfl (by (try dsimp only [px_nx, px_ty1, px_mm]); omega) (by refine ⟨?_, ?_⟩ <;> first | (dsimp only [px_rm]; omega) | exact Nat.le_of_ble_eq_true rfl) dX5_init_8 ?_
  refine mm_go (w := a + 1) (by dsimp only; omega) ?_; rintro T1 I1 J1 R1 c1 k1 a1 y1; dsimp only at c1; have ha1 := at_ke ha k1 (by omega) (by omega)
  refine pf_X5_11 rfl rfl dX5_init_12 (by first | assumption | rfl) ?_
  refine px_aload_0 dX5_init_15 ?_
  refine px_bipush (14) dX5_init_16 rfl ?_
  refine na_int (N := 14) (w := a + 7) (by (try dsimp only [px_nx, px_ty1, px_mm]); omega) rfl (by decide) (by refine ⟨?_, ?_⟩ <;> first | (dsimp only [px_rm]; omega) | exact Nat.le_of_ble_eq_true rfl) dX5_init_18 ?_
  refine nx_go (w := a + 7) (by dsimp only; omega) ?_; rintro T2 I2 J2 R2 c2 k2 a2 z2 y2; have ha2 := at_ke ha1 k2 (by omega) (by omega)
  refine pf_X5_16 rfl rfl dX5_init_20 (by first | assumption | rfl) ?_
  refine px_aload_0 dX5_init_23 ?_
  refine px_lconst (0) dX5_init_24 rfl ?_
  refine pf_X5_20 rfl dX5_init_25 (by first | assumption | rfl) ?_
  refine px_aload_0 dX5_init_28 ?_
  refine px_iload_1 dX5_init_29 ?_
  refine pf_X5_24 rfl rfl (by exact hb) dX5_init_30 (by first | assumption | rfl) ?_
  refine px_vret dX5_init_33 ?_
  skip
  refine ⟨rfl, _, _, _, _, rfl, by dsimp only at c2 ⊢; omega, ke_tr (ke_mo (Nat.le_refl _) (by omega) k1) (ke_tr (ke_R (by omega)) (ke_tr (ke_mo (Nat.le_refl _) (by omega) k2) (ke_tr (ke_R (by omega)) (ke_tr (ke_J (by omega)) (ke_I (by omega)))))), ⟨ha2, ?_, px_up_self _ _ _ _, at_ke a1 k2 (by omega) (by omega), fun q hq => ⟨?_, ?_⟩, a2⟩, px_up_self _ _ _ _⟩
  · dsimp only
    rw [px_up_nj (by decide), ke_Ra k2 (by omega) (by omega), px_up_self]
  · dsimp only
    rw [px_up_ne (by omega), ke_Ra k2 (by omega) (by omega), px_up_ne (by omega), (y1 q hq).1]
  · have := at_ke (y1 q hq).2 k2 (by omega) (by omega)
    rw [show a + 2 + q = a + 1 + 1 + q by omega]
    exact this
/-! the World -/
def f_ini : Nat → Int32 := fun k => if k = 0 then 20 else if k = 1 then 10 else if k = 2 then 3 else 12
def px_tab0 (G : px_G) : Prop := ∃ f0 : Nat, (∃ q : Nat, G.2.2.2.1[q]? = some ((FieldType.int, f0, 4, fun j => Value.int (f_ini j)) : px_B)) ∧ ∃ z : Nat, G.2.2.2.2.2[z]? = some ("SaltPrices", "FIRST_SETTINGS", "[I", Value.ref f0)
def px_wd (G : px_G) (T : px_T) (R : px_R) (w : Nat) : Prop := px_at G T w 6 0 ∧ (R w 0 = some (w + 1) ∧ R w 1 = some (w + 2) ∧ R w 2 = some (w + 3) ∧ R w 3 = some (w + 4)) ∧ (px_at G T (w + 1) 9 4 ∧ px_at G T (w + 2) 9 8 ∧ px_at G T (w + 3) 13 14 ∧ px_at G T (w + 4) 12 6)
def px_wj (I : px_I) (w : Nat) : Prop := (∀ j, j < 4 → I (w + 1) j = a_s0 (142 + j)) ∧ (I w 4 = a_s0 8 ∧ I w 5 = a_s0 93) ∧ (I w 6 = a_s0 146 ∧ I w 7 = a_s0 147 ∧ I w 8 = a_s0 148 ∧ I w 9 = a_s0 149 ∧ I w 10 = a_s0 150)
theorem wd_mv {T' : px_T} {I' : px_I} {J' : px_J} {R1 R' : px_R} {hi : Nat} (h : px_wd G T R w) (hk : px_ke 0 hi (T, I, J, R) (T', I', J', R1)) (h2 : w + 5 ≤ hi) (hr : R' w = R1 w) : px_wd G T' R' w := by
  obtain ⟨g0, ⟨r0, r1, r2, r3⟩, g1, g2, g3, g4⟩ := h
  refine ⟨at_ke g0 hk (by omega) (by omega), ?_, at_ke g1 hk (by omega) (by omega), at_ke g2 hk (by omega) (by omega), at_ke g3 hk (by omega) (by omega), at_ke g4 hk (by omega) (by omega)⟩
  rw [hr, ke_Ra hk (by omega) (by omega)]
  exact ⟨r0, r1, r2, r3⟩
theorem wj_mv {I' : px_I} (h : px_wj I w) (g : ∀ a, w ≤ a → a < w + 2 → I' a = I a) : px_wj I' w := by
  unfold px_wj
  rw [g w (by omega) (by omega), g (w + 1) (by omega) (by omega)]
  exact h
theorem s_X6_init (hG : px_tab0 G) (hw : px_h G + T.1 = w + 1) (ha : px_at G T w 6 0) : px_C l G 2 24 164 mX6_init [.ref w] (T, I, J, R) (px_Qn (T, I, J, R) w 24 (fun μ' => px_wo G μ'.1 μ'.2.2.2 w ∧ px_ag μ'.2.1 w a_s0)) := by
  obtain ⟨f0, ⟨q0, hq0⟩, ⟨z0, hz0⟩⟩ := hG
  refine px_met (M := mX6_init) ([some (.ref w), none]) (by decide +kernel) rfl (Nat.le_of_ble_eq_true rfl) rfl ?_
  generalize hQ : px_Qn (T, I, J, R) w 24 (fun μ' => px_wo G μ'.1 μ'.2.2.2 w ∧ px_ag μ'.2.1 w a_s0) = Q
  have L3 : ∀ d i (T1 : px_T) (I1 : px_I) (J1 : px_J) (R1 : px_R), i + d = 6 → T1.1 = T.1 + 18 + i → px_ke 0 w (T, I, J, R) (T1, I1, J1, R1) → px_wd G T1 R1 w → px_wj I1 w → (∀ t, t < 8 → I1 (w + 2) t = 100) → (∀ j, j < 14 → R1 (w + 3) j = some (w + 5 + j) ∧ px_at G T1 (w + 5 + j) 4 0) → (∀ j, j < i → R1 (w + 4) j = some (w + 19 + j) ∧ px_at G T1 (w + 19 + j) 0 0) → ∀ k n, k = 18 + i → n = 116 + 8 * i → (px_W l G yX6_init cX6_init 2 none (px_rm 2 24 164) (px_Fn G Q 24 164) 136 [some (.ref w), some (.int (nI i))] [] (k) (n) (T1, I1, J1, R1)) := by
    intro d
    induction d with
    | zero =>
      intro i T1 I1 J1 R1 hi c1 ke wd wj hp hr hc k n hk hn
      obtain rfl : i = 6 := by omega
      subst hk hn
      refine px_iload_1 dX6_init_136 ?_
      refine px_bipush (6) dX6_init_137 rfl ?_
      refine px_icmp_ge (tgt := 161) dX6_init_139 (by decide) (fun h139 => ?_) (fun h139 => (by first | exact absurd ((by decide)) h139 | exact absurd h139 ((by decide))))
      refine px_vret dX6_init_161 ?_
      subst hQ
      exact ⟨rfl, _, _, _, _, rfl, c1, ke, ⟨wd.1, wd.2.1, wd.2.2, hr, hc⟩, wj.1, fun t ht => (hp t ht).trans (if_pos ht).symm, wj.2.1, wj.2.2, fun r hr => absurd hr (Nat.not_lt_zero r), fun c hc => absurd hc (Nat.not_lt_zero c)⟩
    | succ d ih =>
      intro i T1 I1 J1 R1 hi c1 ke wd wj hp hr hc k n hk hn
      subst hk hn
      have e1 : w + 19 + i = px_h G + T1.1 := by omega
      refine px_iload_1 dX6_init_136 ?_
      refine px_bipush (6) dX6_init_137 rfl ?_
      refine px_icmp_ge (tgt := 161) dX6_init_139 (by decide) (fun h139 => (by first | exact absurd h139 ((nI_ge (a := i) (b := 6) (by omega) (by omega))) | exact absurd ((nI_ge (a := i) (b := 6) (by omega) (by omega))) h139)) (fun h139 => ?_)
      refine px_aload_0 dX6_init_142 ?_
      refine gf_X6_26 rfl dX6_init_143 (by first | exact wd.1 | exact wd.2.1.2.2.2) (by first | exact wd.1 | exact wd.2.1.2.2.2) ?_
      refine px_iload_1 dX6_init_146 ?_
      refine nw_X6_24 (w := w + 19 + i) rfl (by (try dsimp only [px_nx, px_ty1, px_mm]); omega) (by refine ⟨?_, ?_⟩ <;> first | (dsimp only [px_rm]; omega) | exact Nat.le_of_ble_eq_true rfl) dX6_init_147 ?_
      refine nx_go (w := w + 19 + i) (by dsimp only; omega) ?_; rintro T2 I2 J2 R2 c2 k2 a2 z2 y2; dsimp only at c2
      refine px_dup dX6_init_150 rfl ?_
      refine cd_X6_62 rfl ⟨⟨Nat.le_of_ble_eq_true rfl, Nat.le_of_ble_eq_true rfl⟩, by first | (dsimp only [px_rm]; omega) | exact Nat.le_of_ble_eq_true rfl, by first | (dsimp only [px_rm]; omega) | exact Nat.le_of_ble_eq_true rfl, Nat.le_of_ble_eq_true rfl⟩ dX6_init_151 (s_X0_init) ?_
      refine px_aastN12 dX6_init_154 (by first | exact a2 | exact at_ke wd.2.2.2.2.2 k2 (by omega) (by omega)) (by first | exact a2 | exact at_ke wd.2.2.2.2.2 k2 (by omega) (by omega)) (by rfl) (by exact ⟨by omega, by decide⟩) ?_
      refine px_iinc_1 dX6_init_155 rfl ?_
      rw [inc_nI]
      refine px_goto (tgt := 136) dX6_init_158 (by decide) ?_
      skip
      refine ih (i + 1) T2 I2 J2 _ (by omega) (by omega) (ke_tr ke (ke_tr (ke_mo (Nat.le_refl _) (by omega) k2) (ke_R (by omega)))) (wd_mv wd k2 (by omega) (px_up_ne (by omega))) (wj_mv wj (fun a h1 h2 => ke_Ia k2 (by omega) (by omega))) (fun t ht => by rw [ke_Ia k2 (by omega) (by omega)]; exact hp t ht) (fun j hj => ⟨by rw [px_up_ne (by omega), ke_Ra k2 (by omega) (by omega)]; exact (hr j hj).1, at_ke (hr j hj).2 k2 (by omega) (by omega)⟩) (fun j hj => ?_) _ _ (by omega) (by omega)
      rcases (by omega : j < i ∨ j = i) with z | rfl
      · exact ⟨by rw [px_up_nj (by omega), ke_Ra k2 (by omega) (by omega)]; exact (hc j z).1, at_ke (hc j z).2 k2 (by omega) (by omega)⟩
      · exact ⟨px_up_self _ _ _ _, a2⟩
  have L2 : ∀ d i (T1 : px_T) (I1 : px_I) (J1 : px_J) (R1 : px_R), i + d = 14 → T1.1 = T.1 + 4 + i → px_ke 0 w (T, I, J, R) (T1, I1, J1, R1) → px_wd G T1 R1 w → px_wj I1 w → (∀ t, t < 8 → I1 (w + 2) t = 100) → (∀ j, j < i → R1 (w + 3) j = some (w + 5 + j) ∧ px_at G T1 (w + 5 + j) 4 0) → ∀ k n, k = 4 + i → n = 32 + 6 * i → (px_W l G yX6_init cX6_init 2 none (px_rm 2 24 164) (px_Fn G Q 24 164) 109 [some (.ref w), some (.int (nI i))] [] (k) (n) (T1, I1, J1, R1)) := by
    intro d
    induction d with
    | zero =>
      intro i T1 I1 J1 R1 hi c1 ke wd wj hp hr k n hk hn
      obtain rfl : i = 14 := by omega
      subst hk hn
      refine px_iload_1 dX6_init_109 ?_
      refine px_bipush (14) dX6_init_110 rfl ?_
      refine px_icmp_ge (tgt := 134) dX6_init_112 (by decide) (fun h112 => ?_) (fun h112 => (by first | exact absurd ((by decide)) h112 | exact absurd h112 ((by decide))))
      refine px_iconst (0) dX6_init_134 rfl ?_
      refine px_istore_1 dX6_init_135 rfl ?_
      exact L3 6 0 T1 I1 J1 R1 rfl (by omega) ke wd wj hp hr (fun j hj => absurd hj (Nat.not_lt_zero j)) _ _ rfl rfl
    | succ d ih =>
      intro i T1 I1 J1 R1 hi c1 ke wd wj hp hr k n hk hn
      subst hk hn
      refine px_iload_1 dX6_init_109 ?_
      refine px_bipush (14) dX6_init_110 rfl ?_
      refine px_icmp_ge (tgt := 134) dX6_init_112 (by decide) (fun h112 => (by first | exact absurd h112 ((nI_ge (a := i) (b := 14) (by omega) (by omega))) | exact absurd ((nI_ge (a := i) (b := 14) (by omega) (by omega))) h112)) (fun h112 => ?_)
      refine px_aload_0 dX6_init_115 ?_
      refine gf_X6_20 rfl dX6_init_116 (by first | exact wd.1 | exact wd.2.1.2.2.1) (by first | exact wd.1 | exact wd.2.1.2.2.1) ?_
      refine px_iload_1 dX6_init_119 ?_
      refine nw_X6_18 (w := w + 5 + i) rfl (by (try dsimp only [px_nx, px_ty1, px_mm]); omega) (by refine ⟨?_, ?_⟩ <;> first | (dsimp only [px_rm]; omega) | exact Nat.le_of_ble_eq_true rfl) dX6_init_120 ?_
      refine nx_go (w := w + 5 + i) (by dsimp only; omega) ?_; rintro T2 I2 J2 R2 c2 k2 a2 z2 y2; dsimp only at c2
      refine px_dup dX6_init_123 rfl ?_
      refine cd_X6_61 rfl ⟨⟨Nat.le_of_ble_eq_true rfl, Nat.le_of_ble_eq_true rfl⟩, by first | (dsimp only [px_rm]; omega) | exact Nat.le_of_ble_eq_true rfl, by first | (dsimp only [px_rm]; omega) | exact Nat.le_of_ble_eq_true rfl, Nat.le_of_ble_eq_true rfl⟩ dX6_init_124 (s_X4_init) ?_
      refine px_aastN13 dX6_init_127 (by first | exact a2 | exact at_ke wd.2.2.2.2.1 k2 (by omega) (by omega)) (by first | exact a2 | exact at_ke wd.2.2.2.2.1 k2 (by omega) (by omega)) (by rfl) (by exact ⟨by omega, by decide⟩) ?_
      refine px_iinc_1 dX6_init_128 rfl ?_
      rw [inc_nI]
      refine px_goto (tgt := 109) dX6_init_131 (by decide) ?_
      skip
      refine ih (i + 1) T2 I2 J2 _ (by omega) (by omega) (ke_tr ke (ke_tr (ke_mo (Nat.le_refl _) (by omega) k2) (ke_R (by omega)))) (wd_mv wd k2 (by omega) (px_up_ne (by omega))) (wj_mv wj (fun a h1 h2 => ke_Ia k2 (by omega) (by omega))) (fun t ht => by rw [ke_Ia k2 (by omega) (by omega)]; exact hp t ht) (fun j hj => ?_) _ _ (by omega) (by omega)
      rcases (by omega : j < i ∨ j = i) with z | rfl
      · exact ⟨by rw [px_up_nj (by omega), ke_Ra k2 (by omega) (by omega)]; exact (hr j z).1, at_ke (hr j z).2 k2 (by omega) (by omega)⟩
      · exact ⟨px_up_self _ _ _ _, a2⟩
  have L1 : ∀ d i (T1 : px_T) (I1 : px_I) (J1 : px_J) (R1 : px_R), i + d = 8 → T1.1 = T.1 + 4 → px_ke 0 w (T, I, J, R) (T1, I1, J1, R1) → px_wd G T1 R1 w → px_wj I1 w → (∀ t, t < i → I1 (w + 2) t = 100) → (px_W l G yX6_init cX6_init 2 none (px_rm 2 24 164) (px_Fn G Q 24 164) 87 [some (.ref w), some (.int (nI i))] [] (4) (32) (T1, I1, J1, R1)) := by
    intro d
    induction d with
    | zero =>
      intro i T1 I1 J1 R1 hi c1 ke wd wj hp
      obtain rfl : i = 8 := by omega
      refine px_iload_1 dX6_init_87 ?_
      refine px_bipush (8) dX6_init_88 rfl ?_
      refine px_icmp_ge (tgt := 107) dX6_init_90 (by decide) (fun h90 => ?_) (fun h90 => (by first | exact absurd ((by decide)) h90 | exact absurd h90 ((by decide))))
      refine px_iconst (0) dX6_init_107 rfl ?_
      refine px_istore_1 dX6_init_108 rfl ?_
      exact L2 14 0 T1 I1 J1 R1 rfl (by omega) ke wd wj hp (fun j hj => absurd hj (Nat.not_lt_zero j)) _ _ rfl rfl
    | succ d ih =>
      intro i T1 I1 J1 R1 hi c1 ke wd wj hp
      refine px_iload_1 dX6_init_87 ?_
      refine px_bipush (8) dX6_init_88 rfl ?_
      refine px_icmp_ge (tgt := 107) dX6_init_90 (by decide) (fun h90 => (by first | exact absurd h90 ((nI_ge (a := i) (b := 8) (by omega) (by omega))) | exact absurd ((nI_ge (a := i) (b := 8) (by omega) (by omega))) h90)) (fun h90 => ?_)
      refine px_aload_0 dX6_init_93 ?_
      refine gf_X6_15 rfl dX6_init_94 (by first | exact wd.1 | exact wd.2.1.2.1) (by first | exact wd.1 | exact wd.2.1.2.1) ?_
      refine px_iload_1 dX6_init_97 ?_
      refine px_bipush (100) dX6_init_98 rfl ?_
      refine px_iastN dX6_init_100 (by exact wd.2.2.2.1) (by rfl) (by exact ⟨by omega, by decide⟩) ?_
      refine px_iinc_1 dX6_init_101 rfl ?_
      rw [inc_nI]
      refine px_goto (tgt := 87) dX6_init_104 (by decide) ?_
      skip
      refine ih (i + 1) T1 _ J1 R1 (by omega) c1 (ke_tr ke (ke_I (by omega))) wd (wj_mv wj (fun a h1 h2 => px_up_ne (by omega))) (fun t ht => ?_)
      rcases (by omega : t < i ∨ t = i) with z | rfl
      · rw [px_up_nj (by omega)]
        exact hp t z
      · exact px_up_self _ _ _ _
  refine px_aload_0 dX6_init_0 ?_
  refine cl_X6_3 rfl ⟨Nat.le_of_ble_eq_true rfl, Nat.le_of_ble_eq_true rfl⟩ dX6_init_1 ?_
  refine px_aload_0 dX6_init_4 ?_
  refine px_iconst (4) dX6_init_5 rfl ?_
  refine na_int (N := 4) (w := w + 1) (by (try dsimp only [px_nx, px_ty1, px_mm]); omega) rfl (by decide) (by refine ⟨?_, ?_⟩ <;> first | (dsimp only [px_rm]; omega) | exact Nat.le_of_ble_eq_true rfl) dX6_init_6 ?_
  refine nx_go (w := w + 1) (by dsimp only; omega) ?_; rintro T1 I1 J1 R1 c1 k1 a1 z1 y1; dsimp only at c1; have h1 := at_ke ha k1 (by omega) (by omega)
  refine pf_X6_9 rfl rfl dX6_init_8 (by first | assumption | rfl) ?_
  refine px_aload_0 dX6_init_11 ?_
  refine px_bipush (8) dX6_init_12 rfl ?_
  refine na_int (N := 8) (w := w + 2) (by (try dsimp only [px_nx, px_ty1, px_mm]); omega) rfl (by decide) (by refine ⟨?_, ?_⟩ <;> first | (dsimp only [px_rm]; omega) | exact Nat.le_of_ble_eq_true rfl) dX6_init_14 ?_
  refine nx_go (w := w + 2) (by dsimp only; omega) ?_; rintro T2 I2 J2 R2 c2 k2 a2 z2 y2; dsimp only at c2; have h2 := at_ke h1 k2 (by omega) (by omega)
  refine pf_X6_15 rfl rfl dX6_init_16 (by first | assumption | rfl) ?_
  refine px_aload_0 dX6_init_19 ?_
  refine px_bipush (14) dX6_init_20 rfl ?_
  refine an_X6_18 (N := 14) (w := w + 3) rfl (by (try dsimp only [px_nx, px_ty1, px_mm]); omega) rfl (by decide) (by refine ⟨?_, ?_⟩ <;> first | (dsimp only [px_rm]; omega) | exact Nat.le_of_ble_eq_true rfl) dX6_init_22 ?_
  refine nx_go (w := w + 3) (by dsimp only; omega) ?_; rintro T3 I3 J3 R3 c3 k3 a3 z3 y3; dsimp only at c3; have h3 := at_ke h2 k3 (by omega) (by omega)
  refine pf_X6_20 rfl rfl dX6_init_25 (by first | assumption | rfl) ?_
  refine px_aload_0 dX6_init_28 ?_
  refine px_bipush (6) dX6_init_29 rfl ?_
  refine an_X6_24 (N := 6) (w := w + 4) rfl (by (try dsimp only [px_nx, px_ty1, px_mm]); omega) rfl (by decide) (by refine ⟨?_, ?_⟩ <;> first | (dsimp only [px_rm]; omega) | exact Nat.le_of_ble_eq_true rfl) dX6_init_31 ?_
  refine nx_go (w := w + 4) (by dsimp only; omega) ?_; rintro T4 I4 J4 R4 c4 k4 a4 z4 y4; dsimp only at c4; have h4 := at_ke h3 k4 (by omega) (by omega); have b1 := at_ke (at_ke (at_ke a1 k2 (by omega) (by omega)) k3 (by omega) (by omega)) k4 (by omega) (by omega); have b2 := at_ke (at_ke a2 k3 (by omega) (by omega)) k4 (by omega) (by omega); have b3 := at_ke a3 k4 (by omega) (by omega); have r0 : px_up R4 w 3 (some (w + 4)) w 0 = some (w + 1) := by { rw [px_up_nj (by decide), ke_Ra k4 (by omega) (by omega), px_up_nj (by decide), ke_Ra k3 (by omega) (by omega), px_up_nj (by decide), ke_Ra k2 (by omega) (by omega), px_up_self] }
  refine pf_X6_26 rfl rfl dX6_init_34 (by first | assumption | rfl) ?_
  refine px_aload_0 dX6_init_37 ?_
  refine px_iconst (0) dX6_init_38 rfl ?_
  refine pf_X6_30 rfl dX6_init_39 (by first | assumption | rfl) ?_
  refine px_aload_0 dX6_init_42 ?_
  refine px_iconst (0) dX6_init_43 rfl ?_
  refine pf_X6_34 rfl dX6_init_44 (by first | assumption | rfl) ?_
  refine px_aload_0 dX6_init_47 ?_
  refine px_iconst (1) dX6_init_48 rfl ?_
  refine pf_X6_37 rfl dX6_init_49 (by first | assumption | rfl) ?_
  refine px_aload_0 dX6_init_52 ?_
  refine px_iconst (0) dX6_init_53 rfl ?_
  refine pf_X6_40 rfl dX6_init_54 (by first | assumption | rfl) ?_
  refine px_aload_0 dX6_init_57 ?_
  refine px_iconst (0) dX6_init_58 rfl ?_
  refine pf_X6_43 rfl dX6_init_59 (by first | assumption | rfl) ?_
  refine px_aload_0 dX6_init_62 ?_
  refine px_iconst (0) dX6_init_63 rfl ?_
  refine pf_X6_46 rfl dX6_init_64 (by first | assumption | rfl) ?_
  refine px_aload_0 dX6_init_67 ?_
  refine px_iconst (0) dX6_init_68 rfl ?_
  refine pf_X6_49 rfl dX6_init_69 (by first | assumption | rfl) ?_
  refine px_getsN fl_X6_52 dX6_init_72 hz0 ?_
  refine px_iconst (0) dX6_init_75 rfl ?_
  refine px_aload_0 dX6_init_76 ?_
  refine gf_X6_9 rfl dX6_init_77 (by first | assumption | rfl) (by first | assumption | rfl) ?_
  refine px_iconst (0) dX6_init_80 rfl ?_
  refine px_iconst (4) dX6_init_81 rfl ?_
  refine px_copyT (N := 4) ml_X6_55 rfl (by decide) ⟨Nat.le_of_ble_eq_true rfl, Nat.le_of_ble_eq_true rfl⟩ hq0 b1 dX6_init_82 ?_
  refine px_iconst (0) dX6_init_85 rfl ?_
  refine px_istore_1 dX6_init_86 rfl ?_
  skip
  refine L1 8 0 T4 _ J4 _ rfl (by omega) ?_ ⟨h4, ⟨r0, ?_, ?_, px_up_self _ _ _ _⟩, b1, b2, b3, a4⟩ ⟨fun j hj => ?_, ?_⟩ (fun t ht => absurd ht (Nat.not_lt_zero t))
  · refine ke_tr (ke_mo (Nat.le_refl _) (by omega) k1) (ke_tr (ke_R (by omega)) (ke_tr (ke_mo (Nat.le_refl _) (by omega) k2) (ke_tr (ke_R (by omega)) (ke_tr (ke_mo (Nat.le_refl _) (by omega) k3) (ke_tr (ke_R (by omega)) (ke_tr (ke_mo (Nat.le_refl _) (by omega) k4) (ke_tr (ke_R (by omega)) (ke_f (fun a _ hlt => ?_)))))))))
    rw [px_cpo_ne (by omega), px_up_ne (by omega), px_up_ne (by omega), px_up_ne (by omega), px_up_ne (by omega), px_up_ne (by omega), px_up_ne (by omega), px_up_ne (by omega)]
  · rw [px_up_nj (by decide), ke_Ra k4 (by omega) (by omega), px_up_nj (by decide), ke_Ra k3 (by omega) (by omega), px_up_self]
  · rw [px_up_nj (by decide), ke_Ra k4 (by omega) (by omega), px_up_self]
  · rw [px_cpo_at hj]
    rcases (by omega : j = 0 ∨ j = 1 ∨ j = 2 ∨ j = 3) with rfl | rfl | rfl | rfl <;> rfl
  · rw [px_cpo_ne (by omega)]
    simp only [px_up_at]
    exact ⟨⟨rfl, rfl⟩, rfl, rfl, rfl, rfl, rfl⟩
end CTR
