/-! what is undone; isHonestSo -/
section AHO
variable {l : Launch} {G : px_G} {T : px_T} {I I' I0 : px_I} {J : px_J} {R : px_R} {μ : px_M} {x y : Nat} {σ : px_s} {A B : px_a}
theorem push_top (kn : Nat) (H : Nat → px_s) (σ : px_s) : ¬ (h_push kn H σ).1 = 0 ∧ (h_push kn H σ).2 ((h_push kn H σ).1 - 1) = σ ∧ (h_push kn H σ).1 - 1 = (if kn = 6 then 5 else kn) := by
  unfold h_push
  by_cases h : kn = 6
  · rw [if_pos h, if_pos h]
    exact ⟨Nat.succ_ne_zero 5, rfl, rfl⟩
  · rw [if_neg h, if_neg h]
    refine ⟨by dsimp only; omega, ?_, by dsimp only; omega⟩
    dsimp only
    rw [if_neg (by omega)]
theorem o_undo2 (hx : px_co G T R x) (hV : px_AV A) {q : Int32 × px_s} (hq : ¬ q.1 < 0) (hVq : px_VV q.2) : ∃ A' : px_a, A'.1 = A.1 ∧ px_AV A' ∧ A'.2.1.1 = (if A.2.1.1 = 6 then 5 else A.2.1.1) ∧ ∀ (μ : px_M) (I0 : px_I), px_S1 T R I0 x (a_chg A q) μ → px_C l G 3 0 0 mX7_undo [.ref x] μ (px_QA T R I0 x (.int (nI (if A.2.1.1 = 6 then 5 else A.2.1.1))) A') := by
  have hV1 := AV_chg hV hVq
  unfold a_chg at hV1 ⊢
  rw [if_neg hq] at hV1 ⊢
  obtain ⟨t1, t2, t3⟩ := push_top A.2.1.1 A.2.1.2 A.1
  have hmix : ∀ k, k < 151 → A.1 k = f_mix q.2 ((h_push A.2.1.1 A.2.1.2 A.1).2 ((h_push A.2.1.1 A.2.1.2 A.1).1 - 1)) k := fun k hk => by
    rw [t2]; exact (if_pos hk).symm
  have hVm : px_VV (f_mix q.2 ((h_push A.2.1.1 A.2.1.2 A.1).2 ((h_push A.2.1.1 A.2.1.2 A.1).1 - 1))) := VV_mix hV.1 (fun k hk => (hmix k hk).symm)
  have hH : ∀ i, i < (h_push A.2.1.1 A.2.1.2 A.1).1 - 1 → px_VV ((h_push A.2.1.1 A.2.1.2 A.1).2 i) := fun i hi => hV1.2.1 i (by show i < (h_push A.2.1.1 A.2.1.2 A.1).1; omega)
  refine ⟨(A.1, ((h_push A.2.1.1 A.2.1.2 A.1).1 - 1, (h_push A.2.1.1 A.2.1.2 A.1).2), A.2.2), rfl, ⟨hV.1, hH, hV.2.2⟩, t3, fun μ I0 hS => ?_⟩
  refine px_C_mono (o_undo hx hS hV1 t1) ?_
  rintro v μ' ⟨rfl, hS'⟩
  refine ⟨by rw [← t3], ?_⟩
  exact S1_same hS' ⟨hVm, hH, hV.2.2⟩ hmix
theorem hb_1 {r k : Nat} (h : f_hon σ r k) : f_hb σ r k = 1 := f_hb1 h
theorem nlt_of_le {a b : Int32} (h : a ≤ b) : ¬ b < a := by
  rw [Int32.le_iff_toInt_le] at h
  rw [Int32.lt_iff_toInt_lt]
  omega
theorem nle_of_lt {a b : Int32} (h : a < b) : ¬ b ≤ a := by
  rw [Int32.lt_iff_toInt_lt] at h
  rw [Int32.le_iff_toInt_le]
  omega
theorem s_L_isHonestSo {t : Nat} (ht : t < 8) (hx : px_co G T R x) (hG : px_tabs G) (hS : px_S1 T R I0 x A μ) (hV : px_AV A) : px_C l G 7 0 0 mL_isHonestSo [.ref x, .int (nI t)] μ (fun v μ' => v = some (.int (if True then 1 else 0)) ∧ ∃ A' : px_a, A'.1 = A.1 ∧ px_AV A' ∧ px_S1 T R I0 x A' μ') := by
  have hVV := hV.1.1
  obtain ⟨m, m1, m2, em⟩ := mp_nI hVV (nI t) (2 * f_nr A.1) (Nat.le_refl _)
  have emost := (most_mp (σ := A.1) ht).trans em
  have hnn : ¬ (f_mkh A.1).1 < 0 := df_nn A.1
  have hVm := V_mkh hV.1
  obtain ⟨A3, a31, hV3, -, hundo⟩ := o_undo2 (l := l) hx hV hnn hVm
  have hV1 := AV_chg hV hVm
  have hA1 : (a_chg A (f_mkh A.1)).1 = (f_mkh A.1).2 := by unfold a_chg; rw [if_neg hnn]
  have hah1 := mkh_ah hV.1
  have hdf1 := mkh_df hV.1
  have hall := mkh_all hV.1
  have hpr := fun t (h : t < 8) => mkh_pr hV.1 h
  have hmk : ∀ (μ : px_M), px_S1 T R I0 x A μ → px_C l G 6 0 0 mX7_makeHonest [.ref x] μ (px_QA T R I0 x (.int (f_df A.1 8)) (a_chg A (f_mkh A.1))) := fun μ hS => o_makeHonest hx hG hS hV rfl
  rw [← hA1] at hah1 hdf1 hall hpr
  generalize a_chg A (f_mkh A.1) = A1 at *
  have hVV1 := hV1.1.1
  have n14 := hVV1.1.2.1
  have e8 := hVV1.1.1
  have p1 : ¬ A.1 t < A1.1 t := nlt_of_le (hpr t ht).1
  have p2 : ¬ A1.1 t ≤ 0 := nle_of_lt (hpr t ht).2
  have p3 : ¬ f_pt A1.1 8 < 0 := nlt_of_le pt_nn
  have kn5 : (if A.2.1.1 = 6 then 5 else A.2.1.1) < 7 ∨ 6 < A.2.1.1 := by
    by_cases z : A.2.1.1 = 6
    · rw [if_pos z]; omega
    · rw [if_neg z]; omega
  have kn6 : A.2.1.1 ≤ 6 := by
    obtain ⟨I, J, -, hc, -⟩ := hS
    obtain ⟨o, -, -, -, h6, -⟩ := hc.2.1
    exact h6
  have kn7 : ¬ nI (if A.2.1.1 = 6 then 5 else A.2.1.1) < 0 := nI_nneg (by omega)
  refine px_met (M := mL_isHonestSo) ([some (.ref x), some (.int (nI t)), none, none, none, none, none, none, none]) (by decide +kernel) rfl (Nat.le_of_ble_eq_true rfl) rfl ?_
  generalize hQ : (fun v μ' => v = some (Value.int (if True then 1 else 0)) ∧ ∃ A' : px_a, A'.1 = A.1 ∧ px_AV A' ∧ px_S1 T R I0 x A' μ' : Option Value → px_M → Prop) = Q
  have L256 : ∀ μ w, (w = 0 ∨ w = 1) → f_ah A.1 (f_nr A.1) = w → ∀ o2 o3 o7 o8, px_S1 T R I0 x A1 μ → (px_W l G yL_isHonestSo cL_isHonestSo 9 (some .boolean) (px_rm 7 0 0) (px_Fn G Q 0 0) 256 [some (.ref x), some (.int (nI t)), o2, o3, some (.int (A.1 t)), some (.int w), some (.int 1), o7, o8] [] 0 0 μ) := by
    intro μ w hw ha o2 o3 o7 o8 hS
    have ha3 : f_ah A3.1 (f_nr A3.1) = w := by rw [a31]; exact ha
    rcases hw with rfl | rfl
    · skip
      refine px_iload_6 dL_isHonestSo_256 ?_
      refine px_if_eq (tgt := 303) dL_isHonestSo_258 (by decide) (fun h258 => (by first | exact absurd h258 ((by decide)) | exact absurd ((by decide)) h258)) (fun h258 => ?_)
      refine px_aload_0 dL_isHonestSo_261 ?_
      refine cg_L_84 rfl ⟨⟨Nat.le_of_ble_eq_true rfl, Nat.le_of_ble_eq_true rfl⟩, Nat.le_of_ble_eq_true rfl, Nat.le_of_ble_eq_true rfl, Nat.le_of_ble_eq_true rfl⟩ (by first | assumption | exact S1_at hx hS) dL_isHonestSo_262 (hundo _ _ hS) ?_
      rintro _ μ1 ⟨rfl, hS⟩
      refine px_if_lt (tgt := 303) dL_isHonestSo_265 (by decide) (fun h265 => (by first | exact absurd h265 (kn7) | exact absurd (kn7) h265)) (fun h265 => ?_)
      refine px_aload_0 dL_isHonestSo_268 ?_
      refine px_iload_1 dL_isHonestSo_269 ?_
      refine px_iconst (0) dL_isHonestSo_270 rfl ?_
      refine cg_L_53 rfl ⟨⟨Nat.le_of_ble_eq_true rfl, Nat.le_of_ble_eq_true rfl⟩, Nat.le_of_ble_eq_true rfl, Nat.le_of_ble_eq_true rfl, Nat.le_of_ble_eq_true rfl⟩ (by first | assumption | exact S1_at hx hS) dL_isHonestSo_271 (o_ofTown hx hG hS hV3 ((ot_0 ht).trans (congrFun a31 t))) ?_
      rintro _ μ1 ⟨rfl, hS⟩
      refine px_iload_4 dL_isHonestSo_274 ?_
      refine px_icmp_ne (tgt := 303) dL_isHonestSo_276 (by decide) (fun h276 => (by first | exact absurd h276 ((rfl)) | exact absurd ((rfl)) h276)) (fun h276 => ?_)
      refine px_aload_0 dL_isHonestSo_279 ?_
      refine px_bipush (7) dL_isHonestSo_280 rfl ?_
      refine cg_L_14 rfl ⟨⟨Nat.le_of_ble_eq_true rfl, Nat.le_of_ble_eq_true rfl⟩, Nat.le_of_ble_eq_true rfl, Nat.le_of_ble_eq_true rfl, Nat.le_of_ble_eq_true rfl⟩ (by first | assumption | exact S1_at hx hS) dL_isHonestSo_282 (o_count hx hG hS hV3 (cnt_7.trans ha3)) ?_
      rintro _ μ1 ⟨rfl, hS⟩
      refine px_iconst (1) dL_isHonestSo_285 rfl ?_
      refine px_icmp_ne (tgt := 293) dL_isHonestSo_286 (by decide) (fun h286 => ?_) (fun h286 => (by first | exact absurd ((by decide)) h286 | exact absurd h286 ((by decide))))
      refine px_iconst (0) dL_isHonestSo_293 rfl ?_
      refine px_iload_5 dL_isHonestSo_294 ?_
      refine px_icmp_ne (tgt := 303) dL_isHonestSo_296 (by decide) (fun h296 => (by first | exact absurd h296 ((rfl)) | exact absurd ((rfl)) h296)) (fun h296 => ?_)
      refine px_iconst (1) dL_isHonestSo_299 rfl ?_
      refine px_goto (tgt := 304) dL_isHonestSo_300 (by decide) ?_
      refine px_zret dL_isHonestSo_304 (by first | rfl | exact px_nb _) ?_
      subst hQ; exact ⟨rfl, A3, a31, hV3, hS⟩
    · skip
      refine px_iload_6 dL_isHonestSo_256 ?_
      refine px_if_eq (tgt := 303) dL_isHonestSo_258 (by decide) (fun h258 => (by first | exact absurd h258 ((by decide)) | exact absurd ((by decide)) h258)) (fun h258 => ?_)
      refine px_aload_0 dL_isHonestSo_261 ?_
      refine cg_L_84 rfl ⟨⟨Nat.le_of_ble_eq_true rfl, Nat.le_of_ble_eq_true rfl⟩, Nat.le_of_ble_eq_true rfl, Nat.le_of_ble_eq_true rfl, Nat.le_of_ble_eq_true rfl⟩ (by first | assumption | exact S1_at hx hS) dL_isHonestSo_262 (hundo _ _ hS) ?_
      rintro _ μ1 ⟨rfl, hS⟩
      refine px_if_lt (tgt := 303) dL_isHonestSo_265 (by decide) (fun h265 => (by first | exact absurd h265 (kn7) | exact absurd (kn7) h265)) (fun h265 => ?_)
      refine px_aload_0 dL_isHonestSo_268 ?_
      refine px_iload_1 dL_isHonestSo_269 ?_
      refine px_iconst (0) dL_isHonestSo_270 rfl ?_
      refine cg_L_53 rfl ⟨⟨Nat.le_of_ble_eq_true rfl, Nat.le_of_ble_eq_true rfl⟩, Nat.le_of_ble_eq_true rfl, Nat.le_of_ble_eq_true rfl, Nat.le_of_ble_eq_true rfl⟩ (by first | assumption | exact S1_at hx hS) dL_isHonestSo_271 (o_ofTown hx hG hS hV3 ((ot_0 ht).trans (congrFun a31 t))) ?_
      rintro _ μ1 ⟨rfl, hS⟩
      refine px_iload_4 dL_isHonestSo_274 ?_
      refine px_icmp_ne (tgt := 303) dL_isHonestSo_276 (by decide) (fun h276 => (by first | exact absurd h276 ((rfl)) | exact absurd ((rfl)) h276)) (fun h276 => ?_)
      refine px_aload_0 dL_isHonestSo_279 ?_
      refine px_bipush (7) dL_isHonestSo_280 rfl ?_
      refine cg_L_14 rfl ⟨⟨Nat.le_of_ble_eq_true rfl, Nat.le_of_ble_eq_true rfl⟩, Nat.le_of_ble_eq_true rfl, Nat.le_of_ble_eq_true rfl, Nat.le_of_ble_eq_true rfl⟩ (by first | assumption | exact S1_at hx hS) dL_isHonestSo_282 (o_count hx hG hS hV3 (cnt_7.trans ha3)) ?_
      rintro _ μ1 ⟨rfl, hS⟩
      refine px_iconst (1) dL_isHonestSo_285 rfl ?_
      refine px_icmp_ne (tgt := 293) dL_isHonestSo_286 (by decide) (fun h286 => (by first | exact absurd h286 ((rfl)) | exact absurd ((rfl)) h286)) (fun h286 => ?_)
      refine px_iconst (1) dL_isHonestSo_289 rfl ?_
      refine px_goto (tgt := 294) dL_isHonestSo_290 (by decide) ?_
      refine px_iload_5 dL_isHonestSo_294 ?_
      refine px_icmp_ne (tgt := 303) dL_isHonestSo_296 (by decide) (fun h296 => (by first | exact absurd h296 ((rfl)) | exact absurd ((rfl)) h296)) (fun h296 => ?_)
      refine px_iconst (1) dL_isHonestSo_299 rfl ?_
      refine px_goto (tgt := 304) dL_isHonestSo_300 (by decide) ?_
      refine px_zret dL_isHonestSo_304 (by first | rfl | exact px_nb _) ?_
      subst hQ; exact ⟨rfl, A3, a31, hV3, hS⟩
  have L180 : ∀ n k, k + n = f_nr A1.1 → ∀ μ w, (w = 0 ∨ w = 1) → f_ah A.1 (f_nr A.1) = w → ∀ o2 o3 o8, px_S1 T R I0 x A1 μ → (px_W l G yL_isHonestSo cL_isHonestSo 9 (some .boolean) (px_rm 7 0 0) (px_Fn G Q 0 0) 180 [some (.ref x), some (.int (nI t)), o2, o3, some (.int (A.1 t)), some (.int w), some (.int 1), some (.int (nI k)), o8] [] 0 0 μ) := by
    intro n
    induction n with
    | zero =>
      intro k hk μ w hw ha o2 o3 o8 hS
      obtain rfl : k = f_nr A1.1 := by omega
      refine px_iload_7 dL_isHonestSo_180 ?_
      refine px_aload_0 dL_isHonestSo_182 ?_
      refine px_iconst (0) dL_isHonestSo_183 rfl ?_
      refine cg_L_14 rfl ⟨⟨Nat.le_of_ble_eq_true rfl, Nat.le_of_ble_eq_true rfl⟩, Nat.le_of_ble_eq_true rfl, Nat.le_of_ble_eq_true rfl, Nat.le_of_ble_eq_true rfl⟩ (by first | assumption | exact S1_at hx hS) dL_isHonestSo_184 (o_count hx hG hS hV1 cnt_0) ?_
      rintro _ μ1 ⟨rfl, hS⟩; rw [e8]
      refine px_icmp_ge (tgt := 256) dL_isHonestSo_187 (by decide) (fun h187 => ?_) (fun h187 => (by first | exact absurd ((nI_le (Nat.le_refl _) (by omega))) h187 | exact absurd h187 ((nI_le (Nat.le_refl _) (by omega)))))
      exact L256 _ _ hw ha _ _ _ _ hS
    | succ n ih =>
      intro k hk μ w hw ha o2 o3 o8 hS
      have hr : k < f_nr A1.1 := by omega
      have hge : ¬ nI (f_nr A1.1) ≤ nI k := nI_ge hr (by omega)
      obtain ⟨g, g1, g2, eg⟩ := fg_le hVV1 hr (hall k hr)
      have g3 := nlt_of_le g2
      have g4 : ¬ nI g < 0 := nI_nneg (by omega)
      refine px_iload_7 dL_isHonestSo_180 ?_
      refine px_aload_0 dL_isHonestSo_182 ?_
      refine px_iconst (0) dL_isHonestSo_183 rfl ?_
      refine cg_L_14 rfl ⟨⟨Nat.le_of_ble_eq_true rfl, Nat.le_of_ble_eq_true rfl⟩, Nat.le_of_ble_eq_true rfl, Nat.le_of_ble_eq_true rfl, Nat.le_of_ble_eq_true rfl⟩ (by first | assumption | exact S1_at hx hS) dL_isHonestSo_184 (o_count hx hG hS hV1 cnt_0) ?_
      rintro _ μ1 ⟨rfl, hS⟩; rw [e8]
      refine px_icmp_ge (tgt := 256) dL_isHonestSo_187 (by decide) (fun h187 => (by first | exact absurd h187 (hge) | exact absurd (hge) h187)) (fun h187 => ?_)
      refine px_aload_0 dL_isHonestSo_190 ?_
      refine px_iload_7 dL_isHonestSo_191 ?_
      refine cg_L_81 rfl ⟨⟨Nat.le_of_ble_eq_true rfl, Nat.le_of_ble_eq_true rfl⟩, Nat.le_of_ble_eq_true rfl, Nat.le_of_ble_eq_true rfl, Nat.le_of_ble_eq_true rfl⟩ (by first | assumption | exact S1_at hx hS) dL_isHonestSo_193 (o_fewestGuards hx hG hS hV1 eg) ?_
      rintro _ μ1 ⟨rfl, hS⟩
      refine px_istore_8 dL_isHonestSo_196 rfl ?_
      refine px_iload_6 dL_isHonestSo_198 ?_
      refine px_if_eq (tgt := 247) dL_isHonestSo_200 (by decide) (fun h200 => (by first | exact absurd h200 ((by decide)) | exact absurd ((by decide)) h200)) (fun h200 => ?_)
      refine px_aload_0 dL_isHonestSo_203 ?_
      refine px_iload_7 dL_isHonestSo_204 ?_
      refine px_iconst (5) dL_isHonestSo_206 rfl ?_
      refine cg_L_56 rfl ⟨⟨Nat.le_of_ble_eq_true rfl, Nat.le_of_ble_eq_true rfl⟩, Nat.le_of_ble_eq_true rfl, Nat.le_of_ble_eq_true rfl, Nat.le_of_ble_eq_true rfl⟩ (by first | assumption | exact S1_at hx hS) dL_isHonestSo_207 (o_ofRoad hx hG hS hV1 ((or_5 hVV1 hr).trans (hb_1 (hall k hr).1))) ?_
      rintro _ μ1 ⟨rfl, hS⟩
      refine px_iconst (1) dL_isHonestSo_210 rfl ?_
      refine px_icmp_ne (tgt := 247) dL_isHonestSo_211 (by decide) (fun h211 => (by first | exact absurd h211 ((rfl)) | exact absurd ((rfl)) h211)) (fun h211 => ?_)
      refine px_aload_0 dL_isHonestSo_214 ?_
      refine px_iload_7 dL_isHonestSo_215 ?_
      refine px_bipush (6) dL_isHonestSo_217 rfl ?_
      refine cg_L_56 rfl ⟨⟨Nat.le_of_ble_eq_true rfl, Nat.le_of_ble_eq_true rfl⟩, Nat.le_of_ble_eq_true rfl, Nat.le_of_ble_eq_true rfl, Nat.le_of_ble_eq_true rfl⟩ (by first | assumption | exact S1_at hx hS) dL_isHonestSo_219 (o_ofRoad hx hG hS hV1 ((or_6 hVV1 hr).trans (hb_1 (hall k hr).2))) ?_
      rintro _ μ1 ⟨rfl, hS⟩
      refine px_iconst (1) dL_isHonestSo_222 rfl ?_
      refine px_icmp_ne (tgt := 247) dL_isHonestSo_223 (by decide) (fun h223 => (by first | exact absurd h223 ((rfl)) | exact absurd ((rfl)) h223)) (fun h223 => ?_)
      refine px_iload_8 dL_isHonestSo_226 ?_
      refine px_if_lt (tgt := 247) dL_isHonestSo_228 (by decide) (fun h228 => (by first | exact absurd h228 (g4) | exact absurd (g4) h228)) (fun h228 => ?_)
      refine px_iload_8 dL_isHonestSo_231 ?_
      refine px_aload_0 dL_isHonestSo_233 ?_
      refine px_iload_7 dL_isHonestSo_234 ?_
      refine px_iconst (3) dL_isHonestSo_236 rfl ?_
      refine cg_L_56 rfl ⟨⟨Nat.le_of_ble_eq_true rfl, Nat.le_of_ble_eq_true rfl⟩, Nat.le_of_ble_eq_true rfl, Nat.le_of_ble_eq_true rfl, Nat.le_of_ble_eq_true rfl⟩ (by first | assumption | exact S1_at hx hS) dL_isHonestSo_237 (o_ofRoad hx hG hS hV1 (or_3 hVV1 hr)) ?_
      rintro _ μ1 ⟨rfl, hS⟩
      refine px_icmp_gt (tgt := 247) dL_isHonestSo_240 (by decide) (fun h240 => (by first | exact absurd h240 (g3) | exact absurd (g3) h240)) (fun h240 => ?_)
      refine px_iconst (1) dL_isHonestSo_243 rfl ?_
      refine px_goto (tgt := 248) dL_isHonestSo_244 (by decide) ?_
      refine px_istore_6 dL_isHonestSo_248 rfl ?_
      refine px_iinc_7 dL_isHonestSo_250 rfl ?_
      refine px_goto (tgt := 180) dL_isHonestSo_253 (by decide) ?_
      rw [inc_nI]; exact ih (k + 1) (by omega) _ _ hw ha _ _ _ hS
  have L136 : ∀ n k, k + n = 8 → ∀ μ w, (w = 0 ∨ w = 1) → f_ah A.1 (f_nr A.1) = w → ∀ o2 o3 o8, px_S1 T R I0 x A1 μ → (px_W l G yL_isHonestSo cL_isHonestSo 9 (some .boolean) (px_rm 7 0 0) (px_Fn G Q 0 0) 136 [some (.ref x), some (.int (nI t)), o2, o3, some (.int (A.1 t)), some (.int w), some (.int 1), some (.int (nI k)), o8] [] 0 0 μ) := by
    intro n
    induction n with
    | zero =>
      intro k hk μ w hw ha o2 o3 o8 hS
      obtain rfl : k = 8 := by omega
      refine px_iload_7 dL_isHonestSo_136 ?_
      refine px_bipush (8) dL_isHonestSo_138 rfl ?_
      refine px_icmp_ge (tgt := 177) dL_isHonestSo_140 (by decide) (fun h140 => ?_) (fun h140 => (by first | exact absurd ((nI_le (a := 8) (b := 8) (by omega) (by omega))) h140 | exact absurd h140 ((nI_le (a := 8) (b := 8) (by omega) (by omega)))))
      refine px_iconst (0) dL_isHonestSo_177 rfl ?_
      refine px_istore_7 dL_isHonestSo_178 rfl ?_
      exact L180 _ 0 (Nat.zero_add _) _ _ hw ha _ _ _ hS
    | succ n ih =>
      intro k hk μ w hw ha o2 o3 o8 hS
      have hk8 : k < 8 := by omega
      have hge : ¬ (8 : Int32) ≤ nI k := nI_ge (a := k) (b := 8) (by omega) (by omega)
      have hm := nlt_of_le (mp_ge hVV1 hall hk8 (2 * f_nr A1.1) (Nat.le_refl _))
      refine px_iload_7 dL_isHonestSo_136 ?_
      refine px_bipush (8) dL_isHonestSo_138 rfl ?_
      refine px_icmp_ge (tgt := 177) dL_isHonestSo_140 (by decide) (fun h140 => (by first | exact absurd h140 (hge) | exact absurd (hge) h140)) (fun h140 => ?_)
      refine px_iload_6 dL_isHonestSo_143 ?_
      refine px_if_eq (tgt := 168) dL_isHonestSo_145 (by decide) (fun h145 => (by first | exact absurd h145 ((by decide)) | exact absurd ((by decide)) h145)) (fun h145 => ?_)
      refine px_aload_0 dL_isHonestSo_148 ?_
      refine px_iload_7 dL_isHonestSo_149 ?_
      refine cg_L_78 rfl ⟨⟨Nat.le_of_ble_eq_true rfl, Nat.le_of_ble_eq_true rfl⟩, Nat.le_of_ble_eq_true rfl, Nat.le_of_ble_eq_true rfl, Nat.le_of_ble_eq_true rfl⟩ (by first | assumption | exact S1_at hx hS) dL_isHonestSo_151 (o_mostPrice hx hG hS hV1 (most_mp hk8)) ?_
      rintro _ μ1 ⟨rfl, hS⟩
      refine px_aload_0 dL_isHonestSo_154 ?_
      refine px_iload_7 dL_isHonestSo_155 ?_
      refine px_iconst (0) dL_isHonestSo_157 rfl ?_
      refine cg_L_53 rfl ⟨⟨Nat.le_of_ble_eq_true rfl, Nat.le_of_ble_eq_true rfl⟩, Nat.le_of_ble_eq_true rfl, Nat.le_of_ble_eq_true rfl, Nat.le_of_ble_eq_true rfl⟩ (by first | assumption | exact S1_at hx hS) dL_isHonestSo_158 (o_ofTown hx hG hS hV1 (ot_0 hk8)) ?_
      rintro _ μ1 ⟨rfl, hS⟩
      refine px_icmp_lt (tgt := 168) dL_isHonestSo_161 (by decide) (fun h161 => (by first | exact absurd h161 (hm) | exact absurd (hm) h161)) (fun h161 => ?_)
      refine px_iconst (1) dL_isHonestSo_164 rfl ?_
      refine px_goto (tgt := 169) dL_isHonestSo_165 (by decide) ?_
      refine px_istore_6 dL_isHonestSo_169 rfl ?_
      refine px_iinc_7 dL_isHonestSo_171 rfl ?_
      refine px_goto (tgt := 136) dL_isHonestSo_174 (by decide) ?_
      rw [inc_nI]; exact ih (k + 1) (by omega) _ _ hw ha _ _ _ hS
  have L72 : ∀ μ w, (w = 0 ∨ w = 1) → f_ah A.1 (f_nr A.1) = w → ∀ o3 o6 o7 o8, px_S1 T R I0 x A μ → (px_W l G yL_isHonestSo cL_isHonestSo 9 (some .boolean) (px_rm 7 0 0) (px_Fn G Q 0 0) 72 [some (.ref x), some (.int (nI t)), some (.int (f_df A.1 8)), o3, some (.int (A.1 t)), some (.int w), o6, o7, o8] [] 0 0 μ) := by
    intro μ w hw ha o3 o6 o7 o8 hS
    refine px_aload_0 dL_isHonestSo_72 ?_
    refine cg_L_49 rfl ⟨⟨Nat.le_of_ble_eq_true rfl, Nat.le_of_ble_eq_true rfl⟩, Nat.le_of_ble_eq_true rfl, Nat.le_of_ble_eq_true rfl, Nat.le_of_ble_eq_true rfl⟩ (by first | assumption | exact S1_at hx hS) dL_isHonestSo_73 (hmk _ hS) ?_
    rintro _ μ1 ⟨rfl, hS⟩
    refine px_iload_2 dL_isHonestSo_76 ?_
    refine px_icmp_ne (tgt := 130) dL_isHonestSo_77 (by decide) (fun h77 => (by first | exact absurd h77 ((rfl)) | exact absurd ((rfl)) h77)) (fun h77 => ?_)
    refine px_aload_0 dL_isHonestSo_80 ?_
    refine px_bipush (7) dL_isHonestSo_81 rfl ?_
    refine cg_L_14 rfl ⟨⟨Nat.le_of_ble_eq_true rfl, Nat.le_of_ble_eq_true rfl⟩, Nat.le_of_ble_eq_true rfl, Nat.le_of_ble_eq_true rfl, Nat.le_of_ble_eq_true rfl⟩ (by first | assumption | exact S1_at hx hS) dL_isHonestSo_83 (o_count hx hG hS hV1 (cnt_7.trans hah1)) ?_
    rintro _ μ1 ⟨rfl, hS⟩
    refine px_iconst (1) dL_isHonestSo_86 rfl ?_
    refine px_icmp_ne (tgt := 130) dL_isHonestSo_87 (by decide) (fun h87 => (by first | exact absurd h87 ((rfl)) | exact absurd ((rfl)) h87)) (fun h87 => ?_)
    refine px_aload_0 dL_isHonestSo_90 ?_
    refine cg_L_75 rfl ⟨⟨Nat.le_of_ble_eq_true rfl, Nat.le_of_ble_eq_true rfl⟩, Nat.le_of_ble_eq_true rfl, Nat.le_of_ble_eq_true rfl, Nat.le_of_ble_eq_true rfl⟩ (by first | assumption | exact S1_at hx hS) dL_isHonestSo_91 (o_ifHonest hx hG hS hV1 hdf1) ?_
    rintro _ μ1 ⟨rfl, hS⟩
    refine px_if_ne (tgt := 130) dL_isHonestSo_94 (by decide) (fun h94 => (by first | exact absurd h94 ((rfl)) | exact absurd ((rfl)) h94)) (fun h94 => ?_)
    refine px_aload_0 dL_isHonestSo_97 ?_
    refine px_iload_1 dL_isHonestSo_98 ?_
    refine px_iconst (0) dL_isHonestSo_99 rfl ?_
    refine cg_L_53 rfl ⟨⟨Nat.le_of_ble_eq_true rfl, Nat.le_of_ble_eq_true rfl⟩, Nat.le_of_ble_eq_true rfl, Nat.le_of_ble_eq_true rfl, Nat.le_of_ble_eq_true rfl⟩ (by first | assumption | exact S1_at hx hS) dL_isHonestSo_100 (o_ofTown hx hG hS hV1 (ot_0 ht)) ?_
    rintro _ μ1 ⟨rfl, hS⟩
    refine px_iload_4 dL_isHonestSo_103 ?_
    refine px_icmp_gt (tgt := 130) dL_isHonestSo_105 (by decide) (fun h105 => (by first | exact absurd h105 (p1) | exact absurd (p1) h105)) (fun h105 => ?_)
    refine px_aload_0 dL_isHonestSo_108 ?_
    refine px_iload_1 dL_isHonestSo_109 ?_
    refine px_iconst (0) dL_isHonestSo_110 rfl ?_
    refine cg_L_53 rfl ⟨⟨Nat.le_of_ble_eq_true rfl, Nat.le_of_ble_eq_true rfl⟩, Nat.le_of_ble_eq_true rfl, Nat.le_of_ble_eq_true rfl, Nat.le_of_ble_eq_true rfl⟩ (by first | assumption | exact S1_at hx hS) dL_isHonestSo_111 (o_ofTown hx hG hS hV1 (ot_0 ht)) ?_
    rintro _ μ1 ⟨rfl, hS⟩
    refine px_if_le (tgt := 130) dL_isHonestSo_114 (by decide) (fun h114 => (by first | exact absurd h114 (p2) | exact absurd (p2) h114)) (fun h114 => ?_)
    refine px_aload_0 dL_isHonestSo_117 ?_
    refine px_bipush (8) dL_isHonestSo_118 rfl ?_
    refine cg_L_14 rfl ⟨⟨Nat.le_of_ble_eq_true rfl, Nat.le_of_ble_eq_true rfl⟩, Nat.le_of_ble_eq_true rfl, Nat.le_of_ble_eq_true rfl, Nat.le_of_ble_eq_true rfl⟩ (by first | assumption | exact S1_at hx hS) dL_isHonestSo_120 (o_count hx hG hS hV1 cnt_8) ?_
    rintro _ μ1 ⟨rfl, hS⟩
    refine px_if_lt (tgt := 130) dL_isHonestSo_123 (by decide) (fun h123 => (by first | exact absurd h123 (p3) | exact absurd (p3) h123)) (fun h123 => ?_)
    refine px_iconst (1) dL_isHonestSo_126 rfl ?_
    refine px_goto (tgt := 131) dL_isHonestSo_127 (by decide) ?_
    refine px_istore_6 dL_isHonestSo_131 rfl ?_
    refine px_iconst (0) dL_isHonestSo_133 rfl ?_
    refine px_istore_7 dL_isHonestSo_134 rfl ?_
    exact L136 8 0 rfl _ _ hw ha _ _ _ hS
  rcases ah_01 (σ := A.1) (f_nr A.1) with ha | ha
  · have hd : ¬ f_df A.1 8 = 0 := fun q => absurd ((df_ah hVV).mp q) (by rw [ha]; decide)
    refine px_aload_0 dL_isHonestSo_0 ?_
    refine cg_L_75 rfl ⟨⟨Nat.le_of_ble_eq_true rfl, Nat.le_of_ble_eq_true rfl⟩, Nat.le_of_ble_eq_true rfl, Nat.le_of_ble_eq_true rfl, Nat.le_of_ble_eq_true rfl⟩ (by first | assumption | exact S1_at hx hS) dL_isHonestSo_1 (o_ifHonest hx hG hS hV rfl) ?_
    rintro _ μ1 ⟨rfl, hS⟩
    refine px_istore_2 dL_isHonestSo_4 rfl ?_
    refine px_aload_0 dL_isHonestSo_5 ?_
    refine px_iload_1 dL_isHonestSo_6 ?_
    refine cg_L_78 rfl ⟨⟨Nat.le_of_ble_eq_true rfl, Nat.le_of_ble_eq_true rfl⟩, Nat.le_of_ble_eq_true rfl, Nat.le_of_ble_eq_true rfl, Nat.le_of_ble_eq_true rfl⟩ (by first | assumption | exact S1_at hx hS) dL_isHonestSo_7 (o_mostPrice hx hG hS hV emost) ?_
    rintro _ μ1 ⟨rfl, hS⟩
    refine px_istore_3 dL_isHonestSo_10 rfl ?_
    refine px_aload_0 dL_isHonestSo_11 ?_
    refine px_iload_1 dL_isHonestSo_12 ?_
    refine px_iconst (0) dL_isHonestSo_13 rfl ?_
    refine cg_L_53 rfl ⟨⟨Nat.le_of_ble_eq_true rfl, Nat.le_of_ble_eq_true rfl⟩, Nat.le_of_ble_eq_true rfl, Nat.le_of_ble_eq_true rfl, Nat.le_of_ble_eq_true rfl⟩ (by first | assumption | exact S1_at hx hS) dL_isHonestSo_14 (o_ofTown hx hG hS hV (ot_0 ht)) ?_
    rintro _ μ1 ⟨rfl, hS⟩
    refine px_istore_4 dL_isHonestSo_17 rfl ?_
    refine px_aload_0 dL_isHonestSo_19 ?_
    refine px_bipush (7) dL_isHonestSo_20 rfl ?_
    refine cg_L_14 rfl ⟨⟨Nat.le_of_ble_eq_true rfl, Nat.le_of_ble_eq_true rfl⟩, Nat.le_of_ble_eq_true rfl, Nat.le_of_ble_eq_true rfl, Nat.le_of_ble_eq_true rfl⟩ (by first | assumption | exact S1_at hx hS) dL_isHonestSo_22 (o_count hx hG hS hV (cnt_7.trans ha)) ?_
    rintro _ μ1 ⟨rfl, hS⟩
    refine px_iconst (1) dL_isHonestSo_25 rfl ?_
    refine px_icmp_ne (tgt := 33) dL_isHonestSo_26 (by decide) (fun h26 => ?_) (fun h26 => (by first | exact absurd ((by decide)) h26 | exact absurd h26 ((by decide))))
    refine px_iconst (0) dL_isHonestSo_33 rfl ?_
    refine px_istore_5 dL_isHonestSo_34 rfl ?_
    refine px_iload_2 dL_isHonestSo_36 ?_
    refine px_if_ne (tgt := 44) dL_isHonestSo_37 (by decide) (fun h37 => ?_) (fun h37 => (by first | exact absurd (hd) h37 | exact absurd h37 (hd)))
    refine px_iconst (0) dL_isHonestSo_44 rfl ?_
    refine px_iload_5 dL_isHonestSo_45 ?_
    refine px_icmp_ne (tgt := 130) dL_isHonestSo_47 (by decide) (fun h47 => (by first | exact absurd h47 ((rfl)) | exact absurd ((rfl)) h47)) (fun h47 => ?_)
    refine px_iload_3 dL_isHonestSo_50 ?_
    refine px_if_le (tgt := 130) dL_isHonestSo_51 (by decide) (fun h51 => (by first | exact absurd h51 ((nI_nle (by omega) (by omega))) | exact absurd ((nI_nle (by omega) (by omega))) h51)) (fun h51 => ?_)
    refine px_iload_3 dL_isHonestSo_54 ?_
    refine px_sipush (1000) dL_isHonestSo_55 rfl ?_
    refine px_icmp_ge (tgt := 130) dL_isHonestSo_58 (by decide) (fun h58 => (by first | exact absurd h58 ((nI_ge (b := 1000) (by omega) (by omega))) | exact absurd ((nI_ge (b := 1000) (by omega) (by omega))) h58)) (fun h58 => ?_)
    refine px_iload_5 dL_isHonestSo_61 ?_
    refine px_if_eq (tgt := 72) dL_isHonestSo_63 (by decide) (fun h63 => ?_) (fun h63 => (by first | exact absurd ((rfl)) h63 | exact absurd h63 ((rfl))))
    exact L72 _ 0 (Or.inl rfl) ha _ _ _ _ hS
  · have hd : f_df A.1 8 = 0 := (df_ah hVV).mpr ha
    have hm : ¬ nI m < A.1 t := by
      rw [← em]
      exact nlt_of_le (mp_ge hVV (ah_all ha) ht (2 * f_nr A.1) (Nat.le_refl _))
    refine px_aload_0 dL_isHonestSo_0 ?_
    refine cg_L_75 rfl ⟨⟨Nat.le_of_ble_eq_true rfl, Nat.le_of_ble_eq_true rfl⟩, Nat.le_of_ble_eq_true rfl, Nat.le_of_ble_eq_true rfl, Nat.le_of_ble_eq_true rfl⟩ (by first | assumption | exact S1_at hx hS) dL_isHonestSo_1 (o_ifHonest hx hG hS hV rfl) ?_
    rintro _ μ1 ⟨rfl, hS⟩
    refine px_istore_2 dL_isHonestSo_4 rfl ?_
    refine px_aload_0 dL_isHonestSo_5 ?_
    refine px_iload_1 dL_isHonestSo_6 ?_
    refine cg_L_78 rfl ⟨⟨Nat.le_of_ble_eq_true rfl, Nat.le_of_ble_eq_true rfl⟩, Nat.le_of_ble_eq_true rfl, Nat.le_of_ble_eq_true rfl, Nat.le_of_ble_eq_true rfl⟩ (by first | assumption | exact S1_at hx hS) dL_isHonestSo_7 (o_mostPrice hx hG hS hV emost) ?_
    rintro _ μ1 ⟨rfl, hS⟩
    refine px_istore_3 dL_isHonestSo_10 rfl ?_
    refine px_aload_0 dL_isHonestSo_11 ?_
    refine px_iload_1 dL_isHonestSo_12 ?_
    refine px_iconst (0) dL_isHonestSo_13 rfl ?_
    refine cg_L_53 rfl ⟨⟨Nat.le_of_ble_eq_true rfl, Nat.le_of_ble_eq_true rfl⟩, Nat.le_of_ble_eq_true rfl, Nat.le_of_ble_eq_true rfl, Nat.le_of_ble_eq_true rfl⟩ (by first | assumption | exact S1_at hx hS) dL_isHonestSo_14 (o_ofTown hx hG hS hV (ot_0 ht)) ?_
    rintro _ μ1 ⟨rfl, hS⟩
    refine px_istore_4 dL_isHonestSo_17 rfl ?_
    refine px_aload_0 dL_isHonestSo_19 ?_
    refine px_bipush (7) dL_isHonestSo_20 rfl ?_
    refine cg_L_14 rfl ⟨⟨Nat.le_of_ble_eq_true rfl, Nat.le_of_ble_eq_true rfl⟩, Nat.le_of_ble_eq_true rfl, Nat.le_of_ble_eq_true rfl, Nat.le_of_ble_eq_true rfl⟩ (by first | assumption | exact S1_at hx hS) dL_isHonestSo_22 (o_count hx hG hS hV (cnt_7.trans ha)) ?_
    rintro _ μ1 ⟨rfl, hS⟩
    refine px_iconst (1) dL_isHonestSo_25 rfl ?_
    refine px_icmp_ne (tgt := 33) dL_isHonestSo_26 (by decide) (fun h26 => (by first | exact absurd h26 ((rfl)) | exact absurd ((rfl)) h26)) (fun h26 => ?_)
    refine px_iconst (1) dL_isHonestSo_29 rfl ?_
    refine px_goto (tgt := 34) dL_isHonestSo_30 (by decide) ?_
    refine px_istore_5 dL_isHonestSo_34 rfl ?_
    refine px_iload_2 dL_isHonestSo_36 ?_
    refine px_if_ne (tgt := 44) dL_isHonestSo_37 (by decide) (fun h37 => (by first | exact absurd h37 (hd) | exact absurd (hd) h37)) (fun h37 => ?_)
    refine px_iconst (1) dL_isHonestSo_40 rfl ?_
    refine px_goto (tgt := 45) dL_isHonestSo_41 (by decide) ?_
    refine px_iload_5 dL_isHonestSo_45 ?_
    refine px_icmp_ne (tgt := 130) dL_isHonestSo_47 (by decide) (fun h47 => (by first | exact absurd h47 ((rfl)) | exact absurd ((rfl)) h47)) (fun h47 => ?_)
    refine px_iload_3 dL_isHonestSo_50 ?_
    refine px_if_le (tgt := 130) dL_isHonestSo_51 (by decide) (fun h51 => (by first | exact absurd h51 ((nI_nle (by omega) (by omega))) | exact absurd ((nI_nle (by omega) (by omega))) h51)) (fun h51 => ?_)
    refine px_iload_3 dL_isHonestSo_54 ?_
    refine px_sipush (1000) dL_isHonestSo_55 rfl ?_
    refine px_icmp_ge (tgt := 130) dL_isHonestSo_58 (by decide) (fun h58 => (by first | exact absurd h58 ((nI_ge (b := 1000) (by omega) (by omega))) | exact absurd ((nI_ge (b := 1000) (by omega) (by omega))) h58)) (fun h58 => ?_)
    refine px_iload_5 dL_isHonestSo_61 ?_
    refine px_if_eq (tgt := 72) dL_isHonestSo_63 (by decide) (fun h63 => (by first | exact absurd h63 ((by decide)) | exact absurd ((by decide)) h63)) (fun h63 => ?_)
    refine px_iload_4 dL_isHonestSo_66 ?_
    refine px_iload_3 dL_isHonestSo_68 ?_
    refine px_icmp_gt (tgt := 130) dL_isHonestSo_69 (by decide) (fun h69 => (by first | exact absurd h69 (hm) | exact absurd (hm) h69)) (fun h69 => ?_)
    exact L72 _ 1 (Or.inr rfl) ha _ _ _ _ hS
end AHO

