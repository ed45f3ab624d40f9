/-! areSums -/
section ASU
variable {l : Launch} {G : px_G} {T : px_T} {I I' I0 : px_I} {J : px_J} {R : px_R} {μ : px_M} {x y : Nat} {σ : px_s} {A B : px_a}
theorem rg_nlt {v a b c : Int32} (h : rg v a b) (hc : b.toInt < c.toInt) : ¬ c ≤ v := by
  rw [rg_ti] at h
  rw [Int32.le_iff_toInt_le]
  omega
theorem cr_tern (σ : px_s) (r : Nat) : (σ 143 * σ (9 + 6 * r + 3) ≤ 90 → f_cr σ r = σ 143 * σ (9 + 6 * r + 3)) ∧ (¬ σ 143 * σ (9 + 6 * r + 3) ≤ 90 → f_cr σ r = 90) := by
  unfold f_cr f_ch
  generalize σ 143 * σ (9 + 6 * r + 3) = z
  refine ⟨fun h => ?_, fun h => ?_⟩
  · split
    · rfl
    · rename_i q
      rw [Int32.le_iff_toInt_le] at h
      rw [Int32.lt_iff_toInt_lt] at q
      apply Int32.toInt_inj.mp; omega
  · rw [if_neg]
    intro q
    rw [Int32.le_iff_toInt_le] at h
    rw [Int32.lt_iff_toInt_lt] at q
    omega
theorem s_L_areSums (hx : px_co G T R x) (hG : px_tabs G) (hS : px_S1 T R I0 x A μ) (hV : px_AV A) (hU : px_U A.1) : px_C l G 7 0 0 mL_areSums [.ref x] μ (px_QA T R I0 x (.int (if True then 1 else 0)) A) := by
  obtain ⟨-, u1, u2, u3, u4, u5⟩ := id hU
  have n14 := hV.1.1.1.2.1
  have n6 := hV.1.1.1.2.2.2
  have e8 := hV.1.1.1.1
  have e93 := hV.1.1.1.2.2.1
  refine px_met (M := mL_areSums) ([some (.ref x), none, none, none, none, none, none, none, none]) (by decide +kernel) rfl (Nat.le_of_ble_eq_true rfl) rfl ?_
  generalize hQ : px_QA T R I0 x (.int (if True then 1 else 0)) A = Q
  have L3 : ∀ μ o7 o8, px_S1 T R I0 x A μ → (px_W l G yL_areSums cL_areSums 9 (some .boolean) (px_rm 7 0 0) (px_Fn G Q 0 0) 321 [some (.ref x), some (.int (f_cs A.1 1)), some (.int (f_cs A.1 2)), some (.int (f_paid A.1 (f_nc A.1))), some (.int (f_cs A.1 7)), some (.int (f_gs A.1)), some (.int 1), o7, o8] [] 0 0 μ) := by
    intro μ o7 o8 hS
    refine px_iload_6 dL_areSums_321 ?_
    refine px_if_eq (tgt := 415) dL_areSums_323 (by decide) (fun h323 => (by first | exact absurd h323 ((by decide)) | exact absurd ((by decide)) h323)) (fun h323 => ?_)
    refine px_iload_1 dL_areSums_326 ?_
    refine px_aload_0 dL_areSums_327 ?_
    refine px_bipush (9) dL_areSums_328 rfl ?_
    refine cg_L_14 rfl ⟨⟨Nat.le_of_ble_eq_true rfl, Nat.le_of_ble_eq_true rfl⟩, Nat.le_of_ble_eq_true rfl, Nat.le_of_ble_eq_true rfl, Nat.le_of_ble_eq_true rfl⟩ (by first | assumption | exact S1_at hx hS) dL_areSums_330 (o_count hx hG hS hV cnt_9) ?_
    rintro _ μ1 ⟨rfl, hS⟩
    refine px_icmp_ne (tgt := 415) dL_areSums_333 (by decide) (fun h333 => (by first | exact absurd h333 ((rfl)) | exact absurd ((rfl)) h333)) (fun h333 => ?_)
    refine px_iload_2 dL_areSums_336 ?_
    refine px_aload_0 dL_areSums_337 ?_
    refine px_iconst (3) dL_areSums_338 rfl ?_
    refine cg_L_14 rfl ⟨⟨Nat.le_of_ble_eq_true rfl, Nat.le_of_ble_eq_true rfl⟩, Nat.le_of_ble_eq_true rfl, Nat.le_of_ble_eq_true rfl, Nat.le_of_ble_eq_true rfl⟩ (by first | assumption | exact S1_at hx hS) dL_areSums_339 (o_count hx hG hS hV cnt_3) ?_
    rintro _ μ1 ⟨rfl, hS⟩
    refine px_icmp_ne (tgt := 415) dL_areSums_342 (by decide) (fun h342 => (by first | exact absurd h342 ((rfl)) | exact absurd ((rfl)) h342)) (fun h342 => ?_)
    refine px_iload_4 dL_areSums_345 ?_
    refine px_aload_0 dL_areSums_347 ?_
    refine px_bipush (6) dL_areSums_348 rfl ?_
    refine cg_L_14 rfl ⟨⟨Nat.le_of_ble_eq_true rfl, Nat.le_of_ble_eq_true rfl⟩, Nat.le_of_ble_eq_true rfl, Nat.le_of_ble_eq_true rfl, Nat.le_of_ble_eq_true rfl⟩ (by first | assumption | exact S1_at hx hS) dL_areSums_350 (o_count hx hG hS hV cnt_6) ?_
    rintro _ μ1 ⟨rfl, hS⟩
    refine px_icmp_ne (tgt := 415) dL_areSums_353 (by decide) (fun h353 => (by first | exact absurd h353 (u2) | exact absurd (u2) h353)) (fun h353 => ?_)
    refine px_iload_1 dL_areSums_356 ?_
    refine px_iload_3 dL_areSums_357 ?_
    refine px_iadd dL_areSums_358 ?_
    refine px_aload_0 dL_areSums_359 ?_
    refine px_bipush (10) dL_areSums_360 rfl ?_
    refine cg_L_14 rfl ⟨⟨Nat.le_of_ble_eq_true rfl, Nat.le_of_ble_eq_true rfl⟩, Nat.le_of_ble_eq_true rfl, Nat.le_of_ble_eq_true rfl, Nat.le_of_ble_eq_true rfl⟩ (by first | assumption | exact S1_at hx hS) dL_areSums_362 (o_count hx hG hS hV cnt_10) ?_
    rintro _ μ1 ⟨rfl, hS⟩
    refine px_icmp_ne (tgt := 415) dL_areSums_365 (by decide) (fun h365 => (by first | exact absurd h365 (u1) | exact absurd (u1) h365)) (fun h365 => ?_)
    refine px_iload_2 dL_areSums_368 ?_
    refine px_aload_0 dL_areSums_369 ?_
    refine px_iconst (5) dL_areSums_370 rfl ?_
    refine cg_L_14 rfl ⟨⟨Nat.le_of_ble_eq_true rfl, Nat.le_of_ble_eq_true rfl⟩, Nat.le_of_ble_eq_true rfl, Nat.le_of_ble_eq_true rfl, Nat.le_of_ble_eq_true rfl⟩ (by first | assumption | exact S1_at hx hS) dL_areSums_371 (o_count hx hG hS hV cnt_5) ?_
    rintro _ μ1 ⟨rfl, hS⟩
    refine px_iadd dL_areSums_374 ?_
    refine px_aload_0 dL_areSums_375 ?_
    refine px_bipush (6) dL_areSums_376 rfl ?_
    refine cg_L_14 rfl ⟨⟨Nat.le_of_ble_eq_true rfl, Nat.le_of_ble_eq_true rfl⟩, Nat.le_of_ble_eq_true rfl, Nat.le_of_ble_eq_true rfl, Nat.le_of_ble_eq_true rfl⟩ (by first | assumption | exact S1_at hx hS) dL_areSums_378 (o_count hx hG hS hV cnt_6) ?_
    rintro _ μ1 ⟨rfl, hS⟩
    refine px_iadd dL_areSums_381 ?_
    refine px_aload_0 dL_areSums_382 ?_
    refine px_iconst (4) dL_areSums_383 rfl ?_
    refine cg_L_14 rfl ⟨⟨Nat.le_of_ble_eq_true rfl, Nat.le_of_ble_eq_true rfl⟩, Nat.le_of_ble_eq_true rfl, Nat.le_of_ble_eq_true rfl, Nat.le_of_ble_eq_true rfl⟩ (by first | assumption | exact S1_at hx hS) dL_areSums_384 (o_count hx hG hS hV cnt_4) ?_
    rintro _ μ1 ⟨rfl, hS⟩
    refine px_icmp_ne (tgt := 415) dL_areSums_387 (by decide) (fun h387 => (by first | exact absurd h387 (u3) | exact absurd (u3) h387)) (fun h387 => ?_)
    refine px_iload_5 dL_areSums_390 ?_
    refine px_aload_0 dL_areSums_392 ?_
    refine px_iconst (2) dL_areSums_393 rfl ?_
    refine cg_L_14 rfl ⟨⟨Nat.le_of_ble_eq_true rfl, Nat.le_of_ble_eq_true rfl⟩, Nat.le_of_ble_eq_true rfl, Nat.le_of_ble_eq_true rfl, Nat.le_of_ble_eq_true rfl⟩ (by first | assumption | exact S1_at hx hS) dL_areSums_394 (o_count hx hG hS hV cnt_2) ?_
    rintro _ μ1 ⟨rfl, hS⟩
    refine px_icmp_ne (tgt := 415) dL_areSums_397 (by decide) (fun h397 => (by first | exact absurd h397 ((rfl)) | exact absurd ((rfl)) h397)) (fun h397 => ?_)
    refine px_iload_5 dL_areSums_400 ?_
    refine px_aload_0 dL_areSums_402 ?_
    refine px_bipush (15) dL_areSums_403 rfl ?_
    refine cg_L_14 rfl ⟨⟨Nat.le_of_ble_eq_true rfl, Nat.le_of_ble_eq_true rfl⟩, Nat.le_of_ble_eq_true rfl, Nat.le_of_ble_eq_true rfl, Nat.le_of_ble_eq_true rfl⟩ (by first | assumption | exact S1_at hx hS) dL_areSums_405 (o_count hx hG hS hV cnt_15) ?_
    rintro _ μ1 ⟨rfl, hS⟩
    refine px_icmp_gt (tgt := 415) dL_areSums_408 (by decide) (fun h408 => (by first | exact absurd h408 (u4) | exact absurd (u4) h408)) (fun h408 => ?_)
    refine px_iconst (1) dL_areSums_411 rfl ?_
    refine px_goto (tgt := 416) dL_areSums_412 (by decide) ?_
    refine px_istore_6 dL_areSums_416 rfl ?_
    refine px_iload_6 dL_areSums_418 ?_
    refine px_if_eq (tgt := 447) dL_areSums_420 (by decide) (fun h420 => (by first | exact absurd h420 ((by decide)) | exact absurd ((by decide)) h420)) (fun h420 => ?_)
    refine px_aload_0 dL_areSums_423 ?_
    refine px_bipush (11) dL_areSums_424 rfl ?_
    refine cg_L_14 rfl ⟨⟨Nat.le_of_ble_eq_true rfl, Nat.le_of_ble_eq_true rfl⟩, Nat.le_of_ble_eq_true rfl, Nat.le_of_ble_eq_true rfl, Nat.le_of_ble_eq_true rfl⟩ (by first | assumption | exact S1_at hx hS) dL_areSums_426 (o_count hx hG hS hV cnt_11) ?_
    rintro _ μ1 ⟨rfl, hS⟩
    refine px_if_lt (tgt := 447) dL_areSums_429 (by decide) (fun h429 => (by first | exact absurd h429 ((fun q => u5 (Or.inl q))) | exact absurd ((fun q => u5 (Or.inl q))) h429)) (fun h429 => ?_)
    refine px_aload_0 dL_areSums_432 ?_
    refine px_bipush (11) dL_areSums_433 rfl ?_
    refine cg_L_14 rfl ⟨⟨Nat.le_of_ble_eq_true rfl, Nat.le_of_ble_eq_true rfl⟩, Nat.le_of_ble_eq_true rfl, Nat.le_of_ble_eq_true rfl, Nat.le_of_ble_eq_true rfl⟩ (by first | assumption | exact S1_at hx hS) dL_areSums_435 (o_count hx hG hS hV cnt_11) ?_
    rintro _ μ1 ⟨rfl, hS⟩
    refine px_ldc ck_L_63 dL_areSums_438 ?_
    refine px_icmp_ge (tgt := 447) dL_areSums_440 (by decide) (fun h440 => (by first | exact absurd h440 ((rg_nlt u5 (by decide))) | exact absurd ((rg_nlt u5 (by decide))) h440)) (fun h440 => ?_)
    refine px_iconst (1) dL_areSums_443 rfl ?_
    refine px_goto (tgt := 448) dL_areSums_444 (by decide) ?_
    refine px_zret dL_areSums_448 (by first | rfl | exact px_nb _) ?_
    subst hQ; exact ⟨rfl, hS⟩
  have L2 : ∀ n k, k + n = f_nr A.1 → ∀ μ o8, px_S1 T R I0 x A μ → (px_W l G yL_areSums cL_areSums 9 (some .boolean) (px_rm 7 0 0) (px_Fn G Q 0 0) 182 [some (.ref x), some (.int (f_cs A.1 1)), some (.int (f_cs A.1 2)), some (.int (f_paid A.1 (f_nc A.1))), some (.int (f_cs A.1 7)), some (.int (f_sm (fun r => A.1 (9 + 6 * r + 3)) k)), some (.int 1), some (.int (nI k)), o8] [] 0 0 μ) := by
    intro n
    induction n with
    | zero =>
      intro k hk μ o8 hS
      obtain rfl : k = f_nr A.1 := by omega
      refine px_iload_7 dL_areSums_182 ?_
      refine px_aload_0 dL_areSums_184 ?_
      refine px_iconst (0) dL_areSums_185 rfl ?_
      refine cg_L_14 rfl ⟨⟨Nat.le_of_ble_eq_true rfl, Nat.le_of_ble_eq_true rfl⟩, Nat.le_of_ble_eq_true rfl, Nat.le_of_ble_eq_true rfl, Nat.le_of_ble_eq_true rfl⟩ (by first | assumption | exact S1_at hx hS) dL_areSums_186 (o_count hx hG hS hV cnt_0) ?_
      rintro _ μ1 ⟨rfl, hS⟩; rw [e8]
      refine px_icmp_ge (tgt := 321) dL_areSums_189 (by decide) (fun h189 => ?_) (fun h189 => (by first | exact absurd ((nI_le (Nat.le_refl _) (by omega))) h189 | exact absurd h189 ((nI_le (Nat.le_refl _) (by omega)))))
      exact L3 _ _ _ hS
    | succ n ih =>
      intro k hk μ o8 hS
      have hr : k < f_nr A.1 := by omega
      obtain ⟨ta, tb, la, lb, hab, ea, eb, -, -⟩ := hV.1.1.2.1 k hr
      have hne : ¬ A.1 (9 + 6 * k + 0) = A.1 (9 + 6 * k + 1) := by
        rw [ea, eb, nI_eq (by omega) (by omega)]; exact hab
      have w0 : f_ot A.1 (A.1 (9 + 6 * k + 0)) 1 = f_ra A.1 (A.1 (9 + 6 * k + 0)) := by
        rw [ea]; exact ot_1 la
      have w1 : f_ot A.1 (A.1 (9 + 6 * k + 1)) 1 = f_ra A.1 (A.1 (9 + 6 * k + 1)) := by
        rw [eb]; exact ot_1 lb
      have b0 := ra_bit hV.1.1 hr (show 0 < 2 by decide)
      have b1 := ra_bit hV.1.1 hr (show 1 < 2 by decide)
      have hk1 : k + 1 + n = f_nr A.1 := by omega
      have hge : ¬ nI (f_nr A.1) ≤ nI k := nI_ge hr (by omega)
      by_cases hc : A.1 143 * A.1 (9 + 6 * k + 3) ≤ 90
      · have hcr := (cr_tern A.1 k).1 hc
        refine px_iload_7 dL_areSums_182 ?_
        refine px_aload_0 dL_areSums_184 ?_
        refine px_iconst (0) dL_areSums_185 rfl ?_
        refine cg_L_14 rfl ⟨⟨Nat.le_of_ble_eq_true rfl, Nat.le_of_ble_eq_true rfl⟩, Nat.le_of_ble_eq_true rfl, Nat.le_of_ble_eq_true rfl, Nat.le_of_ble_eq_true rfl⟩ (by first | assumption | exact S1_at hx hS) dL_areSums_186 (o_count hx hG hS hV cnt_0) ?_
        rintro _ μ1 ⟨rfl, hS⟩; rw [e8]
        refine px_icmp_ge (tgt := 321) dL_areSums_189 (by decide) (fun h189 => (by first | exact absurd h189 (hge) | exact absurd (hge) h189)) (fun h189 => ?_)
        refine px_aload_0 dL_areSums_192 ?_
        refine px_bipush (13) dL_areSums_193 rfl ?_
        refine cg_L_14 rfl ⟨⟨Nat.le_of_ble_eq_true rfl, Nat.le_of_ble_eq_true rfl⟩, Nat.le_of_ble_eq_true rfl, Nat.le_of_ble_eq_true rfl, Nat.le_of_ble_eq_true rfl⟩ (by first | assumption | exact S1_at hx hS) dL_areSums_195 (o_count hx hG hS hV cnt_13) ?_
        rintro _ μ1 ⟨rfl, hS⟩
        refine px_aload_0 dL_areSums_198 ?_
        refine px_iload_7 dL_areSums_199 ?_
        refine px_iconst (3) dL_areSums_201 rfl ?_
        refine cg_L_56 rfl ⟨⟨Nat.le_of_ble_eq_true rfl, Nat.le_of_ble_eq_true rfl⟩, Nat.le_of_ble_eq_true rfl, Nat.le_of_ble_eq_true rfl, Nat.le_of_ble_eq_true rfl⟩ (by first | assumption | exact S1_at hx hS) dL_areSums_202 (o_ofRoad hx hG hS hV (or_3 hV.1.1 hr)) ?_
        rintro _ μ1 ⟨rfl, hS⟩
        refine px_imul dL_areSums_205 ?_
        refine px_istore_8 dL_areSums_206 rfl ?_
        refine px_iload_5 dL_areSums_208 ?_
        refine px_aload_0 dL_areSums_210 ?_
        refine px_iload_7 dL_areSums_211 ?_
        refine px_iconst (3) dL_areSums_213 rfl ?_
        refine cg_L_56 rfl ⟨⟨Nat.le_of_ble_eq_true rfl, Nat.le_of_ble_eq_true rfl⟩, Nat.le_of_ble_eq_true rfl, Nat.le_of_ble_eq_true rfl, Nat.le_of_ble_eq_true rfl⟩ (by first | assumption | exact S1_at hx hS) dL_areSums_214 (o_ofRoad hx hG hS hV (or_3 hV.1.1 hr)) ?_
        rintro _ μ1 ⟨rfl, hS⟩
        refine px_iadd dL_areSums_217 ?_
        refine px_istore_5 dL_areSums_218 rfl ?_
        refine px_iload_6 dL_areSums_220 ?_
        refine px_if_eq (tgt := 312) dL_areSums_222 (by decide) (fun h222 => (by first | exact absurd h222 ((by decide)) | exact absurd ((by decide)) h222)) (fun h222 => ?_)
        refine px_aload_0 dL_areSums_225 ?_
        refine px_iload_7 dL_areSums_226 ?_
        refine px_iconst (4) dL_areSums_228 rfl ?_
        refine cg_L_56 rfl ⟨⟨Nat.le_of_ble_eq_true rfl, Nat.le_of_ble_eq_true rfl⟩, Nat.le_of_ble_eq_true rfl, Nat.le_of_ble_eq_true rfl, Nat.le_of_ble_eq_true rfl⟩ (by first | assumption | exact S1_at hx hS) dL_areSums_229 (o_ofRoad hx hG hS hV (or_4 hV.1.1 hr)) ?_
        rintro _ μ1 ⟨rfl, hS⟩
        refine px_iload_8 dL_areSums_232 ?_
        refine px_bipush (90) dL_areSums_234 rfl ?_
        refine px_icmp_le (tgt := 244) dL_areSums_236 (by decide) (fun h236 => ?_) (fun h236 => (by first | exact absurd (hc) h236 | exact absurd h236 (hc)))
        refine px_iload_8 dL_areSums_244 ?_
        refine px_icmp_ne (tgt := 312) dL_areSums_246 (by decide) (fun h246 => (by first | exact absurd h246 (hcr) | exact absurd (hcr) h246)) (fun h246 => ?_)
        refine px_aload_0 dL_areSums_249 ?_
        refine px_iload_7 dL_areSums_250 ?_
        refine px_iconst (0) dL_areSums_252 rfl ?_
        refine cg_L_56 rfl ⟨⟨Nat.le_of_ble_eq_true rfl, Nat.le_of_ble_eq_true rfl⟩, Nat.le_of_ble_eq_true rfl, Nat.le_of_ble_eq_true rfl, Nat.le_of_ble_eq_true rfl⟩ (by first | assumption | exact S1_at hx hS) dL_areSums_253 (o_ofRoad hx hG hS hV (or_0 hV.1.1 hr)) ?_
        rintro _ μ1 ⟨rfl, hS⟩
        refine px_aload_0 dL_areSums_256 ?_
        refine px_iload_7 dL_areSums_257 ?_
        refine px_iconst (1) dL_areSums_259 rfl ?_
        refine cg_L_56 rfl ⟨⟨Nat.le_of_ble_eq_true rfl, Nat.le_of_ble_eq_true rfl⟩, Nat.le_of_ble_eq_true rfl, Nat.le_of_ble_eq_true rfl, Nat.le_of_ble_eq_true rfl⟩ (by first | assumption | exact S1_at hx hS) dL_areSums_260 (o_ofRoad hx hG hS hV (or_1 hV.1.1 hr)) ?_
        rintro _ μ1 ⟨rfl, hS⟩
        refine px_icmp_eq (tgt := 312) dL_areSums_263 (by decide) (fun h263 => (by first | exact absurd h263 (hne) | exact absurd (hne) h263)) (fun h263 => ?_)
        refine px_aload_0 dL_areSums_266 ?_
        refine px_aload_0 dL_areSums_267 ?_
        refine px_iload_7 dL_areSums_268 ?_
        refine px_iconst (0) dL_areSums_270 rfl ?_
        refine cg_L_56 rfl ⟨⟨Nat.le_of_ble_eq_true rfl, Nat.le_of_ble_eq_true rfl⟩, Nat.le_of_ble_eq_true rfl, Nat.le_of_ble_eq_true rfl, Nat.le_of_ble_eq_true rfl⟩ (by first | assumption | exact S1_at hx hS) dL_areSums_271 (o_ofRoad hx hG hS hV (or_0 hV.1.1 hr)) ?_
        rintro _ μ1 ⟨rfl, hS⟩
        refine px_iconst (1) dL_areSums_274 rfl ?_
        refine cg_L_53 rfl ⟨⟨Nat.le_of_ble_eq_true rfl, Nat.le_of_ble_eq_true rfl⟩, Nat.le_of_ble_eq_true rfl, Nat.le_of_ble_eq_true rfl, Nat.le_of_ble_eq_true rfl⟩ (by first | assumption | exact S1_at hx hS) dL_areSums_275 (o_ofTown hx hG hS hV w0) ?_
        rintro _ μ1 ⟨rfl, hS⟩
        refine px_iload_7 dL_areSums_278 ?_
        refine px_ishr dL_areSums_280 ?_
        refine px_iconst (1) dL_areSums_281 rfl ?_
        refine px_iand dL_areSums_282 ?_
        refine px_iconst (1) dL_areSums_283 rfl ?_
        refine px_icmp_ne (tgt := 312) dL_areSums_284 (by decide) (fun h284 => (by first | exact absurd h284 (b0) | exact absurd (b0) h284)) (fun h284 => ?_)
        refine px_aload_0 dL_areSums_287 ?_
        refine px_aload_0 dL_areSums_288 ?_
        refine px_iload_7 dL_areSums_289 ?_
        refine px_iconst (1) dL_areSums_291 rfl ?_
        refine cg_L_56 rfl ⟨⟨Nat.le_of_ble_eq_true rfl, Nat.le_of_ble_eq_true rfl⟩, Nat.le_of_ble_eq_true rfl, Nat.le_of_ble_eq_true rfl, Nat.le_of_ble_eq_true rfl⟩ (by first | assumption | exact S1_at hx hS) dL_areSums_292 (o_ofRoad hx hG hS hV (or_1 hV.1.1 hr)) ?_
        rintro _ μ1 ⟨rfl, hS⟩
        refine px_iconst (1) dL_areSums_295 rfl ?_
        refine cg_L_53 rfl ⟨⟨Nat.le_of_ble_eq_true rfl, Nat.le_of_ble_eq_true rfl⟩, Nat.le_of_ble_eq_true rfl, Nat.le_of_ble_eq_true rfl, Nat.le_of_ble_eq_true rfl⟩ (by first | assumption | exact S1_at hx hS) dL_areSums_296 (o_ofTown hx hG hS hV w1) ?_
        rintro _ μ1 ⟨rfl, hS⟩
        refine px_iload_7 dL_areSums_299 ?_
        refine px_ishr dL_areSums_301 ?_
        refine px_iconst (1) dL_areSums_302 rfl ?_
        refine px_iand dL_areSums_303 ?_
        refine px_iconst (1) dL_areSums_304 rfl ?_
        refine px_icmp_ne (tgt := 312) dL_areSums_305 (by decide) (fun h305 => (by first | exact absurd h305 (b1) | exact absurd (b1) h305)) (fun h305 => ?_)
        refine px_iconst (1) dL_areSums_308 rfl ?_
        refine px_goto (tgt := 313) dL_areSums_309 (by decide) ?_
        refine px_istore_6 dL_areSums_313 rfl ?_
        refine px_iinc_7 dL_areSums_315 rfl ?_
        refine px_goto (tgt := 182) dL_areSums_318 (by decide) ?_
        rw [inc_nI]; exact ih (k + 1) hk1 _ _ hS
      · have hcr := (cr_tern A.1 k).2 hc
        refine px_iload_7 dL_areSums_182 ?_
        refine px_aload_0 dL_areSums_184 ?_
        refine px_iconst (0) dL_areSums_185 rfl ?_
        refine cg_L_14 rfl ⟨⟨Nat.le_of_ble_eq_true rfl, Nat.le_of_ble_eq_true rfl⟩, Nat.le_of_ble_eq_true rfl, Nat.le_of_ble_eq_true rfl, Nat.le_of_ble_eq_true rfl⟩ (by first | assumption | exact S1_at hx hS) dL_areSums_186 (o_count hx hG hS hV cnt_0) ?_
        rintro _ μ1 ⟨rfl, hS⟩; rw [e8]
        refine px_icmp_ge (tgt := 321) dL_areSums_189 (by decide) (fun h189 => (by first | exact absurd h189 (hge) | exact absurd (hge) h189)) (fun h189 => ?_)
        refine px_aload_0 dL_areSums_192 ?_
        refine px_bipush (13) dL_areSums_193 rfl ?_
        refine cg_L_14 rfl ⟨⟨Nat.le_of_ble_eq_true rfl, Nat.le_of_ble_eq_true rfl⟩, Nat.le_of_ble_eq_true rfl, Nat.le_of_ble_eq_true rfl, Nat.le_of_ble_eq_true rfl⟩ (by first | assumption | exact S1_at hx hS) dL_areSums_195 (o_count hx hG hS hV cnt_13) ?_
        rintro _ μ1 ⟨rfl, hS⟩
        refine px_aload_0 dL_areSums_198 ?_
        refine px_iload_7 dL_areSums_199 ?_
        refine px_iconst (3) dL_areSums_201 rfl ?_
        refine cg_L_56 rfl ⟨⟨Nat.le_of_ble_eq_true rfl, Nat.le_of_ble_eq_true rfl⟩, Nat.le_of_ble_eq_true rfl, Nat.le_of_ble_eq_true rfl, Nat.le_of_ble_eq_true rfl⟩ (by first | assumption | exact S1_at hx hS) dL_areSums_202 (o_ofRoad hx hG hS hV (or_3 hV.1.1 hr)) ?_
        rintro _ μ1 ⟨rfl, hS⟩
        refine px_imul dL_areSums_205 ?_
        refine px_istore_8 dL_areSums_206 rfl ?_
        refine px_iload_5 dL_areSums_208 ?_
        refine px_aload_0 dL_areSums_210 ?_
        refine px_iload_7 dL_areSums_211 ?_
        refine px_iconst (3) dL_areSums_213 rfl ?_
        refine cg_L_56 rfl ⟨⟨Nat.le_of_ble_eq_true rfl, Nat.le_of_ble_eq_true rfl⟩, Nat.le_of_ble_eq_true rfl, Nat.le_of_ble_eq_true rfl, Nat.le_of_ble_eq_true rfl⟩ (by first | assumption | exact S1_at hx hS) dL_areSums_214 (o_ofRoad hx hG hS hV (or_3 hV.1.1 hr)) ?_
        rintro _ μ1 ⟨rfl, hS⟩
        refine px_iadd dL_areSums_217 ?_
        refine px_istore_5 dL_areSums_218 rfl ?_
        refine px_iload_6 dL_areSums_220 ?_
        refine px_if_eq (tgt := 312) dL_areSums_222 (by decide) (fun h222 => (by first | exact absurd h222 ((by decide)) | exact absurd ((by decide)) h222)) (fun h222 => ?_)
        refine px_aload_0 dL_areSums_225 ?_
        refine px_iload_7 dL_areSums_226 ?_
        refine px_iconst (4) dL_areSums_228 rfl ?_
        refine cg_L_56 rfl ⟨⟨Nat.le_of_ble_eq_true rfl, Nat.le_of_ble_eq_true rfl⟩, Nat.le_of_ble_eq_true rfl, Nat.le_of_ble_eq_true rfl, Nat.le_of_ble_eq_true rfl⟩ (by first | assumption | exact S1_at hx hS) dL_areSums_229 (o_ofRoad hx hG hS hV (or_4 hV.1.1 hr)) ?_
        rintro _ μ1 ⟨rfl, hS⟩
        refine px_iload_8 dL_areSums_232 ?_
        refine px_bipush (90) dL_areSums_234 rfl ?_
        refine px_icmp_le (tgt := 244) dL_areSums_236 (by decide) (fun h236 => (by first | exact absurd h236 (hc) | exact absurd (hc) h236)) (fun h236 => ?_)
        refine px_bipush (90) dL_areSums_239 rfl ?_
        refine px_goto (tgt := 246) dL_areSums_241 (by decide) ?_
        refine px_icmp_ne (tgt := 312) dL_areSums_246 (by decide) (fun h246 => (by first | exact absurd h246 (hcr) | exact absurd (hcr) h246)) (fun h246 => ?_)
        refine px_aload_0 dL_areSums_249 ?_
        refine px_iload_7 dL_areSums_250 ?_
        refine px_iconst (0) dL_areSums_252 rfl ?_
        refine cg_L_56 rfl ⟨⟨Nat.le_of_ble_eq_true rfl, Nat.le_of_ble_eq_true rfl⟩, Nat.le_of_ble_eq_true rfl, Nat.le_of_ble_eq_true rfl, Nat.le_of_ble_eq_true rfl⟩ (by first | assumption | exact S1_at hx hS) dL_areSums_253 (o_ofRoad hx hG hS hV (or_0 hV.1.1 hr)) ?_
        rintro _ μ1 ⟨rfl, hS⟩
        refine px_aload_0 dL_areSums_256 ?_
        refine px_iload_7 dL_areSums_257 ?_
        refine px_iconst (1) dL_areSums_259 rfl ?_
        refine cg_L_56 rfl ⟨⟨Nat.le_of_ble_eq_true rfl, Nat.le_of_ble_eq_true rfl⟩, Nat.le_of_ble_eq_true rfl, Nat.le_of_ble_eq_true rfl, Nat.le_of_ble_eq_true rfl⟩ (by first | assumption | exact S1_at hx hS) dL_areSums_260 (o_ofRoad hx hG hS hV (or_1 hV.1.1 hr)) ?_
        rintro _ μ1 ⟨rfl, hS⟩
        refine px_icmp_eq (tgt := 312) dL_areSums_263 (by decide) (fun h263 => (by first | exact absurd h263 (hne) | exact absurd (hne) h263)) (fun h263 => ?_)
        refine px_aload_0 dL_areSums_266 ?_
        refine px_aload_0 dL_areSums_267 ?_
        refine px_iload_7 dL_areSums_268 ?_
        refine px_iconst (0) dL_areSums_270 rfl ?_
        refine cg_L_56 rfl ⟨⟨Nat.le_of_ble_eq_true rfl, Nat.le_of_ble_eq_true rfl⟩, Nat.le_of_ble_eq_true rfl, Nat.le_of_ble_eq_true rfl, Nat.le_of_ble_eq_true rfl⟩ (by first | assumption | exact S1_at hx hS) dL_areSums_271 (o_ofRoad hx hG hS hV (or_0 hV.1.1 hr)) ?_
        rintro _ μ1 ⟨rfl, hS⟩
        refine px_iconst (1) dL_areSums_274 rfl ?_
        refine cg_L_53 rfl ⟨⟨Nat.le_of_ble_eq_true rfl, Nat.le_of_ble_eq_true rfl⟩, Nat.le_of_ble_eq_true rfl, Nat.le_of_ble_eq_true rfl, Nat.le_of_ble_eq_true rfl⟩ (by first | assumption | exact S1_at hx hS) dL_areSums_275 (o_ofTown hx hG hS hV w0) ?_
        rintro _ μ1 ⟨rfl, hS⟩
        refine px_iload_7 dL_areSums_278 ?_
        refine px_ishr dL_areSums_280 ?_
        refine px_iconst (1) dL_areSums_281 rfl ?_
        refine px_iand dL_areSums_282 ?_
        refine px_iconst (1) dL_areSums_283 rfl ?_
        refine px_icmp_ne (tgt := 312) dL_areSums_284 (by decide) (fun h284 => (by first | exact absurd h284 (b0) | exact absurd (b0) h284)) (fun h284 => ?_)
        refine px_aload_0 dL_areSums_287 ?_
        refine px_aload_0 dL_areSums_288 ?_
        refine px_iload_7 dL_areSums_289 ?_
        refine px_iconst (1) dL_areSums_291 rfl ?_
        refine cg_L_56 rfl ⟨⟨Nat.le_of_ble_eq_true rfl, Nat.le_of_ble_eq_true rfl⟩, Nat.le_of_ble_eq_true rfl, Nat.le_of_ble_eq_true rfl, Nat.le_of_ble_eq_true rfl⟩ (by first | assumption | exact S1_at hx hS) dL_areSums_292 (o_ofRoad hx hG hS hV (or_1 hV.1.1 hr)) ?_
        rintro _ μ1 ⟨rfl, hS⟩
        refine px_iconst (1) dL_areSums_295 rfl ?_
        refine cg_L_53 rfl ⟨⟨Nat.le_of_ble_eq_true rfl, Nat.le_of_ble_eq_true rfl⟩, Nat.le_of_ble_eq_true rfl, Nat.le_of_ble_eq_true rfl, Nat.le_of_ble_eq_true rfl⟩ (by first | assumption | exact S1_at hx hS) dL_areSums_296 (o_ofTown hx hG hS hV w1) ?_
        rintro _ μ1 ⟨rfl, hS⟩
        refine px_iload_7 dL_areSums_299 ?_
        refine px_ishr dL_areSums_301 ?_
        refine px_iconst (1) dL_areSums_302 rfl ?_
        refine px_iand dL_areSums_303 ?_
        refine px_iconst (1) dL_areSums_304 rfl ?_
        refine px_icmp_ne (tgt := 312) dL_areSums_305 (by decide) (fun h305 => (by first | exact absurd h305 (b1) | exact absurd (b1) h305)) (fun h305 => ?_)
        refine px_iconst (1) dL_areSums_308 rfl ?_
        refine px_goto (tgt := 313) dL_areSums_309 (by decide) ?_
        refine px_istore_6 dL_areSums_313 rfl ?_
        refine px_iinc_7 dL_areSums_315 rfl ?_
        refine px_goto (tgt := 182) dL_areSums_318 (by decide) ?_
        rw [inc_nI]; exact ih (k + 1) hk1 _ _ hS
  have L1 : ∀ n k, k + n = f_nc A.1 → ∀ μ o8, px_S1 T R I0 x A μ → (px_W l G yL_areSums cL_areSums 9 (some .boolean) (px_rm 7 0 0) (px_Fn G Q 0 0) 18 [some (.ref x), some (.int (f_sm (fun c => A.1 (94 + 8 * c + 1)) k)), some (.int (f_sm (fun c => A.1 (94 + 8 * c + 2)) k)), some (.int (f_paid A.1 k)), some (.int (f_sm (fun c => A.1 (94 + 8 * c + 7)) k)), some (.int 0), some (.int 1), some (.int (nI k)), o8] [] 0 0 μ) := by
    intro n
    induction n with
    | zero =>
      intro k hk μ o8 hS
      obtain rfl : k = f_nc A.1 := by omega
      refine px_iload_7 dL_areSums_18 ?_
      refine px_aload_0 dL_areSums_20 ?_
      refine px_iconst (1) dL_areSums_21 rfl ?_
      refine cg_L_14 rfl ⟨⟨Nat.le_of_ble_eq_true rfl, Nat.le_of_ble_eq_true rfl⟩, Nat.le_of_ble_eq_true rfl, Nat.le_of_ble_eq_true rfl, Nat.le_of_ble_eq_true rfl⟩ (by first | assumption | exact S1_at hx hS) dL_areSums_22 (o_count hx hG hS hV cnt_1) ?_
      rintro _ μ1 ⟨rfl, hS⟩; rw [e93]
      refine px_icmp_ge (tgt := 179) dL_areSums_25 (by decide) (fun h25 => ?_) (fun h25 => (by first | exact absurd ((nI_le (Nat.le_refl _) (by omega))) h25 | exact absurd h25 ((nI_le (Nat.le_refl _) (by omega)))))
      refine px_iconst (0) dL_areSums_179 rfl ?_
      refine px_istore_7 dL_areSums_180 rfl ?_
      exact L2 _ 0 (Nat.zero_add _) _ _ hS
    | succ n ih =>
      intro k hk μ o8 hS
      have hc : k < f_nc A.1 := by omega
      obtain ⟨⟨t, lt, et⟩, hs⟩ := hV.1.1.2.2.2.1 k hc
      have hm := hV.1.2 k hc
      have w0 : f_ot A.1 (A.1 (94 + 8 * k + 0)) 2 = f_ca A.1 (A.1 (94 + 8 * k + 0)) := by
        rw [et]; exact ot_2 lt
      have b0 := ca_bit hV.1.1 hc
      have hk1 : k + 1 + n = f_nc A.1 := by omega
      have hge : ¬ nI (f_nc A.1) ≤ nI k := nI_ge hc (by omega)
      refine px_iload_7 dL_areSums_18 ?_
      refine px_aload_0 dL_areSums_20 ?_
      refine px_iconst (1) dL_areSums_21 rfl ?_
      refine cg_L_14 rfl ⟨⟨Nat.le_of_ble_eq_true rfl, Nat.le_of_ble_eq_true rfl⟩, Nat.le_of_ble_eq_true rfl, Nat.le_of_ble_eq_true rfl, Nat.le_of_ble_eq_true rfl⟩ (by first | assumption | exact S1_at hx hS) dL_areSums_22 (o_count hx hG hS hV cnt_1) ?_
      rintro _ μ1 ⟨rfl, hS⟩; rw [e93]
      refine px_icmp_ge (tgt := 179) dL_areSums_25 (by decide) (fun h25 => (by first | exact absurd h25 (hge) | exact absurd (hge) h25)) (fun h25 => ?_)
      refine px_iload_1 dL_areSums_28 ?_
      refine px_aload_0 dL_areSums_29 ?_
      refine px_iload_7 dL_areSums_30 ?_
      refine px_iconst (1) dL_areSums_32 rfl ?_
      refine cg_L_59 rfl ⟨⟨Nat.le_of_ble_eq_true rfl, Nat.le_of_ble_eq_true rfl⟩, Nat.le_of_ble_eq_true rfl, Nat.le_of_ble_eq_true rfl, Nat.le_of_ble_eq_true rfl⟩ (by first | assumption | exact S1_at hx hS) dL_areSums_33 (o_ofCart hx hG hS hV (oc_v (j := 1) hV.1.1 hc (by decide))) ?_
      rintro _ μ1 ⟨rfl, hS⟩
      refine px_iadd dL_areSums_36 ?_
      refine px_istore_1 dL_areSums_37 rfl ?_
      refine px_iload_2 dL_areSums_38 ?_
      refine px_aload_0 dL_areSums_39 ?_
      refine px_iload_7 dL_areSums_40 ?_
      refine px_iconst (2) dL_areSums_42 rfl ?_
      refine cg_L_59 rfl ⟨⟨Nat.le_of_ble_eq_true rfl, Nat.le_of_ble_eq_true rfl⟩, Nat.le_of_ble_eq_true rfl, Nat.le_of_ble_eq_true rfl, Nat.le_of_ble_eq_true rfl⟩ (by first | assumption | exact S1_at hx hS) dL_areSums_43 (o_ofCart hx hG hS hV (oc_v (j := 2) hV.1.1 hc (by decide))) ?_
      rintro _ μ1 ⟨rfl, hS⟩
      refine px_iadd dL_areSums_46 ?_
      refine px_istore_2 dL_areSums_47 rfl ?_
      refine px_iload_3 dL_areSums_48 ?_
      refine px_aload_0 dL_areSums_49 ?_
      refine px_iload_7 dL_areSums_50 ?_
      refine px_iconst (3) dL_areSums_52 rfl ?_
      refine cg_L_59 rfl ⟨⟨Nat.le_of_ble_eq_true rfl, Nat.le_of_ble_eq_true rfl⟩, Nat.le_of_ble_eq_true rfl, Nat.le_of_ble_eq_true rfl, Nat.le_of_ble_eq_true rfl⟩ (by first | assumption | exact S1_at hx hS) dL_areSums_53 (o_ofCart hx hG hS hV (oc_v (j := 3) hV.1.1 hc (by decide))) ?_
      rintro _ μ1 ⟨rfl, hS⟩
      refine px_aload_0 dL_areSums_56 ?_
      refine px_iload_7 dL_areSums_57 ?_
      refine px_iconst (4) dL_areSums_59 rfl ?_
      refine cg_L_59 rfl ⟨⟨Nat.le_of_ble_eq_true rfl, Nat.le_of_ble_eq_true rfl⟩, Nat.le_of_ble_eq_true rfl, Nat.le_of_ble_eq_true rfl, Nat.le_of_ble_eq_true rfl⟩ (by first | assumption | exact S1_at hx hS) dL_areSums_60 (o_ofCart hx hG hS hV (oc_v (j := 4) hV.1.1 hc (by decide))) ?_
      rintro _ μ1 ⟨rfl, hS⟩
      refine px_isub dL_areSums_63 ?_
      refine px_aload_0 dL_areSums_64 ?_
      refine px_iload_7 dL_areSums_65 ?_
      refine px_iconst (5) dL_areSums_67 rfl ?_
      refine cg_L_59 rfl ⟨⟨Nat.le_of_ble_eq_true rfl, Nat.le_of_ble_eq_true rfl⟩, Nat.le_of_ble_eq_true rfl, Nat.le_of_ble_eq_true rfl, Nat.le_of_ble_eq_true rfl⟩ (by first | assumption | exact S1_at hx hS) dL_areSums_68 (o_ofCart hx hG hS hV (oc_v (j := 5) hV.1.1 hc (by decide))) ?_
      rintro _ μ1 ⟨rfl, hS⟩
      refine px_iadd dL_areSums_71 ?_
      refine px_aload_0 dL_areSums_72 ?_
      refine px_iload_7 dL_areSums_73 ?_
      refine px_bipush (6) dL_areSums_75 rfl ?_
      refine cg_L_59 rfl ⟨⟨Nat.le_of_ble_eq_true rfl, Nat.le_of_ble_eq_true rfl⟩, Nat.le_of_ble_eq_true rfl, Nat.le_of_ble_eq_true rfl, Nat.le_of_ble_eq_true rfl⟩ (by first | assumption | exact S1_at hx hS) dL_areSums_77 (o_ofCart hx hG hS hV (oc_v (j := 6) hV.1.1 hc (by decide))) ?_
      rintro _ μ1 ⟨rfl, hS⟩
      refine px_iadd dL_areSums_80 ?_
      refine px_iadd dL_areSums_81 ?_
      refine px_istore_3 dL_areSums_82 rfl ?_
      refine px_iload_4 dL_areSums_83 ?_
      refine px_aload_0 dL_areSums_85 ?_
      refine px_iload_7 dL_areSums_86 ?_
      refine px_bipush (7) dL_areSums_88 rfl ?_
      refine cg_L_59 rfl ⟨⟨Nat.le_of_ble_eq_true rfl, Nat.le_of_ble_eq_true rfl⟩, Nat.le_of_ble_eq_true rfl, Nat.le_of_ble_eq_true rfl, Nat.le_of_ble_eq_true rfl⟩ (by first | assumption | exact S1_at hx hS) dL_areSums_90 (o_ofCart hx hG hS hV (oc_v (j := 7) hV.1.1 hc (by decide))) ?_
      rintro _ μ1 ⟨rfl, hS⟩
      refine px_iadd dL_areSums_93 ?_
      refine px_istore_4 dL_areSums_94 rfl ?_
      refine px_iload_6 dL_areSums_96 ?_
      refine px_if_eq (tgt := 170) dL_areSums_98 (by decide) (fun h98 => (by first | exact absurd h98 ((by decide)) | exact absurd ((by decide)) h98)) (fun h98 => ?_)
      refine px_aload_0 dL_areSums_101 ?_
      refine px_iload_7 dL_areSums_102 ?_
      refine px_iconst (1) dL_areSums_104 rfl ?_
      refine cg_L_59 rfl ⟨⟨Nat.le_of_ble_eq_true rfl, Nat.le_of_ble_eq_true rfl⟩, Nat.le_of_ble_eq_true rfl, Nat.le_of_ble_eq_true rfl, Nat.le_of_ble_eq_true rfl⟩ (by first | assumption | exact S1_at hx hS) dL_areSums_105 (o_ofCart hx hG hS hV (oc_v (j := 1) hV.1.1 hc (by decide))) ?_
      rintro _ μ1 ⟨rfl, hS⟩
      refine px_if_lt (tgt := 170) dL_areSums_108 (by decide) (fun h108 => (by first | exact absurd h108 ((fun q => hm (Or.inl q))) | exact absurd ((fun q => hm (Or.inl q))) h108)) (fun h108 => ?_)
      refine px_aload_0 dL_areSums_111 ?_
      refine px_iload_7 dL_areSums_112 ?_
      refine px_iconst (1) dL_areSums_114 rfl ?_
      refine cg_L_59 rfl ⟨⟨Nat.le_of_ble_eq_true rfl, Nat.le_of_ble_eq_true rfl⟩, Nat.le_of_ble_eq_true rfl, Nat.le_of_ble_eq_true rfl, Nat.le_of_ble_eq_true rfl⟩ (by first | assumption | exact S1_at hx hS) dL_areSums_115 (o_ofCart hx hG hS hV (oc_v (j := 1) hV.1.1 hc (by decide))) ?_
      rintro _ μ1 ⟨rfl, hS⟩
      refine px_ldc ck_L_62 dL_areSums_118 ?_
      refine px_icmp_ge (tgt := 170) dL_areSums_120 (by decide) (fun h120 => (by first | exact absurd h120 ((rg_nlt hm (by decide))) | exact absurd ((rg_nlt hm (by decide))) h120)) (fun h120 => ?_)
      refine px_aload_0 dL_areSums_123 ?_
      refine px_iload_7 dL_areSums_124 ?_
      refine px_iconst (2) dL_areSums_126 rfl ?_
      refine cg_L_59 rfl ⟨⟨Nat.le_of_ble_eq_true rfl, Nat.le_of_ble_eq_true rfl⟩, Nat.le_of_ble_eq_true rfl, Nat.le_of_ble_eq_true rfl, Nat.le_of_ble_eq_true rfl⟩ (by first | assumption | exact S1_at hx hS) dL_areSums_127 (o_ofCart hx hG hS hV (oc_v (j := 2) hV.1.1 hc (by decide))) ?_
      rintro _ μ1 ⟨rfl, hS⟩
      refine px_if_lt (tgt := 170) dL_areSums_130 (by decide) (fun h130 => (by first | exact absurd h130 ((fun q => hs (Or.inl q))) | exact absurd ((fun q => hs (Or.inl q))) h130)) (fun h130 => ?_)
      refine px_aload_0 dL_areSums_133 ?_
      refine px_iload_7 dL_areSums_134 ?_
      refine px_iconst (2) dL_areSums_136 rfl ?_
      refine cg_L_59 rfl ⟨⟨Nat.le_of_ble_eq_true rfl, Nat.le_of_ble_eq_true rfl⟩, Nat.le_of_ble_eq_true rfl, Nat.le_of_ble_eq_true rfl, Nat.le_of_ble_eq_true rfl⟩ (by first | assumption | exact S1_at hx hS) dL_areSums_137 (o_ofCart hx hG hS hV (oc_v (j := 2) hV.1.1 hc (by decide))) ?_
      rintro _ μ1 ⟨rfl, hS⟩
      refine px_bipush (100) dL_areSums_140 rfl ?_
      refine px_icmp_ge (tgt := 170) dL_areSums_142 (by decide) (fun h142 => (by first | exact absurd h142 ((rg_nlt hs (by decide))) | exact absurd ((rg_nlt hs (by decide))) h142)) (fun h142 => ?_)
      refine px_aload_0 dL_areSums_145 ?_
      refine px_aload_0 dL_areSums_146 ?_
      refine px_iload_7 dL_areSums_147 ?_
      refine px_iconst (0) dL_areSums_149 rfl ?_
      refine cg_L_59 rfl ⟨⟨Nat.le_of_ble_eq_true rfl, Nat.le_of_ble_eq_true rfl⟩, Nat.le_of_ble_eq_true rfl, Nat.le_of_ble_eq_true rfl, Nat.le_of_ble_eq_true rfl⟩ (by first | assumption | exact S1_at hx hS) dL_areSums_150 (o_ofCart hx hG hS hV (oc_v (j := 0) hV.1.1 hc (by decide))) ?_
      rintro _ μ1 ⟨rfl, hS⟩
      refine px_iconst (2) dL_areSums_153 rfl ?_
      refine cg_L_53 rfl ⟨⟨Nat.le_of_ble_eq_true rfl, Nat.le_of_ble_eq_true rfl⟩, Nat.le_of_ble_eq_true rfl, Nat.le_of_ble_eq_true rfl, Nat.le_of_ble_eq_true rfl⟩ (by first | assumption | exact S1_at hx hS) dL_areSums_154 (o_ofTown hx hG hS hV w0) ?_
      rintro _ μ1 ⟨rfl, hS⟩
      refine px_iload_7 dL_areSums_157 ?_
      refine px_ishr dL_areSums_159 ?_
      refine px_iconst (1) dL_areSums_160 rfl ?_
      refine px_iand dL_areSums_161 ?_
      refine px_iconst (1) dL_areSums_162 rfl ?_
      refine px_icmp_ne (tgt := 170) dL_areSums_163 (by decide) (fun h163 => (by first | exact absurd h163 (b0) | exact absurd (b0) h163)) (fun h163 => ?_)
      refine px_iconst (1) dL_areSums_166 rfl ?_
      refine px_goto (tgt := 171) dL_areSums_167 (by decide) ?_
      refine px_istore_6 dL_areSums_171 rfl ?_
      refine px_iinc_7 dL_areSums_173 rfl ?_
      refine px_goto (tgt := 18) dL_areSums_176 (by decide) ?_
      rw [inc_nI]; exact ih (k + 1) hk1 _ _ hS
  refine px_iconst (0) dL_areSums_0 rfl ?_
  refine px_istore_1 dL_areSums_1 rfl ?_
  refine px_iconst (0) dL_areSums_2 rfl ?_
  refine px_istore_2 dL_areSums_3 rfl ?_
  refine px_iconst (0) dL_areSums_4 rfl ?_
  refine px_istore_3 dL_areSums_5 rfl ?_
  refine px_iconst (0) dL_areSums_6 rfl ?_
  refine px_istore_4 dL_areSums_7 rfl ?_
  refine px_iconst (0) dL_areSums_9 rfl ?_
  refine px_istore_5 dL_areSums_10 rfl ?_
  refine px_iconst (1) dL_areSums_12 rfl ?_
  refine px_istore_6 dL_areSums_13 rfl ?_
  refine px_iconst (0) dL_areSums_15 rfl ?_
  refine px_istore_7 dL_areSums_16 rfl ?_
  exact L1 _ 0 (Nat.zero_add _) _ _ hS
end ASU

