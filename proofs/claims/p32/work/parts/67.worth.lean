/-! isWorthSo -/
section AWO
variable {l : Launch} {G : px_G} {T : px_T} {I I' I0 : px_I} {J : px_J} {R : px_R} {μ : px_M} {x y : Nat} {σ : px_s} {A B : px_a}
section LC
variable {y : MethodName} {cc : ByteArray} {nL : Nat} {ret : Option FieldType} {Rm : Room} {Fn : List Frame → Array Value → State → State → Prop} {pc : Nat} {ls : List (Option Value)} {st : List Value} {k n : Nat}
theorem px_lc_lt {a b : Int64} {off : Int} {tgt : Nat} (d : decode cc pc = .ok (.ifCond .lt off, 3)) (ht : (pc : Int) + off = (tgt : Int)) (kt : a < b → px_W l G y cc nL ret Rm Fn tgt ls st k n μ) (kf : ¬ a < b → px_W l G y cc nL ret Rm Fn (pc + 3) ls st k n μ) : px_W l G y cc nL ret Rm Fn pc ls (.int (lg_cmp a b) :: st) k n μ :=
  px_if_lt d ht (fun q => kt ((lg_cmp_lt a b).mp q)) (fun q => kf (fun z => q ((lg_cmp_lt a b).mpr z)))
end LC
theorem step_cases (hV : px_V σ) {t u : Nat} (ht : t < 8) (e4 : ix (σ 144) = u + 1) :
    (f_step σ (nI t) 0 = -6 ∧ f_step σ (nI t) 1 = 0 ∧ f_w σ 0 (u + 1) t = 100 * f_w σ 0 u t) ∨
    ∃ r k hh, r < f_nr σ ∧ k < 2 ∧ hh < 2 ∧ σ (9 + 6 * r + k) = nI t ∧ f_step σ (nI t) 0 = nI r ∧ f_step σ (nI t) 1 = nI hh ∧ 100 * f_w σ 0 u t < f_w σ 0 (u + 1) t ∧ f_w σ 0 (u + 1) t = f_by σ (f_w σ 0 u) r k (u + 1) hh := by
  have h7 := tw_rg ht
  have hx0 : ix (nI t) = t := ix_nI (by omega)
  have hst := st_row hV (W := f_w σ 0 u) (left := u + 1) h7
  rw [hx0] at hst
  have s0 : f_step σ (nI t) 0 = (f_st σ (f_w σ 0 u) (u + 1) (nI t) (4 * f_nr σ)).2.1 := by
    unfold f_step
    rw [if_neg (fun q => q h7), if_neg (by decide), if_pos rfl, e4, Nat.add_sub_cancel]
  have s1 : f_step σ (nI t) 1 = (f_st σ (f_w σ 0 u) (u + 1) (nI t) (4 * f_nr σ)).2.2 := by
    unfold f_step
    rw [if_neg (fun q => q h7), if_neg (by decide), if_neg (by decide), e4, Nat.add_sub_cancel]
  have hw : f_w σ 0 (u + 1) t = (f_st σ (f_w σ 0 u) (u + 1) (nI t) (4 * f_nr σ)).1 := hst.symm
  obtain ⟨-, -, hc⟩ := st_max (σ := σ) (W := f_w σ 0 u) (u + 1) (nI t) (4 * f_nr σ)
  rw [hx0] at hc
  rw [s0, s1, hw]
  rcases hc with hc | ⟨j, hj, he, hc, hlt, -⟩
  · rw [hc]
    exact Or.inl ⟨rfl, rfl, rfl⟩
  · rw [hc]
    exact Or.inr ⟨j / 4, j % 2, j / 2 % 2, by omega, by omega, by omega, he, rfl, rfl, hlt, rfl⟩
theorem s_L_isWorthSo {t : Nat} (ht : t < 8) (hx : px_co G T R x) (hG : px_tabs G) (hS : px_S1 T R I0 x A μ) (hV : px_AV A) : px_C l G 7 0 0 mL_isWorthSo [.ref x, .int (nI t)] μ (px_QA T R I0 x (.int (if True then 1 else 0)) A) := by
  have hVV := hV.1.1
  obtain ⟨e4, l1, l4⟩ := legs_of hVV
  obtain ⟨u, e4'⟩ : ∃ u, ix (A.1 144) = u + 1 := ⟨ix (A.1 144) - 1, by omega⟩
  rw [e4'] at e4
  have hu : u < 4 := by omega
  have n14 := hVV.1.2.1
  refine px_met (M := mL_isWorthSo) ([some (.ref x), some (.int (nI t)), none, none, none, none, none, none, none, none, none, none, none, none]) (by decide +kernel) rfl (Nat.le_of_ble_eq_true rfl) rfl ?_
  generalize hQ : px_QA T R I0 x (.int (if True then 1 else 0)) A = Q
  have L439 : ∀ μ o3 o4 o5 o6 o7 o8 o9 o10 o11 o12 o13, px_S1 T R I0 x A μ → (px_W l G yL_isWorthSo cL_isWorthSo 14 (some .boolean) (px_rm 7 0 0) (px_Fn G Q 0 0) 439 [some (.ref x), some (.int (nI t)), some (.int 1), o3, o4, o5, o6, o7, o8, o9, o10, o11, o12, o13] [] 0 0 μ) := by
    intro μ o3 o4 o5 o6 o7 o8 o9 o10 o11 o12 o13 hS
    rcases ah_01 (σ := A.1) (f_nr A.1) with ha | ha
    · skip
      refine px_iload_2 dL_isWorthSo_439 ?_
      refine px_if_eq (tgt := 500) dL_isWorthSo_440 (by decide) (fun h440 => (by first | exact absurd h440 ((by decide)) | exact absurd ((by decide)) h440)) (fun h440 => ?_)
      refine px_aload_0 dL_isWorthSo_443 ?_
      refine px_bipush (7) dL_isWorthSo_444 rfl ?_
      refine cg_L_14 rfl ⟨⟨Nat.le_of_ble_eq_true rfl, Nat.le_of_ble_eq_true rfl⟩, Nat.le_of_ble_eq_true rfl, Nat.le_of_ble_eq_true rfl, Nat.le_of_ble_eq_true rfl⟩ (by first | assumption | exact S1_at hx hS) dL_isWorthSo_446 (o_count hx hG hS hV (cnt_7.trans ha)) ?_
      rintro _ μ1 ⟨rfl, hS⟩
      refine px_if_eq (tgt := 496) dL_isWorthSo_449 (by decide) (fun h449 => ?_) (fun h449 => (by first | exact absurd ((rfl)) h449 | exact absurd h449 ((rfl))))
      refine px_iconst (1) dL_isWorthSo_496 rfl ?_
      refine px_goto (tgt := 501) dL_isWorthSo_497 (by decide) ?_
      refine px_zret dL_isWorthSo_501 (by first | rfl | exact px_nb _) ?_
      subst hQ; exact ⟨rfl, hS⟩
    · have w1 : f_w A.1 0 1 t = 100 * (A.1 t).toInt64 := w_hon64 hVV ha (l := 1) (by decide) ht
      have w4 : f_w A.1 0 4 t = 100000000 * (A.1 t).toInt64 := w_hon64 hVV ha (l := 4) (by decide) ht
      refine px_iload_2 dL_isWorthSo_439 ?_
      refine px_if_eq (tgt := 500) dL_isWorthSo_440 (by decide) (fun h440 => (by first | exact absurd h440 ((by decide)) | exact absurd ((by decide)) h440)) (fun h440 => ?_)
      refine px_aload_0 dL_isWorthSo_443 ?_
      refine px_bipush (7) dL_isWorthSo_444 rfl ?_
      refine cg_L_14 rfl ⟨⟨Nat.le_of_ble_eq_true rfl, Nat.le_of_ble_eq_true rfl⟩, Nat.le_of_ble_eq_true rfl, Nat.le_of_ble_eq_true rfl, Nat.le_of_ble_eq_true rfl⟩ (by first | assumption | exact S1_at hx hS) dL_isWorthSo_446 (o_count hx hG hS hV (cnt_7.trans ha)) ?_
      rintro _ μ1 ⟨rfl, hS⟩
      refine px_if_eq (tgt := 496) dL_isWorthSo_449 (by decide) (fun h449 => (by first | exact absurd h449 ((by decide)) | exact absurd ((by decide)) h449)) (fun h449 => ?_)
      refine px_aload_0 dL_isWorthSo_452 ?_
      refine px_iload_1 dL_isWorthSo_453 ?_
      refine px_iconst (1) dL_isWorthSo_454 rfl ?_
      refine px_iconst (0) dL_isWorthSo_455 rfl ?_
      refine cg_L_64 rfl ⟨⟨Nat.le_of_ble_eq_true rfl, Nat.le_of_ble_eq_true rfl⟩, Nat.le_of_ble_eq_true rfl, Nat.le_of_ble_eq_true rfl, Nat.le_of_ble_eq_true rfl⟩ (by first | assumption | exact S1_at hx hS) dL_isWorthSo_456 (o_worth hx hG hS hV (wo_v (g := 1) ht (by decide) (Or.inl rfl))) ?_
      rintro _ μ1 ⟨rfl, hS⟩
      refine px_ldc2 ck_L_68 dL_isWorthSo_459 ?_
      refine px_aload_0 dL_isWorthSo_462 ?_
      refine px_iload_1 dL_isWorthSo_463 ?_
      refine px_iconst (0) dL_isWorthSo_464 rfl ?_
      refine cg_L_53 rfl ⟨⟨Nat.le_of_ble_eq_true rfl, Nat.le_of_ble_eq_true rfl⟩, Nat.le_of_ble_eq_true rfl, Nat.le_of_ble_eq_true rfl, Nat.le_of_ble_eq_true rfl⟩ (by first | assumption | exact S1_at hx hS) dL_isWorthSo_465 (o_ofTown hx hG hS hV (ot_0 ht)) ?_
      rintro _ μ1 ⟨rfl, hS⟩
      refine px_i2l dL_isWorthSo_468 ?_
      refine px_lmul dL_isWorthSo_469 ?_
      refine px_lcmp dL_isWorthSo_470 ?_
      refine px_lc_ne (tgt := 500) dL_isWorthSo_471 (by decide) (fun h471 => (by first | exact absurd h471 (w1) | exact absurd (w1) h471)) (fun h471 => ?_)
      refine px_aload_0 dL_isWorthSo_474 ?_
      refine px_iload_1 dL_isWorthSo_475 ?_
      refine px_iconst (4) dL_isWorthSo_476 rfl ?_
      refine px_iconst (0) dL_isWorthSo_477 rfl ?_
      refine cg_L_64 rfl ⟨⟨Nat.le_of_ble_eq_true rfl, Nat.le_of_ble_eq_true rfl⟩, Nat.le_of_ble_eq_true rfl, Nat.le_of_ble_eq_true rfl, Nat.le_of_ble_eq_true rfl⟩ (by first | assumption | exact S1_at hx hS) dL_isWorthSo_478 (o_worth hx hG hS hV (wo_v (g := 4) ht (by decide) (Or.inl rfl))) ?_
      rintro _ μ1 ⟨rfl, hS⟩
      refine px_ldc2 ck_L_73 dL_isWorthSo_481 ?_
      refine px_aload_0 dL_isWorthSo_484 ?_
      refine px_iload_1 dL_isWorthSo_485 ?_
      refine px_iconst (0) dL_isWorthSo_486 rfl ?_
      refine cg_L_53 rfl ⟨⟨Nat.le_of_ble_eq_true rfl, Nat.le_of_ble_eq_true rfl⟩, Nat.le_of_ble_eq_true rfl, Nat.le_of_ble_eq_true rfl, Nat.le_of_ble_eq_true rfl⟩ (by first | assumption | exact S1_at hx hS) dL_isWorthSo_487 (o_ofTown hx hG hS hV (ot_0 ht)) ?_
      rintro _ μ1 ⟨rfl, hS⟩
      refine px_i2l dL_isWorthSo_490 ?_
      refine px_lmul dL_isWorthSo_491 ?_
      refine px_lcmp dL_isWorthSo_492 ?_
      refine px_lc_ne (tgt := 500) dL_isWorthSo_493 (by decide) (fun h493 => (by first | exact absurd h493 (w4) | exact absurd (w4) h493)) (fun h493 => ?_)
      refine px_iconst (1) dL_isWorthSo_496 rfl ?_
      refine px_goto (tgt := 501) dL_isWorthSo_497 (by decide) ?_
      refine px_zret dL_isWorthSo_501 (by first | rfl | exact px_nb _) ?_
      subst hQ; exact ⟨rfl, hS⟩
  have L374 : ∀ μ o6 o7 o8 o9 o10 o11 o12 o13, px_S1 T R I0 x A μ → (px_W l G yL_isWorthSo cL_isWorthSo 14 (some .boolean) (px_rm 7 0 0) (px_Fn G Q 0 0) 374 [some (.ref x), some (.int (nI t)), some (.int 1), some (.int (nI (u + 1))), some (.long (f_w A.1 0 (u + 1) t)), none, o6, o7, o8, o9, o10, o11, o12, o13] [] 0 0 μ) := by
    intro μ o6 o7 o8 o9 o10 o11 o12 o13 hS
    have hb := pt_bit (σ := A.1) ht
    by_cases hp : f_pays A.1 t
    · rw [if_pos hp] at hb
      have hp' := hp
      unfold f_pays at hp'
      rw [e4'] at hp'
      refine px_iload_2 dL_isWorthSo_374 ?_
      refine px_if_eq (tgt := 437) dL_isWorthSo_375 (by decide) (fun h375 => (by first | exact absurd h375 ((by decide)) | exact absurd ((by decide)) h375)) (fun h375 => ?_)
      refine px_aload_0 dL_isWorthSo_378 ?_
      refine px_iload_1 dL_isWorthSo_379 ?_
      refine px_iconst (3) dL_isWorthSo_380 rfl ?_
      refine cg_L_53 rfl ⟨⟨Nat.le_of_ble_eq_true rfl, Nat.le_of_ble_eq_true rfl⟩, Nat.le_of_ble_eq_true rfl, Nat.le_of_ble_eq_true rfl, Nat.le_of_ble_eq_true rfl⟩ (by first | assumption | exact S1_at hx hS) dL_isWorthSo_381 (o_ofTown hx hG hS hV ((ot_3 ht).trans (if_pos hp))) ?_
      rintro _ μ1 ⟨rfl, hS⟩
      refine px_iconst (1) dL_isWorthSo_384 rfl ?_
      refine px_icmp_ne (tgt := 392) dL_isWorthSo_385 (by decide) (fun h385 => (by first | exact absurd h385 ((rfl)) | exact absurd ((rfl)) h385)) (fun h385 => ?_)
      refine px_iconst (1) dL_isWorthSo_388 rfl ?_
      refine px_goto (tgt := 393) dL_isWorthSo_389 (by decide) ?_
      refine px_lload_4 dL_isWorthSo_393 ?_
      refine px_aload_0 dL_isWorthSo_395 ?_
      refine px_iload_1 dL_isWorthSo_396 ?_
      refine px_iload_3 dL_isWorthSo_397 ?_
      refine px_iconst (1) dL_isWorthSo_398 rfl ?_
      refine cg_L_64 rfl ⟨⟨Nat.le_of_ble_eq_true rfl, Nat.le_of_ble_eq_true rfl⟩, Nat.le_of_ble_eq_true rfl, Nat.le_of_ble_eq_true rfl, Nat.le_of_ble_eq_true rfl⟩ (by first | assumption | exact S1_at hx hS) dL_isWorthSo_399 (o_worth hx hG hS hV (wo_v (g := u + 1) ht (by omega) (Or.inr rfl))) ?_
      rintro _ μ1 ⟨rfl, hS⟩
      refine px_lcmp dL_isWorthSo_402 ?_
      refine px_lc_le (tgt := 410) dL_isWorthSo_403 (by decide) (fun h403 => (by first | exact absurd h403 ((Int64.not_le.mpr hp')) | exact absurd ((Int64.not_le.mpr hp')) h403)) (fun h403 => ?_)
      refine px_iconst (1) dL_isWorthSo_406 rfl ?_
      refine px_goto (tgt := 411) dL_isWorthSo_407 (by decide) ?_
      refine px_icmp_ne (tgt := 437) dL_isWorthSo_411 (by decide) (fun h411 => (by first | exact absurd h411 ((rfl)) | exact absurd ((rfl)) h411)) (fun h411 => ?_)
      refine px_aload_0 dL_isWorthSo_414 ?_
      refine px_bipush (8) dL_isWorthSo_415 rfl ?_
      refine cg_L_14 rfl ⟨⟨Nat.le_of_ble_eq_true rfl, Nat.le_of_ble_eq_true rfl⟩, Nat.le_of_ble_eq_true rfl, Nat.le_of_ble_eq_true rfl, Nat.le_of_ble_eq_true rfl⟩ (by first | assumption | exact S1_at hx hS) dL_isWorthSo_417 (o_count hx hG hS hV cnt_8) ?_
      rintro _ μ1 ⟨rfl, hS⟩
      refine px_iload_1 dL_isWorthSo_420 ?_
      refine px_ishr dL_isWorthSo_421 ?_
      refine px_iconst (1) dL_isWorthSo_422 rfl ?_
      refine px_iand dL_isWorthSo_423 ?_
      refine px_aload_0 dL_isWorthSo_424 ?_
      refine px_iload_1 dL_isWorthSo_425 ?_
      refine px_iconst (3) dL_isWorthSo_426 rfl ?_
      refine cg_L_53 rfl ⟨⟨Nat.le_of_ble_eq_true rfl, Nat.le_of_ble_eq_true rfl⟩, Nat.le_of_ble_eq_true rfl, Nat.le_of_ble_eq_true rfl, Nat.le_of_ble_eq_true rfl⟩ (by first | assumption | exact S1_at hx hS) dL_isWorthSo_427 (o_ofTown hx hG hS hV ((ot_3 ht).trans (if_pos hp))) ?_
      rintro _ μ1 ⟨rfl, hS⟩
      refine px_icmp_ne (tgt := 437) dL_isWorthSo_430 (by decide) (fun h430 => (by first | exact absurd h430 (hb) | exact absurd (hb) h430)) (fun h430 => ?_)
      refine px_iconst (1) dL_isWorthSo_433 rfl ?_
      refine px_goto (tgt := 438) dL_isWorthSo_434 (by decide) ?_
      refine px_istore_2 dL_isWorthSo_438 rfl ?_
      exact L439 _ _ _ _ _ _ _ _ _ _ _ _ hS
    · rw [if_neg hp] at hb
      have hp' := hp
      unfold f_pays at hp'
      rw [e4'] at hp'
      refine px_iload_2 dL_isWorthSo_374 ?_
      refine px_if_eq (tgt := 437) dL_isWorthSo_375 (by decide) (fun h375 => (by first | exact absurd h375 ((by decide)) | exact absurd ((by decide)) h375)) (fun h375 => ?_)
      refine px_aload_0 dL_isWorthSo_378 ?_
      refine px_iload_1 dL_isWorthSo_379 ?_
      refine px_iconst (3) dL_isWorthSo_380 rfl ?_
      refine cg_L_53 rfl ⟨⟨Nat.le_of_ble_eq_true rfl, Nat.le_of_ble_eq_true rfl⟩, Nat.le_of_ble_eq_true rfl, Nat.le_of_ble_eq_true rfl, Nat.le_of_ble_eq_true rfl⟩ (by first | assumption | exact S1_at hx hS) dL_isWorthSo_381 (o_ofTown hx hG hS hV ((ot_3 ht).trans (if_neg hp))) ?_
      rintro _ μ1 ⟨rfl, hS⟩
      refine px_iconst (1) dL_isWorthSo_384 rfl ?_
      refine px_icmp_ne (tgt := 392) dL_isWorthSo_385 (by decide) (fun h385 => ?_) (fun h385 => (by first | exact absurd ((by decide)) h385 | exact absurd h385 ((by decide))))
      refine px_iconst (0) dL_isWorthSo_392 rfl ?_
      refine px_lload_4 dL_isWorthSo_393 ?_
      refine px_aload_0 dL_isWorthSo_395 ?_
      refine px_iload_1 dL_isWorthSo_396 ?_
      refine px_iload_3 dL_isWorthSo_397 ?_
      refine px_iconst (1) dL_isWorthSo_398 rfl ?_
      refine cg_L_64 rfl ⟨⟨Nat.le_of_ble_eq_true rfl, Nat.le_of_ble_eq_true rfl⟩, Nat.le_of_ble_eq_true rfl, Nat.le_of_ble_eq_true rfl, Nat.le_of_ble_eq_true rfl⟩ (by first | assumption | exact S1_at hx hS) dL_isWorthSo_399 (o_worth hx hG hS hV (wo_v (g := u + 1) ht (by omega) (Or.inr rfl))) ?_
      rintro _ μ1 ⟨rfl, hS⟩
      refine px_lcmp dL_isWorthSo_402 ?_
      refine px_lc_le (tgt := 410) dL_isWorthSo_403 (by decide) (fun h403 => ?_) (fun h403 => (by first | exact absurd ((Int64.not_lt.mp hp')) h403 | exact absurd h403 ((Int64.not_lt.mp hp'))))
      refine px_iconst (0) dL_isWorthSo_410 rfl ?_
      refine px_icmp_ne (tgt := 437) dL_isWorthSo_411 (by decide) (fun h411 => (by first | exact absurd h411 ((rfl)) | exact absurd ((rfl)) h411)) (fun h411 => ?_)
      refine px_aload_0 dL_isWorthSo_414 ?_
      refine px_bipush (8) dL_isWorthSo_415 rfl ?_
      refine cg_L_14 rfl ⟨⟨Nat.le_of_ble_eq_true rfl, Nat.le_of_ble_eq_true rfl⟩, Nat.le_of_ble_eq_true rfl, Nat.le_of_ble_eq_true rfl, Nat.le_of_ble_eq_true rfl⟩ (by first | assumption | exact S1_at hx hS) dL_isWorthSo_417 (o_count hx hG hS hV cnt_8) ?_
      rintro _ μ1 ⟨rfl, hS⟩
      refine px_iload_1 dL_isWorthSo_420 ?_
      refine px_ishr dL_isWorthSo_421 ?_
      refine px_iconst (1) dL_isWorthSo_422 rfl ?_
      refine px_iand dL_isWorthSo_423 ?_
      refine px_aload_0 dL_isWorthSo_424 ?_
      refine px_iload_1 dL_isWorthSo_425 ?_
      refine px_iconst (3) dL_isWorthSo_426 rfl ?_
      refine cg_L_53 rfl ⟨⟨Nat.le_of_ble_eq_true rfl, Nat.le_of_ble_eq_true rfl⟩, Nat.le_of_ble_eq_true rfl, Nat.le_of_ble_eq_true rfl, Nat.le_of_ble_eq_true rfl⟩ (by first | assumption | exact S1_at hx hS) dL_isWorthSo_427 (o_ofTown hx hG hS hV ((ot_3 ht).trans (if_neg hp))) ?_
      rintro _ μ1 ⟨rfl, hS⟩
      refine px_icmp_ne (tgt := 437) dL_isWorthSo_430 (by decide) (fun h430 => (by first | exact absurd h430 (hb) | exact absurd (hb) h430)) (fun h430 => ?_)
      refine px_iconst (1) dL_isWorthSo_433 rfl ?_
      refine px_goto (tgt := 438) dL_isWorthSo_434 (by decide) ?_
      refine px_istore_2 dL_isWorthSo_438 rfl ?_
      exact L439 _ _ _ _ _ _ _ _ _ _ _ _ hS
  have LB : ∀ (r k hh : Nat) (μ : px_M) (o9 o10 o11 o12 o13 : Option Value), r < f_nr A.1 → k < 2 → hh < 2 → A.1 (9 + 6 * r + k) = nI t → f_step A.1 (nI t) 1 = nI hh → 100 * f_w A.1 0 u t < f_w A.1 0 (u + 1) t → f_w A.1 0 (u + 1) t = f_by A.1 (f_w A.1 0 u) r k (u + 1) hh → px_nl o9 = true → px_S1 T R I0 x A μ → (px_W l G yL_isWorthSo cL_isWorthSo 14 (some .boolean) (px_rm 7 0 0) (px_Fn G Q 0 0) 229 [some (.ref x), some (.int (nI t)), some (.int 1), some (.int (nI (u + 1))), some (.long (f_w A.1 0 (u + 1) t)), none, some (.int (nI r)), some (.long (f_pw u)), none, o9, o10, o11, o12, o13] [] 0 0 μ) := by
    intro r k hh μ o9 o10 o11 o12 o13 hr hk hhh he hs1 hlt hby ho9 hS
    have hfar : ∃ t2, t2 < 8 ∧ A.1 (9 + 6 * r + (1 - k)) = nI t2 := ⟨_, (ix_of_nI (ends_of hVV hr (show 1 - k < 2 by omega)).2.1).2, (ix_of_nI (ends_of hVV hr (show 1 - k < 2 by omega)).2.1).1⟩
    obtain ⟨t2, l2, e2⟩ := hfar
    have l257 : ∀ μ, px_S1 T R I0 x A μ → (px_W l G yL_isWorthSo cL_isWorthSo 14 (some .boolean) (px_rm 7 0 0) (px_Fn G Q 0 0) 257 [some (.ref x), some (.int (nI t)), some (.int 1), some (.int (nI (u + 1))), some (.long (f_w A.1 0 (u + 1) t)), none, some (.int (nI r)), some (.long (f_pw u)), none, o9, o10, o11, o12, o13] [.int (nI t2)] 0 0 μ) := by
      intro μ hS
      rcases (by omega : hh = 0 ∨ hh = 1) with rfl | rfl
      · have hb : f_w A.1 0 (u + 1) t = 100 * f_w A.1 0 u t2 - (A.1 (9 + 6 * r + 2)).toInt64 * 100 * f_pw u := by
          rw [hby, f_by, if_neg (by decide), e2, ix_nI (by omega), f_pw, Int64.mul_assoc]
        refine px_istore_9 dL_isWorthSo_257 rfl ?_
        refine px_aload_0 dL_isWorthSo_259 ?_
        refine px_iload_9 dL_isWorthSo_260 ?_
        refine px_iload_3 dL_isWorthSo_262 ?_
        refine px_iconst (1) dL_isWorthSo_263 rfl ?_
        refine px_isub dL_isWorthSo_264 ?_
        rw [nI_pred]
        refine px_iconst (0) dL_isWorthSo_265 rfl ?_
        refine cg_L_64 rfl ⟨⟨Nat.le_of_ble_eq_true rfl, Nat.le_of_ble_eq_true rfl⟩, Nat.le_of_ble_eq_true rfl, Nat.le_of_ble_eq_true rfl, Nat.le_of_ble_eq_true rfl⟩ (by first | assumption | exact S1_at hx hS) dL_isWorthSo_266 (o_worth hx hG hS hV (wo_v (g := u) l2 (by omega) (Or.inl rfl))) ?_
        rintro _ μ1 ⟨rfl, hS⟩
        refine px_lstore_10 dL_isWorthSo_269 rfl ?_
        refine px_aload_0 dL_isWorthSo_271 ?_
        refine px_iload_6 dL_isWorthSo_272 ?_
        refine px_iconst (4) dL_isWorthSo_274 rfl ?_
        refine cg_L_56 rfl ⟨⟨Nat.le_of_ble_eq_true rfl, Nat.le_of_ble_eq_true rfl⟩, Nat.le_of_ble_eq_true rfl, Nat.le_of_ble_eq_true rfl, Nat.le_of_ble_eq_true rfl⟩ (by first | assumption | exact S1_at hx hS) dL_isWorthSo_275 (o_ofRoad hx hG hS hV (or_4 hVV hr)) ?_
        rintro _ μ1 ⟨rfl, hS⟩
        refine px_i2l dL_isWorthSo_278 ?_
        refine px_lstore_12 dL_isWorthSo_279 rfl ?_
        refine px_iload_2 dL_isWorthSo_281 ?_
        refine px_if_eq (tgt := 372) dL_isWorthSo_282 (by decide) (fun h282 => (by first | exact absurd h282 ((by decide)) | exact absurd ((by decide)) h282)) (fun h282 => ?_)
        refine px_lload_4 dL_isWorthSo_285 ?_
        refine px_ldc2 ck_L_68 dL_isWorthSo_287 ?_
        refine px_aload_0 dL_isWorthSo_290 ?_
        refine px_iload_1 dL_isWorthSo_291 ?_
        refine px_iload_3 dL_isWorthSo_292 ?_
        refine px_iconst (1) dL_isWorthSo_293 rfl ?_
        refine px_isub dL_isWorthSo_294 ?_
        rw [nI_pred]
        refine px_iconst (0) dL_isWorthSo_295 rfl ?_
        refine cg_L_64 rfl ⟨⟨Nat.le_of_ble_eq_true rfl, Nat.le_of_ble_eq_true rfl⟩, Nat.le_of_ble_eq_true rfl, Nat.le_of_ble_eq_true rfl, Nat.le_of_ble_eq_true rfl⟩ (by first | assumption | exact S1_at hx hS) dL_isWorthSo_296 (o_worth hx hG hS hV (wo_v (g := u) ht (by omega) (Or.inl rfl))) ?_
        rintro _ μ1 ⟨rfl, hS⟩
        refine px_lmul dL_isWorthSo_299 ?_
        refine px_lcmp dL_isWorthSo_300 ?_
        refine px_lc_le (tgt := 372) dL_isWorthSo_301 (by decide) (fun h301 => (by first | exact absurd h301 ((Int64.not_le.mpr hlt)) | exact absurd ((Int64.not_le.mpr hlt)) h301)) (fun h301 => ?_)
        refine px_lload_4 dL_isWorthSo_304 ?_
        refine px_aload_0 dL_isWorthSo_306 ?_
        refine px_iload_1 dL_isWorthSo_307 ?_
        refine px_iconst (1) dL_isWorthSo_308 rfl ?_
        refine cg_L_70 rfl ⟨⟨Nat.le_of_ble_eq_true rfl, Nat.le_of_ble_eq_true rfl⟩, Nat.le_of_ble_eq_true rfl, Nat.le_of_ble_eq_true rfl, Nat.le_of_ble_eq_true rfl⟩ (by first | assumption | exact S1_at hx hS) dL_isWorthSo_309 (o_step hx hG hS hV hs1) ?_
        rintro _ μ1 ⟨rfl, hS⟩
        refine px_iconst (1) dL_isWorthSo_312 rfl ?_
        refine px_icmp_ne (tgt := 342) dL_isWorthSo_313 (by decide) (fun h313 => ?_) (fun h313 => (by first | exact absurd ((by decide)) h313 | exact absurd h313 ((by decide))))
        refine px_ldc2 ck_L_68 dL_isWorthSo_342 ?_
        refine px_lload_10 dL_isWorthSo_345 ?_
        refine px_lmul dL_isWorthSo_347 ?_
        refine px_aload_0 dL_isWorthSo_348 ?_
        refine px_iload_6 dL_isWorthSo_349 ?_
        refine px_iconst (2) dL_isWorthSo_351 rfl ?_
        refine cg_L_56 rfl ⟨⟨Nat.le_of_ble_eq_true rfl, Nat.le_of_ble_eq_true rfl⟩, Nat.le_of_ble_eq_true rfl, Nat.le_of_ble_eq_true rfl, Nat.le_of_ble_eq_true rfl⟩ (by first | assumption | exact S1_at hx hS) dL_isWorthSo_352 (o_ofRoad hx hG hS hV (or_2 hVV hr)) ?_
        rintro _ μ1 ⟨rfl, hS⟩
        refine px_i2l dL_isWorthSo_355 ?_
        refine px_ldc2 ck_L_68 dL_isWorthSo_356 ?_
        refine px_lmul dL_isWorthSo_359 ?_
        refine px_lload_7 dL_isWorthSo_360 ?_
        refine px_lmul dL_isWorthSo_362 ?_
        refine px_lsub dL_isWorthSo_363 ?_
        refine px_lcmp dL_isWorthSo_364 ?_
        refine px_lc_ne (tgt := 372) dL_isWorthSo_365 (by decide) (fun h365 => (by first | exact absurd h365 (hb) | exact absurd (hb) h365)) (fun h365 => ?_)
        refine px_iconst (1) dL_isWorthSo_368 rfl ?_
        refine px_goto (tgt := 373) dL_isWorthSo_369 (by decide) ?_
        refine px_istore_2 dL_isWorthSo_373 rfl ?_
        exact L374 _ _ _ _ _ _ _ _ _ hS
      · have hb : f_w A.1 0 (u + 1) t = (100 - (f_cr A.1 r).toInt64) * f_w A.1 0 u t2 - (f_cr A.1 r).toInt64 * (A.1 142).toInt64 * f_pw u := by
          rw [hby, f_by, if_pos rfl, e2, ix_nI (by omega), Nat.add_sub_cancel]
        refine px_istore_9 dL_isWorthSo_257 rfl ?_
        refine px_aload_0 dL_isWorthSo_259 ?_
        refine px_iload_9 dL_isWorthSo_260 ?_
        refine px_iload_3 dL_isWorthSo_262 ?_
        refine px_iconst (1) dL_isWorthSo_263 rfl ?_
        refine px_isub dL_isWorthSo_264 ?_
        rw [nI_pred]
        refine px_iconst (0) dL_isWorthSo_265 rfl ?_
        refine cg_L_64 rfl ⟨⟨Nat.le_of_ble_eq_true rfl, Nat.le_of_ble_eq_true rfl⟩, Nat.le_of_ble_eq_true rfl, Nat.le_of_ble_eq_true rfl, Nat.le_of_ble_eq_true rfl⟩ (by first | assumption | exact S1_at hx hS) dL_isWorthSo_266 (o_worth hx hG hS hV (wo_v (g := u) l2 (by omega) (Or.inl rfl))) ?_
        rintro _ μ1 ⟨rfl, hS⟩
        refine px_lstore_10 dL_isWorthSo_269 rfl ?_
        refine px_aload_0 dL_isWorthSo_271 ?_
        refine px_iload_6 dL_isWorthSo_272 ?_
        refine px_iconst (4) dL_isWorthSo_274 rfl ?_
        refine cg_L_56 rfl ⟨⟨Nat.le_of_ble_eq_true rfl, Nat.le_of_ble_eq_true rfl⟩, Nat.le_of_ble_eq_true rfl, Nat.le_of_ble_eq_true rfl, Nat.le_of_ble_eq_true rfl⟩ (by first | assumption | exact S1_at hx hS) dL_isWorthSo_275 (o_ofRoad hx hG hS hV (or_4 hVV hr)) ?_
        rintro _ μ1 ⟨rfl, hS⟩
        refine px_i2l dL_isWorthSo_278 ?_
        refine px_lstore_12 dL_isWorthSo_279 rfl ?_
        refine px_iload_2 dL_isWorthSo_281 ?_
        refine px_if_eq (tgt := 372) dL_isWorthSo_282 (by decide) (fun h282 => (by first | exact absurd h282 ((by decide)) | exact absurd ((by decide)) h282)) (fun h282 => ?_)
        refine px_lload_4 dL_isWorthSo_285 ?_
        refine px_ldc2 ck_L_68 dL_isWorthSo_287 ?_
        refine px_aload_0 dL_isWorthSo_290 ?_
        refine px_iload_1 dL_isWorthSo_291 ?_
        refine px_iload_3 dL_isWorthSo_292 ?_
        refine px_iconst (1) dL_isWorthSo_293 rfl ?_
        refine px_isub dL_isWorthSo_294 ?_
        rw [nI_pred]
        refine px_iconst (0) dL_isWorthSo_295 rfl ?_
        refine cg_L_64 rfl ⟨⟨Nat.le_of_ble_eq_true rfl, Nat.le_of_ble_eq_true rfl⟩, Nat.le_of_ble_eq_true rfl, Nat.le_of_ble_eq_true rfl, Nat.le_of_ble_eq_true rfl⟩ (by first | assumption | exact S1_at hx hS) dL_isWorthSo_296 (o_worth hx hG hS hV (wo_v (g := u) ht (by omega) (Or.inl rfl))) ?_
        rintro _ μ1 ⟨rfl, hS⟩
        refine px_lmul dL_isWorthSo_299 ?_
        refine px_lcmp dL_isWorthSo_300 ?_
        refine px_lc_le (tgt := 372) dL_isWorthSo_301 (by decide) (fun h301 => (by first | exact absurd h301 ((Int64.not_le.mpr hlt)) | exact absurd ((Int64.not_le.mpr hlt)) h301)) (fun h301 => ?_)
        refine px_lload_4 dL_isWorthSo_304 ?_
        refine px_aload_0 dL_isWorthSo_306 ?_
        refine px_iload_1 dL_isWorthSo_307 ?_
        refine px_iconst (1) dL_isWorthSo_308 rfl ?_
        refine cg_L_70 rfl ⟨⟨Nat.le_of_ble_eq_true rfl, Nat.le_of_ble_eq_true rfl⟩, Nat.le_of_ble_eq_true rfl, Nat.le_of_ble_eq_true rfl, Nat.le_of_ble_eq_true rfl⟩ (by first | assumption | exact S1_at hx hS) dL_isWorthSo_309 (o_step hx hG hS hV hs1) ?_
        rintro _ μ1 ⟨rfl, hS⟩
        refine px_iconst (1) dL_isWorthSo_312 rfl ?_
        refine px_icmp_ne (tgt := 342) dL_isWorthSo_313 (by decide) (fun h313 => (by first | exact absurd h313 ((rfl)) | exact absurd ((rfl)) h313)) (fun h313 => ?_)
        refine px_ldc2 ck_L_68 dL_isWorthSo_316 ?_
        refine px_lload_12 dL_isWorthSo_319 ?_
        refine px_lsub dL_isWorthSo_321 ?_
        refine px_lload_10 dL_isWorthSo_322 ?_
        refine px_lmul dL_isWorthSo_324 ?_
        refine px_lload_12 dL_isWorthSo_325 ?_
        refine px_aload_0 dL_isWorthSo_327 ?_
        refine px_bipush (12) dL_isWorthSo_328 rfl ?_
        refine cg_L_14 rfl ⟨⟨Nat.le_of_ble_eq_true rfl, Nat.le_of_ble_eq_true rfl⟩, Nat.le_of_ble_eq_true rfl, Nat.le_of_ble_eq_true rfl, Nat.le_of_ble_eq_true rfl⟩ (by first | assumption | exact S1_at hx hS) dL_isWorthSo_330 (o_count hx hG hS hV cnt_12) ?_
        rintro _ μ1 ⟨rfl, hS⟩
        refine px_i2l dL_isWorthSo_333 ?_
        refine px_lmul dL_isWorthSo_334 ?_
        refine px_lload_7 dL_isWorthSo_335 ?_
        refine px_lmul dL_isWorthSo_337 ?_
        refine px_lsub dL_isWorthSo_338 ?_
        refine px_goto (tgt := 364) dL_isWorthSo_339 (by decide) ?_
        refine px_lcmp dL_isWorthSo_364 ?_
        refine px_lc_ne (tgt := 372) dL_isWorthSo_365 (by decide) (fun h365 => (by first | exact absurd h365 (hb) | exact absurd (hb) h365)) (fun h365 => ?_)
        refine px_iconst (1) dL_isWorthSo_368 rfl ?_
        refine px_goto (tgt := 373) dL_isWorthSo_369 (by decide) ?_
        refine px_istore_2 dL_isWorthSo_373 rfl ?_
        exact L374 _ _ _ _ _ _ _ _ _ hS
    rcases (by omega : k = 0 ∨ k = 1) with rfl | rfl
    · skip
      refine px_aload_0 dL_isWorthSo_229 ?_
      refine px_iload_6 dL_isWorthSo_230 ?_
      refine px_iconst (0) dL_isWorthSo_232 rfl ?_
      refine cg_L_56 rfl ⟨⟨Nat.le_of_ble_eq_true rfl, Nat.le_of_ble_eq_true rfl⟩, Nat.le_of_ble_eq_true rfl, Nat.le_of_ble_eq_true rfl, Nat.le_of_ble_eq_true rfl⟩ (by first | assumption | exact S1_at hx hS) dL_isWorthSo_233 (o_ofRoad hx hG hS hV ((or_0 hVV hr).trans he)) ?_
      rintro _ μ1 ⟨rfl, hS⟩
      refine px_iload_1 dL_isWorthSo_236 ?_
      refine px_icmp_ne (tgt := 250) dL_isWorthSo_237 (by decide) (fun h237 => (by first | exact absurd h237 ((rfl)) | exact absurd ((rfl)) h237)) (fun h237 => ?_)
      refine px_aload_0 dL_isWorthSo_240 ?_
      refine px_iload_6 dL_isWorthSo_241 ?_
      refine px_iconst (1) dL_isWorthSo_243 rfl ?_
      refine cg_L_56 rfl ⟨⟨Nat.le_of_ble_eq_true rfl, Nat.le_of_ble_eq_true rfl⟩, Nat.le_of_ble_eq_true rfl, Nat.le_of_ble_eq_true rfl, Nat.le_of_ble_eq_true rfl⟩ (by first | assumption | exact S1_at hx hS) dL_isWorthSo_244 (o_ofRoad hx hG hS hV ((or_1 hVV hr).trans e2)) ?_
      rintro _ μ1 ⟨rfl, hS⟩
      refine px_goto (tgt := 257) dL_isWorthSo_247 (by decide) ?_
      exact l257 _ hS
    · have hne : ¬ nI t2 = nI t := by
        obtain ⟨a, b, la, lb, hab, ea, eb, -, -⟩ := hVV.2.1 r hr
        intro q
        rw [q] at e2
        have : nI a = nI b := ea.symm.trans ((show A.1 (9 + 6 * r + 0) = nI t from e2).trans (he.symm.trans eb))
        exact hab ((nI_eq (by omega) (by omega)).mp this)
      refine px_aload_0 dL_isWorthSo_229 ?_
      refine px_iload_6 dL_isWorthSo_230 ?_
      refine px_iconst (0) dL_isWorthSo_232 rfl ?_
      refine cg_L_56 rfl ⟨⟨Nat.le_of_ble_eq_true rfl, Nat.le_of_ble_eq_true rfl⟩, Nat.le_of_ble_eq_true rfl, Nat.le_of_ble_eq_true rfl, Nat.le_of_ble_eq_true rfl⟩ (by first | assumption | exact S1_at hx hS) dL_isWorthSo_233 (o_ofRoad hx hG hS hV ((or_0 hVV hr).trans e2)) ?_
      rintro _ μ1 ⟨rfl, hS⟩
      refine px_iload_1 dL_isWorthSo_236 ?_
      refine px_icmp_ne (tgt := 250) dL_isWorthSo_237 (by decide) (fun h237 => ?_) (fun h237 => (by first | exact absurd (hne) h237 | exact absurd h237 (hne)))
      refine px_aload_0 dL_isWorthSo_250 ?_
      refine px_iload_6 dL_isWorthSo_251 ?_
      refine px_iconst (0) dL_isWorthSo_253 rfl ?_
      refine cg_L_56 rfl ⟨⟨Nat.le_of_ble_eq_true rfl, Nat.le_of_ble_eq_true rfl⟩, Nat.le_of_ble_eq_true rfl, Nat.le_of_ble_eq_true rfl, Nat.le_of_ble_eq_true rfl⟩ (by first | assumption | exact S1_at hx hS) dL_isWorthSo_254 (o_ofRoad hx hG hS hV ((or_0 hVV hr).trans e2)) ?_
      rintro _ μ1 ⟨rfl, hS⟩
      exact l257 _ hS
  have L181 : ∀ μ o9 o10 o11 o12 o13, px_nl o9 = true → px_S1 T R I0 x A μ → (px_W l G yL_isWorthSo cL_isWorthSo 14 (some .boolean) (px_rm 7 0 0) (px_Fn G Q 0 0) 181 [some (.ref x), some (.int (nI t)), some (.int 1), some (.int (nI (u + 1))), some (.long (f_w A.1 0 (u + 1) t)), none, some (.int (f_step A.1 (nI t) 0)), some (.long (f_pw u)), none, o9, o10, o11, o12, o13] [] 0 0 μ) := by
    intro μ o9 o10 o11 o12 o13 ho9 hS
    rcases step_cases hVV ht e4' with ⟨h0, h1, hw⟩ | ⟨r, k, hh, hr, hk, hhh, he, h0, h1, hlt, hby⟩
    · skip
      refine px_iload_6 dL_isWorthSo_181 ?_
      refine px_bipush (-6) dL_isWorthSo_183 rfl ?_
      refine px_icmp_ne (tgt := 229) dL_isWorthSo_185 (by decide) (fun h185 => (by first | exact absurd h185 (h0) | exact absurd (h0) h185)) (fun h185 => ?_)
      refine px_iload_2 dL_isWorthSo_188 ?_
      refine px_if_eq (tgt := 224) dL_isWorthSo_189 (by decide) (fun h189 => (by first | exact absurd h189 ((by decide)) | exact absurd ((by decide)) h189)) (fun h189 => ?_)
      refine px_lload_4 dL_isWorthSo_192 ?_
      refine px_ldc2 ck_L_68 dL_isWorthSo_194 ?_
      refine px_aload_0 dL_isWorthSo_197 ?_
      refine px_iload_1 dL_isWorthSo_198 ?_
      refine px_iload_3 dL_isWorthSo_199 ?_
      refine px_iconst (1) dL_isWorthSo_200 rfl ?_
      refine px_isub dL_isWorthSo_201 ?_
      rw [nI_pred]
      refine px_iconst (0) dL_isWorthSo_202 rfl ?_
      refine cg_L_64 rfl ⟨⟨Nat.le_of_ble_eq_true rfl, Nat.le_of_ble_eq_true rfl⟩, Nat.le_of_ble_eq_true rfl, Nat.le_of_ble_eq_true rfl, Nat.le_of_ble_eq_true rfl⟩ (by first | assumption | exact S1_at hx hS) dL_isWorthSo_203 (o_worth hx hG hS hV (wo_v (g := u) ht (by omega) (Or.inl rfl))) ?_
      rintro _ μ1 ⟨rfl, hS⟩
      refine px_lmul dL_isWorthSo_206 ?_
      refine px_lcmp dL_isWorthSo_207 ?_
      refine px_lc_ne (tgt := 224) dL_isWorthSo_208 (by decide) (fun h208 => (by first | exact absurd h208 (hw) | exact absurd (hw) h208)) (fun h208 => ?_)
      refine px_aload_0 dL_isWorthSo_211 ?_
      refine px_iload_1 dL_isWorthSo_212 ?_
      refine px_iconst (1) dL_isWorthSo_213 rfl ?_
      refine cg_L_70 rfl ⟨⟨Nat.le_of_ble_eq_true rfl, Nat.le_of_ble_eq_true rfl⟩, Nat.le_of_ble_eq_true rfl, Nat.le_of_ble_eq_true rfl, Nat.le_of_ble_eq_true rfl⟩ (by first | assumption | exact S1_at hx hS) dL_isWorthSo_214 (o_step hx hG hS hV h1) ?_
      rintro _ μ1 ⟨rfl, hS⟩
      refine px_if_ne (tgt := 224) dL_isWorthSo_217 (by decide) (fun h217 => (by first | exact absurd h217 ((rfl)) | exact absurd ((rfl)) h217)) (fun h217 => ?_)
      refine px_iconst (1) dL_isWorthSo_220 rfl ?_
      refine px_goto (tgt := 225) dL_isWorthSo_221 (by decide) ?_
      refine px_istore_2 dL_isWorthSo_225 rfl ?_
      refine px_goto (tgt := 374) dL_isWorthSo_226 (by decide) ?_
      exact L374 _ _ _ _ _ _ _ _ _ hS
    · have hne : ¬ f_step A.1 (nI t) 0 = -6 := by
        rw [h0]
        intro q
        have := congrArg Int32.toInt q
        rw [nI_ti (by omega), show (-6 : Int32).toInt = -6 from rfl] at this
        omega
      refine px_iload_6 dL_isWorthSo_181 ?_
      refine px_bipush (-6) dL_isWorthSo_183 rfl ?_
      refine px_icmp_ne (tgt := 229) dL_isWorthSo_185 (by decide) (fun h185 => ?_) (fun h185 => (by first | exact absurd (hne) h185 | exact absurd h185 (hne)))
      rw [h0]; exact LB r k hh _ _ _ _ _ _ hr hk hhh he h1 hlt hby ho9 hS
  have L161 : ∀ n k, k + n = u → ∀ μ o10 o11 o12 o13, px_S1 T R I0 x A μ → (px_W l G yL_isWorthSo cL_isWorthSo 14 (some .boolean) (px_rm 7 0 0) (px_Fn G Q 0 0) 161 [some (.ref x), some (.int (nI t)), some (.int 1), some (.int (nI (u + 1))), some (.long (f_w A.1 0 (u + 1) t)), none, some (.int (f_step A.1 (nI t) 0)), some (.long (f_pw k)), none, some (.int (nI (k + 1))), o10, o11, o12, o13] [] 0 0 μ) := by
    intro n
    induction n with
    | zero =>
      intro k hk μ o10 o11 o12 o13 hS
      obtain rfl : k = u := by omega
      refine px_iload_9 dL_isWorthSo_161 ?_
      refine px_iload_3 dL_isWorthSo_163 ?_
      refine px_icmp_ge (tgt := 181) dL_isWorthSo_164 (by decide) (fun h164 => ?_) (fun h164 => (by first | exact absurd ((nI_le (Nat.le_refl _) (by omega))) h164 | exact absurd h164 ((nI_le (Nat.le_refl _) (by omega)))))
      exact L181 _ _ _ _ _ _ rfl hS
    | succ n ih =>
      intro k hk μ o10 o11 o12 o13 hS
      have hge : ¬ nI (u + 1) ≤ nI (k + 1) := nI_ge (by omega) (by omega)
      refine px_iload_9 dL_isWorthSo_161 ?_
      refine px_iload_3 dL_isWorthSo_163 ?_
      refine px_icmp_ge (tgt := 181) dL_isWorthSo_164 (by decide) (fun h164 => (by first | exact absurd h164 (hge) | exact absurd (hge) h164)) (fun h164 => ?_)
      refine px_lload_7 dL_isWorthSo_167 ?_
      refine px_ldc2 ck_L_68 dL_isWorthSo_169 ?_
      refine px_lmul dL_isWorthSo_172 ?_
      rw [Int64.mul_comm]
      refine px_lstore_7 dL_isWorthSo_173 rfl ?_
      refine px_iinc_9 dL_isWorthSo_175 rfl ?_
      refine px_goto (tgt := 161) dL_isWorthSo_178 (by decide) ?_
      rw [inc_nI]; exact ih (k + 1) (by omega) _ _ _ _ _ hS
  have L44 : ∀ n g, g + n = 4 → ∀ μ o4 o5 o6 o7 o8 o9 o10 o11 o12 o13, px_S1 T R I0 x A μ → (px_W l G yL_isWorthSo cL_isWorthSo 14 (some .boolean) (px_rm 7 0 0) (px_Fn G Q 0 0) 44 [some (.ref x), some (.int (nI t)), some (.int 1), some (.int (nI (g + 1))), o4, o5, o6, o7, o8, o9, o10, o11, o12, o13] [] 0 0 μ) := by
    intro n
    induction n with
    | zero =>
      intro g hg μ o4 o5 o6 o7 o8 o9 o10 o11 o12 o13 hS
      obtain rfl : g = 4 := by omega
      refine px_iload_3 dL_isWorthSo_44 ?_
      refine px_iconst (5) dL_isWorthSo_45 rfl ?_
      refine px_icmp_ge (tgt := 131) dL_isWorthSo_46 (by decide) (fun h46 => ?_) (fun h46 => (by first | exact absurd ((nI_le (a := 5) (b := 5) (by omega) (by omega))) h46 | exact absurd h46 ((nI_le (a := 5) (b := 5) (by omega) (by omega)))))
      refine px_aload_0 dL_isWorthSo_131 ?_
      refine px_bipush (14) dL_isWorthSo_132 rfl ?_
      refine cg_L_14 rfl ⟨⟨Nat.le_of_ble_eq_true rfl, Nat.le_of_ble_eq_true rfl⟩, Nat.le_of_ble_eq_true rfl, Nat.le_of_ble_eq_true rfl, Nat.le_of_ble_eq_true rfl⟩ (by first | assumption | exact S1_at hx hS) dL_isWorthSo_134 (o_count hx hG hS hV (cnt_14.trans e4)) ?_
      rintro _ μ1 ⟨rfl, hS⟩
      refine px_istore_3 dL_isWorthSo_137 rfl ?_
      refine px_aload_0 dL_isWorthSo_138 ?_
      refine px_iload_1 dL_isWorthSo_139 ?_
      refine px_iload_3 dL_isWorthSo_140 ?_
      refine px_iconst (0) dL_isWorthSo_141 rfl ?_
      refine cg_L_64 rfl ⟨⟨Nat.le_of_ble_eq_true rfl, Nat.le_of_ble_eq_true rfl⟩, Nat.le_of_ble_eq_true rfl, Nat.le_of_ble_eq_true rfl, Nat.le_of_ble_eq_true rfl⟩ (by first | assumption | exact S1_at hx hS) dL_isWorthSo_142 (o_worth hx hG hS hV (wo_v (g := u + 1) ht (by omega) (Or.inl rfl))) ?_
      rintro _ μ1 ⟨rfl, hS⟩
      refine px_lstore_4 dL_isWorthSo_145 rfl ?_
      refine px_aload_0 dL_isWorthSo_147 ?_
      refine px_iload_1 dL_isWorthSo_148 ?_
      refine px_iconst (0) dL_isWorthSo_149 rfl ?_
      refine cg_L_70 rfl ⟨⟨Nat.le_of_ble_eq_true rfl, Nat.le_of_ble_eq_true rfl⟩, Nat.le_of_ble_eq_true rfl, Nat.le_of_ble_eq_true rfl, Nat.le_of_ble_eq_true rfl⟩ (by first | assumption | exact S1_at hx hS) dL_isWorthSo_150 (o_step hx hG hS hV rfl) ?_
      rintro _ μ1 ⟨rfl, hS⟩
      refine px_istore_6 dL_isWorthSo_153 rfl ?_
      refine px_lconst (1) dL_isWorthSo_155 rfl ?_
      refine px_lstore_7 dL_isWorthSo_156 rfl ?_
      refine px_iconst (1) dL_isWorthSo_158 rfl ?_
      refine px_istore_9 dL_isWorthSo_159 rfl ?_
      exact L161 u 0 (Nat.zero_add _) _ _ _ _ _ hS
    | succ n ih =>
      intro g hg μ o4 o5 o6 o7 o8 o9 o10 o11 o12 o13 hS
      have hge : ¬ (5 : Int32) ≤ nI (g + 1) := nI_ge (a := g + 1) (b := 5) (by omega) (by omega)
      have g1 : ¬ f_w A.1 1 (g + 1) t < 100 * f_w A.1 1 g t := Int64.not_lt.mpr (w_grow 1 g t)
      have g2 : ¬ f_w A.1 0 (g + 1) t < f_w A.1 1 (g + 1) t := Int64.not_lt.mpr (w_open hVV (g + 1) (by omega) t ht)
      have g3 : ¬ f_w A.1 0 (g + 1) t < 100 * f_w A.1 0 g t := Int64.not_lt.mpr (w_grow 0 g t)
      refine px_iload_3 dL_isWorthSo_44 ?_
      refine px_iconst (5) dL_isWorthSo_45 rfl ?_
      refine px_icmp_ge (tgt := 131) dL_isWorthSo_46 (by decide) (fun h46 => (by first | exact absurd h46 (hge) | exact absurd (hge) h46)) (fun h46 => ?_)
      refine px_iload_2 dL_isWorthSo_49 ?_
      refine px_if_eq (tgt := 123) dL_isWorthSo_50 (by decide) (fun h50 => (by first | exact absurd h50 ((by decide)) | exact absurd ((by decide)) h50)) (fun h50 => ?_)
      refine px_aload_0 dL_isWorthSo_53 ?_
      refine px_iload_1 dL_isWorthSo_54 ?_
      refine px_iload_3 dL_isWorthSo_55 ?_
      refine px_iconst (1) dL_isWorthSo_56 rfl ?_
      refine cg_L_64 rfl ⟨⟨Nat.le_of_ble_eq_true rfl, Nat.le_of_ble_eq_true rfl⟩, Nat.le_of_ble_eq_true rfl, Nat.le_of_ble_eq_true rfl, Nat.le_of_ble_eq_true rfl⟩ (by first | assumption | exact S1_at hx hS) dL_isWorthSo_57 (o_worth hx hG hS hV (wo_v (g := g + 1) ht (by omega) (Or.inr rfl))) ?_
      rintro _ μ1 ⟨rfl, hS⟩
      refine px_ldc2 ck_L_68 dL_isWorthSo_60 ?_
      refine px_aload_0 dL_isWorthSo_63 ?_
      refine px_iload_1 dL_isWorthSo_64 ?_
      refine px_iload_3 dL_isWorthSo_65 ?_
      refine px_iconst (1) dL_isWorthSo_66 rfl ?_
      refine px_isub dL_isWorthSo_67 ?_
      rw [nI_pred]
      refine px_iconst (1) dL_isWorthSo_68 rfl ?_
      refine cg_L_64 rfl ⟨⟨Nat.le_of_ble_eq_true rfl, Nat.le_of_ble_eq_true rfl⟩, Nat.le_of_ble_eq_true rfl, Nat.le_of_ble_eq_true rfl, Nat.le_of_ble_eq_true rfl⟩ (by first | assumption | exact S1_at hx hS) dL_isWorthSo_69 (o_worth hx hG hS hV (wo_v (g := g) ht (by omega) (Or.inr rfl))) ?_
      rintro _ μ1 ⟨rfl, hS⟩
      refine px_lmul dL_isWorthSo_72 ?_
      refine px_lcmp dL_isWorthSo_73 ?_
      refine px_lc_lt (tgt := 123) dL_isWorthSo_74 (by decide) (fun h74 => (by first | exact absurd h74 (g1) | exact absurd (g1) h74)) (fun h74 => ?_)
      refine px_aload_0 dL_isWorthSo_77 ?_
      refine px_iload_1 dL_isWorthSo_78 ?_
      refine px_iload_3 dL_isWorthSo_79 ?_
      refine px_iconst (0) dL_isWorthSo_80 rfl ?_
      refine cg_L_64 rfl ⟨⟨Nat.le_of_ble_eq_true rfl, Nat.le_of_ble_eq_true rfl⟩, Nat.le_of_ble_eq_true rfl, Nat.le_of_ble_eq_true rfl, Nat.le_of_ble_eq_true rfl⟩ (by first | assumption | exact S1_at hx hS) dL_isWorthSo_81 (o_worth hx hG hS hV (wo_v (g := g + 1) ht (by omega) (Or.inl rfl))) ?_
      rintro _ μ1 ⟨rfl, hS⟩
      refine px_aload_0 dL_isWorthSo_84 ?_
      refine px_iload_1 dL_isWorthSo_85 ?_
      refine px_iload_3 dL_isWorthSo_86 ?_
      refine px_iconst (1) dL_isWorthSo_87 rfl ?_
      refine cg_L_64 rfl ⟨⟨Nat.le_of_ble_eq_true rfl, Nat.le_of_ble_eq_true rfl⟩, Nat.le_of_ble_eq_true rfl, Nat.le_of_ble_eq_true rfl, Nat.le_of_ble_eq_true rfl⟩ (by first | assumption | exact S1_at hx hS) dL_isWorthSo_88 (o_worth hx hG hS hV (wo_v (g := g + 1) ht (by omega) (Or.inr rfl))) ?_
      rintro _ μ1 ⟨rfl, hS⟩
      refine px_lcmp dL_isWorthSo_91 ?_
      refine px_lc_lt (tgt := 123) dL_isWorthSo_92 (by decide) (fun h92 => (by first | exact absurd h92 (g2) | exact absurd (g2) h92)) (fun h92 => ?_)
      refine px_aload_0 dL_isWorthSo_95 ?_
      refine px_iload_1 dL_isWorthSo_96 ?_
      refine px_iload_3 dL_isWorthSo_97 ?_
      refine px_iconst (0) dL_isWorthSo_98 rfl ?_
      refine cg_L_64 rfl ⟨⟨Nat.le_of_ble_eq_true rfl, Nat.le_of_ble_eq_true rfl⟩, Nat.le_of_ble_eq_true rfl, Nat.le_of_ble_eq_true rfl, Nat.le_of_ble_eq_true rfl⟩ (by first | assumption | exact S1_at hx hS) dL_isWorthSo_99 (o_worth hx hG hS hV (wo_v (g := g + 1) ht (by omega) (Or.inl rfl))) ?_
      rintro _ μ1 ⟨rfl, hS⟩
      refine px_ldc2 ck_L_68 dL_isWorthSo_102 ?_
      refine px_aload_0 dL_isWorthSo_105 ?_
      refine px_iload_1 dL_isWorthSo_106 ?_
      refine px_iload_3 dL_isWorthSo_107 ?_
      refine px_iconst (1) dL_isWorthSo_108 rfl ?_
      refine px_isub dL_isWorthSo_109 ?_
      rw [nI_pred]
      refine px_iconst (0) dL_isWorthSo_110 rfl ?_
      refine cg_L_64 rfl ⟨⟨Nat.le_of_ble_eq_true rfl, Nat.le_of_ble_eq_true rfl⟩, Nat.le_of_ble_eq_true rfl, Nat.le_of_ble_eq_true rfl, Nat.le_of_ble_eq_true rfl⟩ (by first | assumption | exact S1_at hx hS) dL_isWorthSo_111 (o_worth hx hG hS hV (wo_v (g := g) ht (by omega) (Or.inl rfl))) ?_
      rintro _ μ1 ⟨rfl, hS⟩
      refine px_lmul dL_isWorthSo_114 ?_
      refine px_lcmp dL_isWorthSo_115 ?_
      refine px_lc_lt (tgt := 123) dL_isWorthSo_116 (by decide) (fun h116 => (by first | exact absurd h116 (g3) | exact absurd (g3) h116)) (fun h116 => ?_)
      refine px_iconst (1) dL_isWorthSo_119 rfl ?_
      refine px_goto (tgt := 124) dL_isWorthSo_120 (by decide) ?_
      refine px_istore_2 dL_isWorthSo_124 rfl ?_
      refine px_iinc_3 dL_isWorthSo_125 rfl ?_
      refine px_goto (tgt := 44) dL_isWorthSo_128 (by decide) ?_
      rw [inc_nI]; exact ih (g + 1) (by omega) _ _ _ _ _ _ _ _ _ _ _ hS
  refine px_aload_0 dL_isWorthSo_0 ?_
  refine px_iload_1 dL_isWorthSo_1 ?_
  refine px_iconst (0) dL_isWorthSo_2 rfl ?_
  refine px_iconst (0) dL_isWorthSo_3 rfl ?_
  refine cg_L_64 rfl ⟨⟨Nat.le_of_ble_eq_true rfl, Nat.le_of_ble_eq_true rfl⟩, Nat.le_of_ble_eq_true rfl, Nat.le_of_ble_eq_true rfl, Nat.le_of_ble_eq_true rfl⟩ (by first | assumption | exact S1_at hx hS) dL_isWorthSo_4 (o_worth hx hG hS hV (wo_v (g := 0) ht (by decide) (Or.inl rfl))) ?_
  rintro _ μ1 ⟨rfl, hS⟩
  refine px_aload_0 dL_isWorthSo_7 ?_
  refine px_iload_1 dL_isWorthSo_8 ?_
  refine px_iconst (0) dL_isWorthSo_9 rfl ?_
  refine cg_L_53 rfl ⟨⟨Nat.le_of_ble_eq_true rfl, Nat.le_of_ble_eq_true rfl⟩, Nat.le_of_ble_eq_true rfl, Nat.le_of_ble_eq_true rfl, Nat.le_of_ble_eq_true rfl⟩ (by first | assumption | exact S1_at hx hS) dL_isWorthSo_10 (o_ofTown hx hG hS hV (ot_0 ht)) ?_
  rintro _ μ1 ⟨rfl, hS⟩
  refine px_i2l dL_isWorthSo_13 ?_
  refine px_lcmp dL_isWorthSo_14 ?_
  refine px_lc_ne (tgt := 40) dL_isWorthSo_15 (by decide) (fun h15 => (by first | exact absurd h15 ((rfl)) | exact absurd ((rfl)) h15)) (fun h15 => ?_)
  refine px_aload_0 dL_isWorthSo_18 ?_
  refine px_iload_1 dL_isWorthSo_19 ?_
  refine px_iconst (0) dL_isWorthSo_20 rfl ?_
  refine px_iconst (1) dL_isWorthSo_21 rfl ?_
  refine cg_L_64 rfl ⟨⟨Nat.le_of_ble_eq_true rfl, Nat.le_of_ble_eq_true rfl⟩, Nat.le_of_ble_eq_true rfl, Nat.le_of_ble_eq_true rfl, Nat.le_of_ble_eq_true rfl⟩ (by first | assumption | exact S1_at hx hS) dL_isWorthSo_22 (o_worth hx hG hS hV (wo_v (g := 0) ht (by decide) (Or.inr rfl))) ?_
  rintro _ μ1 ⟨rfl, hS⟩
  refine px_aload_0 dL_isWorthSo_25 ?_
  refine px_iload_1 dL_isWorthSo_26 ?_
  refine px_iconst (0) dL_isWorthSo_27 rfl ?_
  refine cg_L_53 rfl ⟨⟨Nat.le_of_ble_eq_true rfl, Nat.le_of_ble_eq_true rfl⟩, Nat.le_of_ble_eq_true rfl, Nat.le_of_ble_eq_true rfl, Nat.le_of_ble_eq_true rfl⟩ (by first | assumption | exact S1_at hx hS) dL_isWorthSo_28 (o_ofTown hx hG hS hV (ot_0 ht)) ?_
  rintro _ μ1 ⟨rfl, hS⟩
  refine px_i2l dL_isWorthSo_31 ?_
  refine px_lcmp dL_isWorthSo_32 ?_
  refine px_lc_ne (tgt := 40) dL_isWorthSo_33 (by decide) (fun h33 => (by first | exact absurd h33 ((rfl)) | exact absurd ((rfl)) h33)) (fun h33 => ?_)
  refine px_iconst (1) dL_isWorthSo_36 rfl ?_
  refine px_goto (tgt := 41) dL_isWorthSo_37 (by decide) ?_
  refine px_istore_2 dL_isWorthSo_41 rfl ?_
  refine px_iconst (1) dL_isWorthSo_42 rfl ?_
  refine px_istore_3 dL_isWorthSo_43 rfl ?_
  exact L44 4 0 rfl _ _ _ _ _ _ _ _ _ _ _ hS
end AWO

