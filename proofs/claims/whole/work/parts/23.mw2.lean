section MW2
variable {l : Launch} {G : px_G} {T : px_T} {I : px_I} {J : px_J} {R : px_R} {μ : px_M} {m : Nat} {σ : px_s}
/-- only the row of worths is another -/
def px_Qj (T : px_T) (I : px_I) (J : px_J) (R : px_R) (m : Nat) (w : Value) : Option Value → px_M → Prop := fun v μ' => v = some w ∧ ∃ J' : px_J, μ' = (T, I, J', R) ∧ ∀ a, a ≠ m + 6 → J' a = J a
theorem s_X8_worthOf {u z ov : Int32} {legs t : Nat} (hm : px_mo G T R m) (hV : px_V (I (m + 1))) (et : u = nI t) (ht : t < 8) (ez : z = nI legs) (hz : legs ≤ 4) : px_C l G 4 0 0 mX8_worthOf [.ref m, .int u, .int z, .int ov] (T, I, J, R) (px_Qj T I J R m (.long (f_w (I (m + 1)) ov legs t))) := by
  refine px_met (M := mX8_worthOf) ([some (.ref m), some (.int u), some (.int z), some (.int ov)]) (by decide +kernel) rfl (Nat.le_of_ble_eq_true rfl) rfl ?_
  refine px_aload_0 dX8_worthOf_0 ?_
  refine px_iload_2 dX8_worthOf_1 ?_
  refine px_iload_3 dX8_worthOf_2 ?_
  refine cg_X8_78 rfl ⟨⟨Nat.le_of_ble_eq_true rfl, Nat.le_of_ble_eq_true rfl⟩, Nat.le_of_ble_eq_true rfl, Nat.le_of_ble_eq_true rfl, Nat.le_of_ble_eq_true rfl⟩ (by first | assumption | exact mo_a hm | exact mo_r0 hm | exact mo_r1 hm | exact mo_r2 hm | exact mo_r4 hm | exact mo_r6 hm | exact mo_r8 hm | exact mo_a1 hm | exact mo_a2 hm | exact mo_a3 hm | exact mo_a4 hm | exact mo_a5 hm | exact mo_a6 hm) dX8_worthOf_3 (s_X8_workOut hm hV ez hz) ?_
  rintro v μ' ⟨rfl, J', rfl, g1, g2⟩
  refine px_aload_0 dX8_worthOf_6 ?_
  refine gf_X8_25 rfl dX8_worthOf_7 (by first | assumption | exact mo_a hm | exact mo_r0 hm | exact mo_r1 hm | exact mo_r2 hm | exact mo_r4 hm | exact mo_r6 hm | exact mo_r8 hm | exact mo_a1 hm | exact mo_a2 hm | exact mo_a3 hm | exact mo_a4 hm | exact mo_a5 hm | exact mo_a6 hm) (by first | assumption | exact mo_a hm | exact mo_r0 hm | exact mo_r1 hm | exact mo_r2 hm | exact mo_r4 hm | exact mo_r6 hm | exact mo_r8 hm | exact mo_a1 hm | exact mo_a2 hm | exact mo_a3 hm | exact mo_a4 hm | exact mo_a5 hm | exact mo_a6 hm) ?_
  refine px_bipush (8) dX8_worthOf_10 rfl ?_
  refine px_iload_2 dX8_worthOf_12 ?_
  refine px_imul dX8_worthOf_13 ?_
  refine px_iload_1 dX8_worthOf_14 ?_
  refine px_iadd dX8_worthOf_15 ?_
  refine px_laldN dX8_worthOf_16 (by first | assumption | exact mo_a hm | exact mo_r0 hm | exact mo_r1 hm | exact mo_r2 hm | exact mo_r4 hm | exact mo_r6 hm | exact mo_r8 hm | exact mo_a1 hm | exact mo_a2 hm | exact mo_a3 hm | exact mo_a4 hm | exact mo_a5 hm | exact mo_a6 hm) (by exact wix ez et) (by omega) ?_
  rw [g2 legs (Nat.le_refl _) t ht]
  refine px_lret dX8_worthOf_17 ?_
  exact ⟨rfl, J', rfl, g1⟩
abbrev f_pays (σ : px_s) (t : Nat) : Prop := f_w σ 1 (ix (σ 144)) t < f_w σ 0 (ix (σ 144)) t
def f_pt (σ : px_s) : Nat → Int32
  | 0 => 0
  | t + 1 => f_pt σ t ||| (if f_pays σ t then 1 <<< (nI t &&& 31) else 0)
theorem legs_of (hV : px_V σ) : σ 144 = nI (ix (σ 144)) ∧ 1 ≤ ix (σ 144) ∧ ix (σ 144) ≤ 4 := by
  have h := hV.2.2.2.2.2.2.2.2.1
  rw [rg_ti] at h
  rw [show (1 : Int32).toInt = 1 from rfl, show (4 : Int32).toInt = 4 from rfl] at h
  have h0 : rg (σ 144) 0 4 := by rw [rg_ti, show (0 : Int32).toInt = 0 from rfl, show (4 : Int32).toInt = 4 from rfl]; omega
  have := ix_ti (v := σ 144) (by omega)
  exact ⟨ix_eq h0, by omega, by omega⟩
theorem s_X8_pays {u : Int32} {t : Nat} (hm : px_mo G T R m) (hV : px_V (I (m + 1))) (et : u = nI t) (ht : t < 8) : px_C l G 5 0 0 mX8_pays [.ref m, .int u] (T, I, J, R) (px_Qj T I J R m (.int (if f_pays (I (m + 1)) t then 1 else 0))) := by
  obtain ⟨e4, l1, l4⟩ := legs_of hV
  refine px_met (M := mX8_pays) ([some (.ref m), some (.int u), none, none, none]) (by decide +kernel) rfl (Nat.le_of_ble_eq_true rfl) rfl ?_
  refine px_aload_0 dX8_pays_0 ?_
  refine gf_X8_7 rfl dX8_pays_1 (by first | assumption | exact mo_a hm | exact mo_r0 hm | exact mo_r1 hm | exact mo_r2 hm | exact mo_r4 hm | exact mo_r6 hm | exact mo_r8 hm | exact mo_a1 hm | exact mo_a2 hm | exact mo_a3 hm | exact mo_a4 hm | exact mo_a5 hm | exact mo_a6 hm) (by first | assumption | exact mo_a hm | exact mo_r0 hm | exact mo_r1 hm | exact mo_r2 hm | exact mo_r4 hm | exact mo_r6 hm | exact mo_r8 hm | exact mo_a1 hm | exact mo_a2 hm | exact mo_a3 hm | exact mo_a4 hm | exact mo_a5 hm | exact mo_a6 hm) ?_
  refine px_sipush (144) dX8_pays_4 rfl ?_
  refine px_ialdN (j := 144) dX8_pays_7 (by first | assumption | exact mo_a hm | exact mo_r0 hm | exact mo_r1 hm | exact mo_r2 hm | exact mo_r4 hm | exact mo_r6 hm | exact mo_r8 hm | exact mo_a1 hm | exact mo_a2 hm | exact mo_a3 hm | exact mo_a4 hm | exact mo_a5 hm | exact mo_a6 hm) (by first | rfl | exact ix_eq (by assumption)) (by first | decide | omega) ?_
  refine px_istore_2 dX8_pays_8 rfl ?_
  refine px_aload_0 dX8_pays_9 ?_
  refine px_iload_1 dX8_pays_10 ?_
  refine px_iload_2 dX8_pays_11 ?_
  refine px_iconst (1) dX8_pays_12 rfl ?_
  refine cg_X8_82 rfl ⟨⟨Nat.le_of_ble_eq_true rfl, Nat.le_of_ble_eq_true rfl⟩, Nat.le_of_ble_eq_true rfl, Nat.le_of_ble_eq_true rfl, Nat.le_of_ble_eq_true rfl⟩ (by first | assumption | exact mo_a hm | exact mo_r0 hm | exact mo_r1 hm | exact mo_r2 hm | exact mo_r4 hm | exact mo_r6 hm | exact mo_r8 hm | exact mo_a1 hm | exact mo_a2 hm | exact mo_a3 hm | exact mo_a4 hm | exact mo_a5 hm | exact mo_a6 hm) dX8_pays_13 (s_X8_worthOf hm hV et ht e4 l4) ?_
  rintro v μ' ⟨rfl, J', rfl, g1⟩
  refine px_lstore_3 dX8_pays_16 rfl ?_
  refine px_aload_0 dX8_pays_17 ?_
  refine px_iload_1 dX8_pays_18 ?_
  refine px_iload_2 dX8_pays_19 ?_
  refine px_iconst (0) dX8_pays_20 rfl ?_
  refine cg_X8_82 rfl ⟨⟨Nat.le_of_ble_eq_true rfl, Nat.le_of_ble_eq_true rfl⟩, Nat.le_of_ble_eq_true rfl, Nat.le_of_ble_eq_true rfl, Nat.le_of_ble_eq_true rfl⟩ (by first | assumption | exact mo_a hm | exact mo_r0 hm | exact mo_r1 hm | exact mo_r2 hm | exact mo_r4 hm | exact mo_r6 hm | exact mo_r8 hm | exact mo_a1 hm | exact mo_a2 hm | exact mo_a3 hm | exact mo_a4 hm | exact mo_a5 hm | exact mo_a6 hm) dX8_pays_21 (s_X8_worthOf hm hV et ht e4 l4) ?_
  rintro v μ' ⟨rfl, J2, rfl, g2⟩
  refine px_lload_3 dX8_pays_24 ?_
  refine px_lcmp dX8_pays_25 ?_
  refine px_lc_le (tgt := 33) dX8_pays_26 (by decide) (fun h26 => ?_) (fun h26 => ?_)
  · skip
    refine px_iconst (0) dX8_pays_33 rfl ?_
    refine px_zret dX8_pays_34 (by first | rfl | exact px_nb _) ?_
    first | exact ⟨by rw [if_neg (Int64.not_lt.mpr h26)], J2, rfl, fun a ha => (g2 a ha).trans (g1 a ha)⟩ | exact ⟨by rw [if_pos (Int64.not_le.mp h26)], J2, rfl, fun a ha => (g2 a ha).trans (g1 a ha)⟩
  · skip
    refine px_iconst (1) dX8_pays_29 rfl ?_
    refine px_goto (tgt := 34) dX8_pays_30 (by decide) ?_
    refine px_zret dX8_pays_34 (by first | rfl | exact px_nb _) ?_
    first | exact ⟨by rw [if_neg (Int64.not_lt.mpr h26)], J2, rfl, fun a ha => (g2 a ha).trans (g1 a ha)⟩ | exact ⟨by rw [if_pos (Int64.not_le.mp h26)], J2, rfl, fun a ha => (g2 a ha).trans (g1 a ha)⟩
theorem s_X8_payingTowns (hm : px_mo G T R m) (hV : px_V (I (m + 1))) : px_C l G 6 0 0 mX8_payingTowns [.ref m] (T, I, J, R) (px_Qj T I J R m (.int (f_pt (I (m + 1)) 8))) := by
  refine px_met (M := mX8_payingTowns) ([some (.ref m), none, none]) (by decide +kernel) rfl (Nat.le_of_ble_eq_true rfl) rfl ?_
  generalize hQ : px_Qj T I J R m (.int (f_pt (I (m + 1)) 8)) = Q
  have L : ∀ n i, i + n = 8 → ∀ (J' : px_J), (∀ a, a ≠ m + 6 → J' a = J a) → (px_W l G yX8_payingTowns cX8_payingTowns 3 (some .int) (px_rm 6 0 0) (px_Fn G Q 0 0) 4 [some (.ref m), some (.int (f_pt (I (m + 1)) i)), some (.int (nI i))] [] 0 0 (T, I, J', R)) := by
    intro n
    induction n with
    | zero =>
      intro i hi J' g
      obtain rfl : i = 8 := by omega
      refine px_iload_2 dX8_payingTowns_4 ?_
      refine px_bipush (8) dX8_payingTowns_5 rfl ?_
      refine px_icmp_ge (tgt := 34) dX8_payingTowns_7 (by decide) (fun h7 => ?_) (fun h7 => (by first | exact absurd ((nI_le (a := 8) (b := 8) (by omega) (by omega))) h7 | exact absurd h7 ((nI_le (a := 8) (b := 8) (by omega) (by omega)))))
      refine px_iload_1 dX8_payingTowns_34 ?_
      refine px_iret dX8_payingTowns_35 ?_
      subst hQ; exact ⟨rfl, J', rfl, g⟩
    | succ n ih =>
      intro i hi J' g
      by_cases hp : f_pays (I (m + 1)) i
      · have ee : f_pt (I (m + 1)) (i + 1) = f_pt (I (m + 1)) i ||| 1 <<< (nI i &&& 31) := by rw [f_pt, if_pos hp]
        refine px_iload_2 dX8_payingTowns_4 ?_
        refine px_bipush (8) dX8_payingTowns_5 rfl ?_
        refine px_icmp_ge (tgt := 34) dX8_payingTowns_7 (by decide) (fun h7 => (by first | exact absurd h7 ((nI_ge (a := i) (b := 8) (by omega) (by omega))) | exact absurd ((nI_ge (a := i) (b := 8) (by omega) (by omega))) h7)) (fun h7 => ?_)
        refine px_iload_1 dX8_payingTowns_10 ?_
        refine px_aload_0 dX8_payingTowns_11 ?_
        refine px_iload_2 dX8_payingTowns_12 ?_
        refine cg_X8_86 rfl ⟨⟨Nat.le_of_ble_eq_true rfl, Nat.le_of_ble_eq_true rfl⟩, Nat.le_of_ble_eq_true rfl, Nat.le_of_ble_eq_true rfl, Nat.le_of_ble_eq_true rfl⟩ (by first | assumption | exact mo_a hm | exact mo_r0 hm | exact mo_r1 hm | exact mo_r2 hm | exact mo_r4 hm | exact mo_r6 hm | exact mo_r8 hm | exact mo_a1 hm | exact mo_a2 hm | exact mo_a3 hm | exact mo_a4 hm | exact mo_a5 hm | exact mo_a6 hm) dX8_payingTowns_13 (s_X8_pays hm hV rfl (by omega)) ?_
        rintro v μ' ⟨rfl, J2, rfl, g2⟩
        refine px_ifb_eq (tgt := 25) dX8_payingTowns_16 (by decide) (fun h16 => (by first | exact absurd h16 (hp) | exact absurd (hp) h16)) (fun h16 => ?_)
        refine px_iconst (1) dX8_payingTowns_19 rfl ?_
        refine px_iload_2 dX8_payingTowns_20 ?_
        refine px_ishl dX8_payingTowns_21 ?_
        refine px_goto (tgt := 26) dX8_payingTowns_22 (by decide) ?_
        refine px_ior dX8_payingTowns_26 ?_
        refine px_istore_1 dX8_payingTowns_27 rfl ?_
        refine px_iinc_2 dX8_payingTowns_28 rfl ?_
        refine px_goto (tgt := 4) dX8_payingTowns_31 (by decide) ?_
        rw [inc_nI, ← ee]; exact ih (i + 1) (by omega) J2 (fun a ha => (g2 a ha).trans (g a ha))
      · have ee : f_pt (I (m + 1)) (i + 1) = f_pt (I (m + 1)) i ||| 0 := by rw [f_pt, if_neg hp]
        refine px_iload_2 dX8_payingTowns_4 ?_
        refine px_bipush (8) dX8_payingTowns_5 rfl ?_
        refine px_icmp_ge (tgt := 34) dX8_payingTowns_7 (by decide) (fun h7 => (by first | exact absurd h7 ((nI_ge (a := i) (b := 8) (by omega) (by omega))) | exact absurd ((nI_ge (a := i) (b := 8) (by omega) (by omega))) h7)) (fun h7 => ?_)
        refine px_iload_1 dX8_payingTowns_10 ?_
        refine px_aload_0 dX8_payingTowns_11 ?_
        refine px_iload_2 dX8_payingTowns_12 ?_
        refine cg_X8_86 rfl ⟨⟨Nat.le_of_ble_eq_true rfl, Nat.le_of_ble_eq_true rfl⟩, Nat.le_of_ble_eq_true rfl, Nat.le_of_ble_eq_true rfl, Nat.le_of_ble_eq_true rfl⟩ (by first | assumption | exact mo_a hm | exact mo_r0 hm | exact mo_r1 hm | exact mo_r2 hm | exact mo_r4 hm | exact mo_r6 hm | exact mo_r8 hm | exact mo_a1 hm | exact mo_a2 hm | exact mo_a3 hm | exact mo_a4 hm | exact mo_a5 hm | exact mo_a6 hm) dX8_payingTowns_13 (s_X8_pays hm hV rfl (by omega)) ?_
        rintro v μ' ⟨rfl, J2, rfl, g2⟩
        refine px_ifb_eq (tgt := 25) dX8_payingTowns_16 (by decide) (fun h16 => ?_) (fun h16 => (by first | exact absurd (hp) h16 | exact absurd h16 (hp)))
        refine px_iconst (0) dX8_payingTowns_25 rfl ?_
        refine px_ior dX8_payingTowns_26 ?_
        refine px_istore_1 dX8_payingTowns_27 rfl ?_
        refine px_iinc_2 dX8_payingTowns_28 rfl ?_
        refine px_goto (tgt := 4) dX8_payingTowns_31 (by decide) ?_
        rw [inc_nI, ← ee]; exact ih (i + 1) (by omega) J2 (fun a ha => (g2 a ha).trans (g a ha))
  refine px_iconst (0) dX8_payingTowns_0 rfl ?_
  refine px_istore_1 dX8_payingTowns_1 rfl ?_
  refine px_iconst (0) dX8_payingTowns_2 rfl ?_
  refine px_istore_2 dX8_payingTowns_3 rfl ?_
  exact L _ 0 (Nat.zero_add _) J (fun _ _ => rfl)
def f_wo (σ : px_s) (t g o : Int32) : Int64 := if ¬ rg t 0 7 then -1 else if rg g 0 4 ∧ rg o 0 1 then f_w σ (if o = 1 then 1 else 0) (ix g) (ix t) else -2
theorem s_X8_worth {t g o : Int32} (hm : px_mo G T R m) (hV : px_V (I (m + 1))) : px_C l G 5 0 0 mX8_worth [.ref m, .int t, .int g, .int o] (T, I, J, R) (px_Qj T I J R m (.long (f_wo (I (m + 1)) t g o))) := by
  refine px_met (M := mX8_worth) ([some (.ref m), some (.int t), some (.int g), some (.int o)]) (by decide +kernel) rfl (Nat.le_of_ble_eq_true rfl) rfl ?_
  by_cases hr : rg t 0 7
  · have h7 := ix_le hr (k := 7) rfl
    by_cases hg : rg g 0 4
    · have l4 := ix_le hg (k := 4) rfl
      by_cases ho : rg o 0 1
      · by_cases h1 : o = 1
        · have hf : f_wo (I (m + 1)) t g o = f_w (I (m + 1)) 1 (ix g) (ix t) := by rw [f_wo, if_neg (fun q => q hr), if_pos ⟨hg, ho⟩, if_pos h1]
          rw [hf]
          refine px_iload_1 dX8_worth_0 ?_
          refine cd_X8_108 rfl ⟨⟨Nat.le_of_ble_eq_true rfl, Nat.le_of_ble_eq_true rfl⟩, Nat.le_of_ble_eq_true rfl, Nat.le_of_ble_eq_true rfl, Nat.le_of_ble_eq_true rfl⟩ dX8_worth_1 (s_X8_isTown) ?_
          refine px_ifb_ne (tgt := 11) dX8_worth_4 (by decide) (fun h4 => ?_) (fun h4 => (by first | exact absurd (hr) h4 | exact absurd h4 (hr)))
          refine px_iload_2 dX8_worth_11 ?_
          refine px_iconst (0) dX8_worth_12 rfl ?_
          refine px_iconst (4) dX8_worth_13 rfl ?_
          refine cd_X8_29 rfl ⟨⟨Nat.le_of_ble_eq_true rfl, Nat.le_of_ble_eq_true rfl⟩, Nat.le_of_ble_eq_true rfl, Nat.le_of_ble_eq_true rfl, Nat.le_of_ble_eq_true rfl⟩ dX8_worth_14 (s_X8_in) ?_
          refine px_ifb_eq (tgt := 48) dX8_worth_17 (by decide) (fun h17 => (by first | exact absurd h17 (hg) | exact absurd (hg) h17)) (fun h17 => ?_)
          refine px_iload_3 dX8_worth_20 ?_
          refine px_iconst (0) dX8_worth_21 rfl ?_
          refine px_iconst (1) dX8_worth_22 rfl ?_
          refine cd_X8_29 rfl ⟨⟨Nat.le_of_ble_eq_true rfl, Nat.le_of_ble_eq_true rfl⟩, Nat.le_of_ble_eq_true rfl, Nat.le_of_ble_eq_true rfl, Nat.le_of_ble_eq_true rfl⟩ dX8_worth_23 (s_X8_in) ?_
          refine px_ifb_eq (tgt := 48) dX8_worth_26 (by decide) (fun h26 => (by first | exact absurd h26 (ho) | exact absurd (ho) h26)) (fun h26 => ?_)
          refine px_aload_0 dX8_worth_29 ?_
          refine px_iload_1 dX8_worth_30 ?_
          refine px_iload_2 dX8_worth_31 ?_
          refine px_iload_3 dX8_worth_32 ?_
          refine px_iconst (1) dX8_worth_33 rfl ?_
          refine px_icmp_ne (tgt := 41) dX8_worth_34 (by decide) (fun h34 => (by first | exact absurd h34 (h1) | exact absurd (h1) h34)) (fun h34 => ?_)
          refine px_iconst (1) dX8_worth_37 rfl ?_
          refine px_goto (tgt := 42) dX8_worth_38 (by decide) ?_
          refine cg_X8_82 rfl ⟨⟨Nat.le_of_ble_eq_true rfl, Nat.le_of_ble_eq_true rfl⟩, Nat.le_of_ble_eq_true rfl, Nat.le_of_ble_eq_true rfl, Nat.le_of_ble_eq_true rfl⟩ (by first | assumption | exact mo_a hm | exact mo_r0 hm | exact mo_r1 hm | exact mo_r2 hm | exact mo_r4 hm | exact mo_r6 hm | exact mo_r8 hm | exact mo_a1 hm | exact mo_a2 hm | exact mo_a3 hm | exact mo_a4 hm | exact mo_a5 hm | exact mo_a6 hm) dX8_worth_42 (s_X8_worthOf hm hV (ix_eq hr) (by omega) (ix_eq hg) l4) ?_
          rintro v μ' ⟨rfl, J', rfl, g1⟩
          refine px_goto (tgt := 51) dX8_worth_45 (by decide) ?_
          refine px_lret dX8_worth_51 ?_
          exact ⟨rfl, J', rfl, g1⟩
        · have hf : f_wo (I (m + 1)) t g o = f_w (I (m + 1)) 0 (ix g) (ix t) := by rw [f_wo, if_neg (fun q => q hr), if_pos ⟨hg, ho⟩, if_neg h1]
          rw [hf]
          refine px_iload_1 dX8_worth_0 ?_
          refine cd_X8_108 rfl ⟨⟨Nat.le_of_ble_eq_true rfl, Nat.le_of_ble_eq_true rfl⟩, Nat.le_of_ble_eq_true rfl, Nat.le_of_ble_eq_true rfl, Nat.le_of_ble_eq_true rfl⟩ dX8_worth_1 (s_X8_isTown) ?_
          refine px_ifb_ne (tgt := 11) dX8_worth_4 (by decide) (fun h4 => ?_) (fun h4 => (by first | exact absurd (hr) h4 | exact absurd h4 (hr)))
          refine px_iload_2 dX8_worth_11 ?_
          refine px_iconst (0) dX8_worth_12 rfl ?_
          refine px_iconst (4) dX8_worth_13 rfl ?_
          refine cd_X8_29 rfl ⟨⟨Nat.le_of_ble_eq_true rfl, Nat.le_of_ble_eq_true rfl⟩, Nat.le_of_ble_eq_true rfl, Nat.le_of_ble_eq_true rfl, Nat.le_of_ble_eq_true rfl⟩ dX8_worth_14 (s_X8_in) ?_
          refine px_ifb_eq (tgt := 48) dX8_worth_17 (by decide) (fun h17 => (by first | exact absurd h17 (hg) | exact absurd (hg) h17)) (fun h17 => ?_)
          refine px_iload_3 dX8_worth_20 ?_
          refine px_iconst (0) dX8_worth_21 rfl ?_
          refine px_iconst (1) dX8_worth_22 rfl ?_
          refine cd_X8_29 rfl ⟨⟨Nat.le_of_ble_eq_true rfl, Nat.le_of_ble_eq_true rfl⟩, Nat.le_of_ble_eq_true rfl, Nat.le_of_ble_eq_true rfl, Nat.le_of_ble_eq_true rfl⟩ dX8_worth_23 (s_X8_in) ?_
          refine px_ifb_eq (tgt := 48) dX8_worth_26 (by decide) (fun h26 => (by first | exact absurd h26 (ho) | exact absurd (ho) h26)) (fun h26 => ?_)
          refine px_aload_0 dX8_worth_29 ?_
          refine px_iload_1 dX8_worth_30 ?_
          refine px_iload_2 dX8_worth_31 ?_
          refine px_iload_3 dX8_worth_32 ?_
          refine px_iconst (1) dX8_worth_33 rfl ?_
          refine px_icmp_ne (tgt := 41) dX8_worth_34 (by decide) (fun h34 => ?_) (fun h34 => (by first | exact absurd (h1) h34 | exact absurd h34 (h1)))
          refine px_iconst (0) dX8_worth_41 rfl ?_
          refine cg_X8_82 rfl ⟨⟨Nat.le_of_ble_eq_true rfl, Nat.le_of_ble_eq_true rfl⟩, Nat.le_of_ble_eq_true rfl, Nat.le_of_ble_eq_true rfl, Nat.le_of_ble_eq_true rfl⟩ (by first | assumption | exact mo_a hm | exact mo_r0 hm | exact mo_r1 hm | exact mo_r2 hm | exact mo_r4 hm | exact mo_r6 hm | exact mo_r8 hm | exact mo_a1 hm | exact mo_a2 hm | exact mo_a3 hm | exact mo_a4 hm | exact mo_a5 hm | exact mo_a6 hm) dX8_worth_42 (s_X8_worthOf hm hV (ix_eq hr) (by omega) (ix_eq hg) l4) ?_
          rintro v μ' ⟨rfl, J', rfl, g1⟩
          refine px_goto (tgt := 51) dX8_worth_45 (by decide) ?_
          refine px_lret dX8_worth_51 ?_
          exact ⟨rfl, J', rfl, g1⟩
      · have hf : f_wo (I (m + 1)) t g o = -2 := by rw [f_wo, if_neg (fun q => q hr), if_neg (fun q => ho q.2)]
        rw [hf]
        refine px_iload_1 dX8_worth_0 ?_
        refine cd_X8_108 rfl ⟨⟨Nat.le_of_ble_eq_true rfl, Nat.le_of_ble_eq_true rfl⟩, Nat.le_of_ble_eq_true rfl, Nat.le_of_ble_eq_true rfl, Nat.le_of_ble_eq_true rfl⟩ dX8_worth_1 (s_X8_isTown) ?_
        refine px_ifb_ne (tgt := 11) dX8_worth_4 (by decide) (fun h4 => ?_) (fun h4 => (by first | exact absurd (hr) h4 | exact absurd h4 (hr)))
        refine px_iload_2 dX8_worth_11 ?_
        refine px_iconst (0) dX8_worth_12 rfl ?_
        refine px_iconst (4) dX8_worth_13 rfl ?_
        refine cd_X8_29 rfl ⟨⟨Nat.le_of_ble_eq_true rfl, Nat.le_of_ble_eq_true rfl⟩, Nat.le_of_ble_eq_true rfl, Nat.le_of_ble_eq_true rfl, Nat.le_of_ble_eq_true rfl⟩ dX8_worth_14 (s_X8_in) ?_
        refine px_ifb_eq (tgt := 48) dX8_worth_17 (by decide) (fun h17 => (by first | exact absurd h17 (hg) | exact absurd (hg) h17)) (fun h17 => ?_)
        refine px_iload_3 dX8_worth_20 ?_
        refine px_iconst (0) dX8_worth_21 rfl ?_
        refine px_iconst (1) dX8_worth_22 rfl ?_
        refine cd_X8_29 rfl ⟨⟨Nat.le_of_ble_eq_true rfl, Nat.le_of_ble_eq_true rfl⟩, Nat.le_of_ble_eq_true rfl, Nat.le_of_ble_eq_true rfl, Nat.le_of_ble_eq_true rfl⟩ dX8_worth_23 (s_X8_in) ?_
        refine px_ifb_eq (tgt := 48) dX8_worth_26 (by decide) (fun h26 => ?_) (fun h26 => (by first | exact absurd (ho) h26 | exact absurd h26 (ho)))
        refine px_ldc2 ck_X8_168 dX8_worth_48 ?_
        refine px_lret dX8_worth_51 ?_
        exact ⟨rfl, J, rfl, fun _ _ => rfl⟩
    · have hf : f_wo (I (m + 1)) t g o = -2 := by rw [f_wo, if_neg (fun q => q hr), if_neg (fun q => hg q.1)]
      rw [hf]
      refine px_iload_1 dX8_worth_0 ?_
      refine cd_X8_108 rfl ⟨⟨Nat.le_of_ble_eq_true rfl, Nat.le_of_ble_eq_true rfl⟩, Nat.le_of_ble_eq_true rfl, Nat.le_of_ble_eq_true rfl, Nat.le_of_ble_eq_true rfl⟩ dX8_worth_1 (s_X8_isTown) ?_
      refine px_ifb_ne (tgt := 11) dX8_worth_4 (by decide) (fun h4 => ?_) (fun h4 => (by first | exact absurd (hr) h4 | exact absurd h4 (hr)))
      refine px_iload_2 dX8_worth_11 ?_
      refine px_iconst (0) dX8_worth_12 rfl ?_
      refine px_iconst (4) dX8_worth_13 rfl ?_
      refine cd_X8_29 rfl ⟨⟨Nat.le_of_ble_eq_true rfl, Nat.le_of_ble_eq_true rfl⟩, Nat.le_of_ble_eq_true rfl, Nat.le_of_ble_eq_true rfl, Nat.le_of_ble_eq_true rfl⟩ dX8_worth_14 (s_X8_in) ?_
      refine px_ifb_eq (tgt := 48) dX8_worth_17 (by decide) (fun h17 => ?_) (fun h17 => (by first | exact absurd (hg) h17 | exact absurd h17 (hg)))
      refine px_ldc2 ck_X8_168 dX8_worth_48 ?_
      refine px_lret dX8_worth_51 ?_
      exact ⟨rfl, J, rfl, fun _ _ => rfl⟩
  · have hf : f_wo (I (m + 1)) t g o = -1 := by rw [f_wo, if_pos hr]
    rw [hf]
    refine px_iload_1 dX8_worth_0 ?_
    refine cd_X8_108 rfl ⟨⟨Nat.le_of_ble_eq_true rfl, Nat.le_of_ble_eq_true rfl⟩, Nat.le_of_ble_eq_true rfl, Nat.le_of_ble_eq_true rfl, Nat.le_of_ble_eq_true rfl⟩ dX8_worth_1 (s_X8_isTown) ?_
    refine px_ifb_ne (tgt := 11) dX8_worth_4 (by decide) (fun h4 => (by first | exact absurd h4 (hr) | exact absurd (hr) h4)) (fun h4 => ?_)
    refine px_ldc2 ck_X8_166 dX8_worth_7 ?_
    refine px_lret dX8_worth_10 ?_
    exact ⟨rfl, J, rfl, fun _ _ => rfl⟩
theorem tb_out {x : Int32} {n : Nat} (h : ∀ k, k < n → x ≠ nI k) (hn : n < 100) : x.toInt < 0 ∨ ((n : Int) - 1) < x.toInt := by
  refine Classical.byContradiction (fun q => ?_)
  have h1 := ix_ti (v := x) (by omega)
  exact h (ix x) (by omega) (ix_eq (hi := nI n - 1) (by rw [rg_ti, m1_ti (by omega), show (0 : Int32).toInt = 0 from rfl]; omega))
def f_ot (σ : px_s) (t w : Int32) : Int32 := if ¬ rg t 0 7 then -1 else if w = 0 then σ (ix t) else if w = 1 then f_ra σ t else if w = 2 then f_ca σ t else if w = 3 then (if f_pays σ (ix t) then 1 else 0) else -2
theorem s_X8_ofTown {t w : Int32} (hm : px_mo G T R m) (hV : px_V (I (m + 1))) : px_C l G 6 0 0 mX8_ofTown [.ref m, .int t, .int w] (T, I, J, R) (px_Qj T I J R m (.int (f_ot (I (m + 1)) t w))) := by
  refine px_met (M := mX8_ofTown) ([some (.ref m), some (.int t), some (.int w)]) (by decide +kernel) rfl (Nat.le_of_ble_eq_true rfl) rfl ?_
  by_cases hr : rg t 0 7
  · have h7 := ix_le hr (k := 7) rfl
    by_cases w0 : w = 0
    · subst w0
      have hf : f_ot (I (m + 1)) t 0 = I (m + 1) (ix t) := by rw [f_ot, if_neg (fun q => q hr), if_pos rfl]
      rw [hf]
      refine px_iload_1 dX8_ofTown_0 ?_
      refine cd_X8_108 rfl ⟨⟨Nat.le_of_ble_eq_true rfl, Nat.le_of_ble_eq_true rfl⟩, Nat.le_of_ble_eq_true rfl, Nat.le_of_ble_eq_true rfl, Nat.le_of_ble_eq_true rfl⟩ dX8_ofTown_1 (s_X8_isTown) ?_
      refine px_ifb_ne (tgt := 9) dX8_ofTown_4 (by decide) (fun h4 => ?_) (fun h4 => (by first | exact absurd (hr) h4 | exact absurd h4 (hr)))
      refine px_iload_2 dX8_ofTown_9 ?_
      refine px_tableIn (off := 30) (tgt := 40) dX8_ofTown_10 (by decide) (by decide) rfl (by decide) ?_
      refine px_aload_0 dX8_ofTown_40 ?_
      refine gf_X8_7 rfl dX8_ofTown_41 (by first | assumption | exact mo_a hm | exact mo_r0 hm | exact mo_r1 hm | exact mo_r2 hm | exact mo_r4 hm | exact mo_r6 hm | exact mo_r8 hm | exact mo_a1 hm | exact mo_a2 hm | exact mo_a3 hm | exact mo_a4 hm | exact mo_a5 hm | exact mo_a6 hm) (by first | assumption | exact mo_a hm | exact mo_r0 hm | exact mo_r1 hm | exact mo_r2 hm | exact mo_r4 hm | exact mo_r6 hm | exact mo_r8 hm | exact mo_a1 hm | exact mo_a2 hm | exact mo_a3 hm | exact mo_a4 hm | exact mo_a5 hm | exact mo_a6 hm) ?_
      refine px_iconst (0) dX8_ofTown_44 rfl ?_
      refine px_iload_1 dX8_ofTown_45 ?_
      refine px_iadd dX8_ofTown_46 ?_
      rw [z_add]
      refine px_ialdN dX8_ofTown_47 (by first | assumption | exact mo_a hm | exact mo_r0 hm | exact mo_r1 hm | exact mo_r2 hm | exact mo_r4 hm | exact mo_r6 hm | exact mo_r8 hm | exact mo_a1 hm | exact mo_a2 hm | exact mo_a3 hm | exact mo_a4 hm | exact mo_a5 hm | exact mo_a6 hm) (by exact ix_eq hr) (by omega) ?_
      refine px_iret dX8_ofTown_48 ?_
      exact ⟨rfl, J, rfl, fun _ _ => rfl⟩
    · by_cases w1 : w = 1
      · subst w1
        have hf : f_ot (I (m + 1)) t 1 = f_ra (I (m + 1)) t := by rw [f_ot, if_neg (fun q => q hr), if_neg (by decide), if_pos rfl]
        rw [hf]
        refine px_iload_1 dX8_ofTown_0 ?_
        refine cd_X8_108 rfl ⟨⟨Nat.le_of_ble_eq_true rfl, Nat.le_of_ble_eq_true rfl⟩, Nat.le_of_ble_eq_true rfl, Nat.le_of_ble_eq_true rfl, Nat.le_of_ble_eq_true rfl⟩ dX8_ofTown_1 (s_X8_isTown) ?_
        refine px_ifb_ne (tgt := 9) dX8_ofTown_4 (by decide) (fun h4 => ?_) (fun h4 => (by first | exact absurd (hr) h4 | exact absurd h4 (hr)))
        refine px_iload_2 dX8_ofTown_9 ?_
        refine px_tableIn (off := 39) (tgt := 49) dX8_ofTown_10 (by decide) (by decide) rfl (by decide) ?_
        refine px_aload_0 dX8_ofTown_49 ?_
        refine px_iload_1 dX8_ofTown_50 ?_
        refine px_iload_2 dX8_ofTown_51 ?_
        refine px_iconst (1) dX8_ofTown_52 rfl ?_
        refine px_isub dX8_ofTown_53 ?_
        rw [show (1 : Int32) - 1 = 0 from rfl]
        refine cd_X8_163 rfl ⟨⟨Nat.le_of_ble_eq_true rfl, Nat.le_of_ble_eq_true rfl⟩, Nat.le_of_ble_eq_true rfl, Nat.le_of_ble_eq_true rfl, Nat.le_of_ble_eq_true rfl⟩ (by first | assumption | exact mo_a hm | exact mo_r0 hm | exact mo_r1 hm | exact mo_r2 hm | exact mo_r4 hm | exact mo_r6 hm | exact mo_r8 hm | exact mo_a1 hm | exact mo_a2 hm | exact mo_a3 hm | exact mo_a4 hm | exact mo_a5 hm | exact mo_a6 hm) dX8_ofTown_54 (s_X8_setAt0 hm hV) ?_
        refine px_iret dX8_ofTown_57 ?_
        exact ⟨rfl, J, rfl, fun _ _ => rfl⟩
      · by_cases w2 : w = 2
        · subst w2
          have hf : f_ot (I (m + 1)) t 2 = f_ca (I (m + 1)) t := by rw [f_ot, if_neg (fun q => q hr), if_neg (by decide), if_neg (by decide), if_pos rfl]
          rw [hf]
          refine px_iload_1 dX8_ofTown_0 ?_
          refine cd_X8_108 rfl ⟨⟨Nat.le_of_ble_eq_true rfl, Nat.le_of_ble_eq_true rfl⟩, Nat.le_of_ble_eq_true rfl, Nat.le_of_ble_eq_true rfl, Nat.le_of_ble_eq_true rfl⟩ dX8_ofTown_1 (s_X8_isTown) ?_
          refine px_ifb_ne (tgt := 9) dX8_ofTown_4 (by decide) (fun h4 => ?_) (fun h4 => (by first | exact absurd (hr) h4 | exact absurd h4 (hr)))
          refine px_iload_2 dX8_ofTown_9 ?_
          refine px_tableIn (off := 39) (tgt := 49) dX8_ofTown_10 (by decide) (by decide) rfl (by decide) ?_
          refine px_aload_0 dX8_ofTown_49 ?_
          refine px_iload_1 dX8_ofTown_50 ?_
          refine px_iload_2 dX8_ofTown_51 ?_
          refine px_iconst (1) dX8_ofTown_52 rfl ?_
          refine px_isub dX8_ofTown_53 ?_
          rw [show (2 : Int32) - 1 = 1 from rfl]
          refine cd_X8_163 rfl ⟨⟨Nat.le_of_ble_eq_true rfl, Nat.le_of_ble_eq_true rfl⟩, Nat.le_of_ble_eq_true rfl, Nat.le_of_ble_eq_true rfl, Nat.le_of_ble_eq_true rfl⟩ (by first | assumption | exact mo_a hm | exact mo_r0 hm | exact mo_r1 hm | exact mo_r2 hm | exact mo_r4 hm | exact mo_r6 hm | exact mo_r8 hm | exact mo_a1 hm | exact mo_a2 hm | exact mo_a3 hm | exact mo_a4 hm | exact mo_a5 hm | exact mo_a6 hm) dX8_ofTown_54 (s_X8_setAt1 hm hV) ?_
          refine px_iret dX8_ofTown_57 ?_
          exact ⟨rfl, J, rfl, fun _ _ => rfl⟩
        · by_cases w3 : w = 3
          · subst w3
            have hf : f_ot (I (m + 1)) t 3 = (if f_pays (I (m + 1)) (ix t) then 1 else 0) := by rw [f_ot, if_neg (fun q => q hr), if_neg (by decide), if_neg (by decide), if_neg (by decide), if_pos rfl]
            rw [hf]
            refine px_iload_1 dX8_ofTown_0 ?_
            refine cd_X8_108 rfl ⟨⟨Nat.le_of_ble_eq_true rfl, Nat.le_of_ble_eq_true rfl⟩, Nat.le_of_ble_eq_true rfl, Nat.le_of_ble_eq_true rfl, Nat.le_of_ble_eq_true rfl⟩ dX8_ofTown_1 (s_X8_isTown) ?_
            refine px_ifb_ne (tgt := 9) dX8_ofTown_4 (by decide) (fun h4 => ?_) (fun h4 => (by first | exact absurd (hr) h4 | exact absurd h4 (hr)))
            refine px_iload_2 dX8_ofTown_9 ?_
            refine px_tableIn (off := 48) (tgt := 58) dX8_ofTown_10 (by decide) (by decide) rfl (by decide) ?_
            refine px_aload_0 dX8_ofTown_58 ?_
            refine px_iload_1 dX8_ofTown_59 ?_
            refine cg_X8_86 rfl ⟨⟨Nat.le_of_ble_eq_true rfl, Nat.le_of_ble_eq_true rfl⟩, Nat.le_of_ble_eq_true rfl, Nat.le_of_ble_eq_true rfl, Nat.le_of_ble_eq_true rfl⟩ (by first | assumption | exact mo_a hm | exact mo_r0 hm | exact mo_r1 hm | exact mo_r2 hm | exact mo_r4 hm | exact mo_r6 hm | exact mo_r8 hm | exact mo_a1 hm | exact mo_a2 hm | exact mo_a3 hm | exact mo_a4 hm | exact mo_a5 hm | exact mo_a6 hm) dX8_ofTown_60 (s_X8_pays hm hV (ix_eq hr) (by omega)) ?_
            rintro v μ' ⟨rfl, J', rfl, g1⟩
            refine px_ifb_eq (tgt := 70) dX8_ofTown_63 (by decide) (fun h63 => ?_) (fun h63 => ?_)
            · skip
              refine px_iconst (0) dX8_ofTown_70 rfl ?_
              refine px_iret dX8_ofTown_71 ?_
              first | exact ⟨by rw [if_neg h63], J', rfl, g1⟩ | exact ⟨by rw [if_pos h63], J', rfl, g1⟩
            · skip
              refine px_iconst (1) dX8_ofTown_66 rfl ?_
              refine px_goto (tgt := 71) dX8_ofTown_67 (by decide) ?_
              refine px_iret dX8_ofTown_71 ?_
              first | exact ⟨by rw [if_neg h63], J', rfl, g1⟩ | exact ⟨by rw [if_pos h63], J', rfl, g1⟩
          · have hf : f_ot (I (m + 1)) t w = -2 := by rw [f_ot, if_neg (fun q => q hr), if_neg w0, if_neg w1, if_neg w2, if_neg w3]
            rw [hf]
            have ho := tb_out (x := w) (n := 4) (fun k hk => by rcases (by omega : k = 0 ∨ k = 1 ∨ k = 2 ∨ k = 3) with rfl | rfl | rfl | rfl <;> assumption) (by decide)
            refine px_iload_1 dX8_ofTown_0 ?_
            refine cd_X8_108 rfl ⟨⟨Nat.le_of_ble_eq_true rfl, Nat.le_of_ble_eq_true rfl⟩, Nat.le_of_ble_eq_true rfl, Nat.le_of_ble_eq_true rfl, Nat.le_of_ble_eq_true rfl⟩ dX8_ofTown_1 (s_X8_isTown) ?_
            refine px_ifb_ne (tgt := 9) dX8_ofTown_4 (by decide) (fun h4 => ?_) (fun h4 => (by first | exact absurd (hr) h4 | exact absurd h4 (hr)))
            refine px_iload_2 dX8_ofTown_9 ?_
            refine px_tableOut (tgt := 72) dX8_ofTown_10 (by omega) (by decide) ?_
            refine px_bipush (-2) dX8_ofTown_72 rfl ?_
            refine px_iret dX8_ofTown_74 ?_
            exact ⟨rfl, J, rfl, fun _ _ => rfl⟩
  · have hf : f_ot (I (m + 1)) t w = -1 := by rw [f_ot, if_pos hr]
    rw [hf]
    refine px_iload_1 dX8_ofTown_0 ?_
    refine cd_X8_108 rfl ⟨⟨Nat.le_of_ble_eq_true rfl, Nat.le_of_ble_eq_true rfl⟩, Nat.le_of_ble_eq_true rfl, Nat.le_of_ble_eq_true rfl, Nat.le_of_ble_eq_true rfl⟩ dX8_ofTown_1 (s_X8_isTown) ?_
    refine px_ifb_ne (tgt := 9) dX8_ofTown_4 (by decide) (fun h4 => (by first | exact absurd h4 (hr) | exact absurd (hr) h4)) (fun h4 => ?_)
    refine px_iconst (-1) dX8_ofTown_7 rfl ?_
    refine px_iret dX8_ofTown_8 ?_
    exact ⟨rfl, J, rfl, fun _ _ => rfl⟩
def f_hb (σ : px_s) (r k : Nat) : Int32 := if σ (ix (σ (9 + 6 * r + (1 - k)))) ≤ f_ma σ r (σ (ix (σ (9 + 6 * r + k)))) then 1 else 0
theorem f_hb1 {r k : Nat} (h : f_hon σ r k) : f_hb σ r k = 1 := if_pos h
theorem f_hb0 {r k : Nat} (h : ¬ f_hon σ r k) : f_hb σ r k = 0 := if_neg h
def f_or (σ : px_s) (a b : Int32) : Int32 := if ¬ rg a 0 (σ 8 - 1) then -1 else if b = 0 then σ (9 + 6 * ix a + 0) else if b = 1 then σ (9 + 6 * ix a + 1) else if b = 2 then σ (9 + 6 * ix a + 2) else if b = 3 then σ (9 + 6 * ix a + 3) else if b = 4 then f_cr σ (ix a) else if b = 5 then f_hb σ (ix a) 0 else if b = 6 then f_hb σ (ix a) 1 else if b = 7 then σ (9 + 6 * ix a + 4) else if b = 8 then σ (9 + 6 * ix a + 5) else -2
theorem s_X8_ofRoad {a b : Int32} (hm : px_mo G T R m) (hV : px_V (I (m + 1))) : px_K l G 4 mX8_ofRoad ([.ref m, .int a, .int b]) ((T, I, J, R)) (some (.int (f_or (I (m + 1)) a b))) ((T, I, J, R)) := by
  refine px_met (M := mX8_ofRoad) ([some (.ref m), some (.int a), some (.int b)]) (by decide +kernel) rfl (Nat.le_of_ble_eq_true rfl) rfl ?_
  by_cases hr : rg a 0 (I (m + 1) 8 - 1)
  · obtain ⟨ha, hl, h14⟩ := rd_lt hV hr
    by_cases w0 : b = 0
    · subst w0
      have hf : f_or (I (m + 1)) a 0 = I (m + 1) (9 + 6 * ix a + 0) := by rw [f_or, if_neg (fun q => q hr), if_pos rfl]
      rw [hf]
      refine px_aload_0 dX8_ofRoad_0 ?_
      refine px_iload_1 dX8_ofRoad_1 ?_
      refine cd_X8_118 rfl ⟨⟨Nat.le_of_ble_eq_true rfl, Nat.le_of_ble_eq_true rfl⟩, Nat.le_of_ble_eq_true rfl, Nat.le_of_ble_eq_true rfl, Nat.le_of_ble_eq_true rfl⟩ (by first | assumption | exact mo_a hm | exact mo_r0 hm | exact mo_r1 hm | exact mo_r2 hm | exact mo_r4 hm | exact mo_r6 hm | exact mo_r8 hm | exact mo_a1 hm | exact mo_a2 hm | exact mo_a3 hm | exact mo_a4 hm | exact mo_a5 hm | exact mo_a6 hm) dX8_ofRoad_2 (s_X8_isRoad hm) ?_
      refine px_ifb_ne (tgt := 10) dX8_ofRoad_5 (by decide) (fun h5 => ?_) (fun h5 => (by first | exact absurd (hr) h5 | exact absurd h5 (hr)))
      refine px_iload_2 dX8_ofRoad_10 ?_
      refine px_tableIn (off := 49) (tgt := 60) dX8_ofRoad_11 (by decide) (by decide) rfl (by decide) ?_
      refine px_aload_0 dX8_ofRoad_60 ?_
      refine gf_X8_7 rfl dX8_ofRoad_61 (by first | assumption | exact mo_a hm | exact mo_r0 hm | exact mo_r1 hm | exact mo_r2 hm | exact mo_r4 hm | exact mo_r6 hm | exact mo_r8 hm | exact mo_a1 hm | exact mo_a2 hm | exact mo_a3 hm | exact mo_a4 hm | exact mo_a5 hm | exact mo_a6 hm) (by first | assumption | exact mo_a hm | exact mo_r0 hm | exact mo_r1 hm | exact mo_r2 hm | exact mo_r4 hm | exact mo_r6 hm | exact mo_r8 hm | exact mo_a1 hm | exact mo_a2 hm | exact mo_a3 hm | exact mo_a4 hm | exact mo_a5 hm | exact mo_a6 hm) ?_
      refine px_iload_1 dX8_ofRoad_64 ?_
      refine px_iload_2 dX8_ofRoad_65 ?_
      refine cd_X8_40 rfl ⟨⟨Nat.le_of_ble_eq_true rfl, Nat.le_of_ble_eq_true rfl⟩, Nat.le_of_ble_eq_true rfl, Nat.le_of_ble_eq_true rfl, Nat.le_of_ble_eq_true rfl⟩ dX8_ofRoad_66 (s_X8_ofOneRoad (j := 0) ha) ?_
      refine px_ialdN dX8_ofRoad_69 (by first | assumption | exact mo_a hm | exact mo_r0 hm | exact mo_r1 hm | exact mo_r2 hm | exact mo_r4 hm | exact mo_r6 hm | exact mo_r8 hm | exact mo_a1 hm | exact mo_a2 hm | exact mo_a3 hm | exact mo_a4 hm | exact mo_a5 hm | exact mo_a6 hm) (by first | rfl | exact ix_eq (by assumption)) (by first | decide | omega) ?_
      refine px_iret dX8_ofRoad_70 ?_
      exact ⟨rfl, rfl⟩
    by_cases w1 : b = 1
    · subst w1
      have hf : f_or (I (m + 1)) a 1 = I (m + 1) (9 + 6 * ix a + 1) := by rw [f_or, if_neg (fun q => q hr), if_neg (by decide), if_pos rfl]
      rw [hf]
      refine px_aload_0 dX8_ofRoad_0 ?_
      refine px_iload_1 dX8_ofRoad_1 ?_
      refine cd_X8_118 rfl ⟨⟨Nat.le_of_ble_eq_true rfl, Nat.le_of_ble_eq_true rfl⟩, Nat.le_of_ble_eq_true rfl, Nat.le_of_ble_eq_true rfl, Nat.le_of_ble_eq_true rfl⟩ (by first | assumption | exact mo_a hm | exact mo_r0 hm | exact mo_r1 hm | exact mo_r2 hm | exact mo_r4 hm | exact mo_r6 hm | exact mo_r8 hm | exact mo_a1 hm | exact mo_a2 hm | exact mo_a3 hm | exact mo_a4 hm | exact mo_a5 hm | exact mo_a6 hm) dX8_ofRoad_2 (s_X8_isRoad hm) ?_
      refine px_ifb_ne (tgt := 10) dX8_ofRoad_5 (by decide) (fun h5 => ?_) (fun h5 => (by first | exact absurd (hr) h5 | exact absurd h5 (hr)))
      refine px_iload_2 dX8_ofRoad_10 ?_
      refine px_tableIn (off := 49) (tgt := 60) dX8_ofRoad_11 (by decide) (by decide) rfl (by decide) ?_
      refine px_aload_0 dX8_ofRoad_60 ?_
      refine gf_X8_7 rfl dX8_ofRoad_61 (by first | assumption | exact mo_a hm | exact mo_r0 hm | exact mo_r1 hm | exact mo_r2 hm | exact mo_r4 hm | exact mo_r6 hm | exact mo_r8 hm | exact mo_a1 hm | exact mo_a2 hm | exact mo_a3 hm | exact mo_a4 hm | exact mo_a5 hm | exact mo_a6 hm) (by first | assumption | exact mo_a hm | exact mo_r0 hm | exact mo_r1 hm | exact mo_r2 hm | exact mo_r4 hm | exact mo_r6 hm | exact mo_r8 hm | exact mo_a1 hm | exact mo_a2 hm | exact mo_a3 hm | exact mo_a4 hm | exact mo_a5 hm | exact mo_a6 hm) ?_
      refine px_iload_1 dX8_ofRoad_64 ?_
      refine px_iload_2 dX8_ofRoad_65 ?_
      refine cd_X8_40 rfl ⟨⟨Nat.le_of_ble_eq_true rfl, Nat.le_of_ble_eq_true rfl⟩, Nat.le_of_ble_eq_true rfl, Nat.le_of_ble_eq_true rfl, Nat.le_of_ble_eq_true rfl⟩ dX8_ofRoad_66 (s_X8_ofOneRoad (j := 1) ha) ?_
      refine px_ialdN dX8_ofRoad_69 (by first | assumption | exact mo_a hm | exact mo_r0 hm | exact mo_r1 hm | exact mo_r2 hm | exact mo_r4 hm | exact mo_r6 hm | exact mo_r8 hm | exact mo_a1 hm | exact mo_a2 hm | exact mo_a3 hm | exact mo_a4 hm | exact mo_a5 hm | exact mo_a6 hm) (by first | rfl | exact ix_eq (by assumption)) (by first | decide | omega) ?_
      refine px_iret dX8_ofRoad_70 ?_
      exact ⟨rfl, rfl⟩
    by_cases w2 : b = 2
    · subst w2
      have hf : f_or (I (m + 1)) a 2 = I (m + 1) (9 + 6 * ix a + 2) := by rw [f_or, if_neg (fun q => q hr), if_neg (by decide), if_neg (by decide), if_pos rfl]
      rw [hf]
      refine px_aload_0 dX8_ofRoad_0 ?_
      refine px_iload_1 dX8_ofRoad_1 ?_
      refine cd_X8_118 rfl ⟨⟨Nat.le_of_ble_eq_true rfl, Nat.le_of_ble_eq_true rfl⟩, Nat.le_of_ble_eq_true rfl, Nat.le_of_ble_eq_true rfl, Nat.le_of_ble_eq_true rfl⟩ (by first | assumption | exact mo_a hm | exact mo_r0 hm | exact mo_r1 hm | exact mo_r2 hm | exact mo_r4 hm | exact mo_r6 hm | exact mo_r8 hm | exact mo_a1 hm | exact mo_a2 hm | exact mo_a3 hm | exact mo_a4 hm | exact mo_a5 hm | exact mo_a6 hm) dX8_ofRoad_2 (s_X8_isRoad hm) ?_
      refine px_ifb_ne (tgt := 10) dX8_ofRoad_5 (by decide) (fun h5 => ?_) (fun h5 => (by first | exact absurd (hr) h5 | exact absurd h5 (hr)))
      refine px_iload_2 dX8_ofRoad_10 ?_
      refine px_tableIn (off := 49) (tgt := 60) dX8_ofRoad_11 (by decide) (by decide) rfl (by decide) ?_
      refine px_aload_0 dX8_ofRoad_60 ?_
      refine gf_X8_7 rfl dX8_ofRoad_61 (by first | assumption | exact mo_a hm | exact mo_r0 hm | exact mo_r1 hm | exact mo_r2 hm | exact mo_r4 hm | exact mo_r6 hm | exact mo_r8 hm | exact mo_a1 hm | exact mo_a2 hm | exact mo_a3 hm | exact mo_a4 hm | exact mo_a5 hm | exact mo_a6 hm) (by first | assumption | exact mo_a hm | exact mo_r0 hm | exact mo_r1 hm | exact mo_r2 hm | exact mo_r4 hm | exact mo_r6 hm | exact mo_r8 hm | exact mo_a1 hm | exact mo_a2 hm | exact mo_a3 hm | exact mo_a4 hm | exact mo_a5 hm | exact mo_a6 hm) ?_
      refine px_iload_1 dX8_ofRoad_64 ?_
      refine px_iload_2 dX8_ofRoad_65 ?_
      refine cd_X8_40 rfl ⟨⟨Nat.le_of_ble_eq_true rfl, Nat.le_of_ble_eq_true rfl⟩, Nat.le_of_ble_eq_true rfl, Nat.le_of_ble_eq_true rfl, Nat.le_of_ble_eq_true rfl⟩ dX8_ofRoad_66 (s_X8_ofOneRoad (j := 2) ha) ?_
      refine px_ialdN dX8_ofRoad_69 (by first | assumption | exact mo_a hm | exact mo_r0 hm | exact mo_r1 hm | exact mo_r2 hm | exact mo_r4 hm | exact mo_r6 hm | exact mo_r8 hm | exact mo_a1 hm | exact mo_a2 hm | exact mo_a3 hm | exact mo_a4 hm | exact mo_a5 hm | exact mo_a6 hm) (by first | rfl | exact ix_eq (by assumption)) (by first | decide | omega) ?_
      refine px_iret dX8_ofRoad_70 ?_
      exact ⟨rfl, rfl⟩
    by_cases w3 : b = 3
    · subst w3
      have hf : f_or (I (m + 1)) a 3 = I (m + 1) (9 + 6 * ix a + 3) := by rw [f_or, if_neg (fun q => q hr), if_neg (by decide), if_neg (by decide), if_neg (by decide), if_pos rfl]
      rw [hf]
      refine px_aload_0 dX8_ofRoad_0 ?_
      refine px_iload_1 dX8_ofRoad_1 ?_
      refine cd_X8_118 rfl ⟨⟨Nat.le_of_ble_eq_true rfl, Nat.le_of_ble_eq_true rfl⟩, Nat.le_of_ble_eq_true rfl, Nat.le_of_ble_eq_true rfl, Nat.le_of_ble_eq_true rfl⟩ (by first | assumption | exact mo_a hm | exact mo_r0 hm | exact mo_r1 hm | exact mo_r2 hm | exact mo_r4 hm | exact mo_r6 hm | exact mo_r8 hm | exact mo_a1 hm | exact mo_a2 hm | exact mo_a3 hm | exact mo_a4 hm | exact mo_a5 hm | exact mo_a6 hm) dX8_ofRoad_2 (s_X8_isRoad hm) ?_
      refine px_ifb_ne (tgt := 10) dX8_ofRoad_5 (by decide) (fun h5 => ?_) (fun h5 => (by first | exact absurd (hr) h5 | exact absurd h5 (hr)))
      refine px_iload_2 dX8_ofRoad_10 ?_
      refine px_tableIn (off := 49) (tgt := 60) dX8_ofRoad_11 (by decide) (by decide) rfl (by decide) ?_
      refine px_aload_0 dX8_ofRoad_60 ?_
      refine gf_X8_7 rfl dX8_ofRoad_61 (by first | assumption | exact mo_a hm | exact mo_r0 hm | exact mo_r1 hm | exact mo_r2 hm | exact mo_r4 hm | exact mo_r6 hm | exact mo_r8 hm | exact mo_a1 hm | exact mo_a2 hm | exact mo_a3 hm | exact mo_a4 hm | exact mo_a5 hm | exact mo_a6 hm) (by first | assumption | exact mo_a hm | exact mo_r0 hm | exact mo_r1 hm | exact mo_r2 hm | exact mo_r4 hm | exact mo_r6 hm | exact mo_r8 hm | exact mo_a1 hm | exact mo_a2 hm | exact mo_a3 hm | exact mo_a4 hm | exact mo_a5 hm | exact mo_a6 hm) ?_
      refine px_iload_1 dX8_ofRoad_64 ?_
      refine px_iload_2 dX8_ofRoad_65 ?_
      refine cd_X8_40 rfl ⟨⟨Nat.le_of_ble_eq_true rfl, Nat.le_of_ble_eq_true rfl⟩, Nat.le_of_ble_eq_true rfl, Nat.le_of_ble_eq_true rfl, Nat.le_of_ble_eq_true rfl⟩ dX8_ofRoad_66 (s_X8_ofOneRoad (j := 3) ha) ?_
      refine px_ialdN dX8_ofRoad_69 (by first | assumption | exact mo_a hm | exact mo_r0 hm | exact mo_r1 hm | exact mo_r2 hm | exact mo_r4 hm | exact mo_r6 hm | exact mo_r8 hm | exact mo_a1 hm | exact mo_a2 hm | exact mo_a3 hm | exact mo_a4 hm | exact mo_a5 hm | exact mo_a6 hm) (by first | rfl | exact ix_eq (by assumption)) (by first | decide | omega) ?_
      refine px_iret dX8_ofRoad_70 ?_
      exact ⟨rfl, rfl⟩
    by_cases w4 : b = 4
    · subst w4
      have hf : f_or (I (m + 1)) a 4 = f_cr (I (m + 1)) (ix a) := by rw [f_or, if_neg (fun q => q hr), if_neg (by decide), if_neg (by decide), if_neg (by decide), if_neg (by decide), if_pos rfl]
      rw [hf]
      refine px_aload_0 dX8_ofRoad_0 ?_
      refine px_iload_1 dX8_ofRoad_1 ?_
      refine cd_X8_118 rfl ⟨⟨Nat.le_of_ble_eq_true rfl, Nat.le_of_ble_eq_true rfl⟩, Nat.le_of_ble_eq_true rfl, Nat.le_of_ble_eq_true rfl, Nat.le_of_ble_eq_true rfl⟩ (by first | assumption | exact mo_a hm | exact mo_r0 hm | exact mo_r1 hm | exact mo_r2 hm | exact mo_r4 hm | exact mo_r6 hm | exact mo_r8 hm | exact mo_a1 hm | exact mo_a2 hm | exact mo_a3 hm | exact mo_a4 hm | exact mo_a5 hm | exact mo_a6 hm) dX8_ofRoad_2 (s_X8_isRoad hm) ?_
      refine px_ifb_ne (tgt := 10) dX8_ofRoad_5 (by decide) (fun h5 => ?_) (fun h5 => (by first | exact absurd (hr) h5 | exact absurd h5 (hr)))
      refine px_iload_2 dX8_ofRoad_10 ?_
      refine px_tableIn (off := 60) (tgt := 71) dX8_ofRoad_11 (by decide) (by decide) rfl (by decide) ?_
      refine px_aload_0 dX8_ofRoad_71 ?_
      refine px_iload_1 dX8_ofRoad_72 ?_
      refine cd_X8_51 rfl ⟨⟨Nat.le_of_ble_eq_true rfl, Nat.le_of_ble_eq_true rfl⟩, Nat.le_of_ble_eq_true rfl, Nat.le_of_ble_eq_true rfl, Nat.le_of_ble_eq_true rfl⟩ (by first | assumption | exact mo_a hm | exact mo_r0 hm | exact mo_r1 hm | exact mo_r2 hm | exact mo_r4 hm | exact mo_r6 hm | exact mo_r8 hm | exact mo_a1 hm | exact mo_a2 hm | exact mo_a3 hm | exact mo_a4 hm | exact mo_a5 hm | exact mo_a6 hm) dX8_ofRoad_73 (s_X8_chanceOf hm ha (by omega)) ?_
      refine px_iret dX8_ofRoad_76 ?_
      exact ⟨rfl, rfl⟩
    by_cases w5 : b = 5
    · subst w5
      have hf : f_or (I (m + 1)) a 5 = f_hb (I (m + 1)) (ix a) 0 := by rw [f_or, if_neg (fun q => q hr), if_neg (by decide), if_neg (by decide), if_neg (by decide), if_neg (by decide), if_neg (by decide), if_pos rfl]
      rw [hf]
      refine px_aload_0 dX8_ofRoad_0 ?_
      refine px_iload_1 dX8_ofRoad_1 ?_
      refine cd_X8_118 rfl ⟨⟨Nat.le_of_ble_eq_true rfl, Nat.le_of_ble_eq_true rfl⟩, Nat.le_of_ble_eq_true rfl, Nat.le_of_ble_eq_true rfl, Nat.le_of_ble_eq_true rfl⟩ (by first | assumption | exact mo_a hm | exact mo_r0 hm | exact mo_r1 hm | exact mo_r2 hm | exact mo_r4 hm | exact mo_r6 hm | exact mo_r8 hm | exact mo_a1 hm | exact mo_a2 hm | exact mo_a3 hm | exact mo_a4 hm | exact mo_a5 hm | exact mo_a6 hm) dX8_ofRoad_2 (s_X8_isRoad hm) ?_
      refine px_ifb_ne (tgt := 10) dX8_ofRoad_5 (by decide) (fun h5 => ?_) (fun h5 => (by first | exact absurd (hr) h5 | exact absurd h5 (hr)))
      refine px_iload_2 dX8_ofRoad_10 ?_
      refine px_tableIn (off := 66) (tgt := 77) dX8_ofRoad_11 (by decide) (by decide) rfl (by decide) ?_
      letI := Classical.propDecidable (f_hon (I (m + 1)) (ix a) 0)
      have hi := s_X8_isHonest (l := l) (I := I) (J := J) (u := 5 - 5) (k := 0) hm hV ha hl rfl (by decide)
      refine px_aload_0 dX8_ofRoad_77 ?_
      refine px_iload_1 dX8_ofRoad_78 ?_
      refine px_iload_2 dX8_ofRoad_79 ?_
      refine px_iconst (5) dX8_ofRoad_80 rfl ?_
      refine px_isub dX8_ofRoad_81 ?_
      refine cd_X8_60 rfl ⟨⟨Nat.le_of_ble_eq_true rfl, Nat.le_of_ble_eq_true rfl⟩, Nat.le_of_ble_eq_true rfl, Nat.le_of_ble_eq_true rfl, Nat.le_of_ble_eq_true rfl⟩ (by first | assumption | exact mo_a hm | exact mo_r0 hm | exact mo_r1 hm | exact mo_r2 hm | exact mo_r4 hm | exact mo_r6 hm | exact mo_r8 hm | exact mo_a1 hm | exact mo_a2 hm | exact mo_a3 hm | exact mo_a4 hm | exact mo_a5 hm | exact mo_a6 hm) dX8_ofRoad_82 (hi) ?_
      refine px_ifb_eq (tgt := 92) dX8_ofRoad_85 (by decide) (fun h85 => ?_) (fun h85 => ?_)
      · skip
        refine px_iconst (0) dX8_ofRoad_92 rfl ?_
        refine px_iret dX8_ofRoad_93 ?_
        first | exact ⟨by rw [f_hb0 h85], rfl⟩ | exact ⟨by rw [f_hb1 h85], rfl⟩
      · skip
        refine px_iconst (1) dX8_ofRoad_88 rfl ?_
        refine px_goto (tgt := 93) dX8_ofRoad_89 (by decide) ?_
        refine px_iret dX8_ofRoad_93 ?_
        first | exact ⟨by rw [f_hb0 h85], rfl⟩ | exact ⟨by rw [f_hb1 h85], rfl⟩
    by_cases w6 : b = 6
    · subst w6
      have hf : f_or (I (m + 1)) a 6 = f_hb (I (m + 1)) (ix a) 1 := by rw [f_or, if_neg (fun q => q hr), if_neg (by decide), if_neg (by decide), if_neg (by decide), if_neg (by decide), if_neg (by decide), if_neg (by decide), if_pos rfl]
      rw [hf]
      refine px_aload_0 dX8_ofRoad_0 ?_
      refine px_iload_1 dX8_ofRoad_1 ?_
      refine cd_X8_118 rfl ⟨⟨Nat.le_of_ble_eq_true rfl, Nat.le_of_ble_eq_true rfl⟩, Nat.le_of_ble_eq_true rfl, Nat.le_of_ble_eq_true rfl, Nat.le_of_ble_eq_true rfl⟩ (by first | assumption | exact mo_a hm | exact mo_r0 hm | exact mo_r1 hm | exact mo_r2 hm | exact mo_r4 hm | exact mo_r6 hm | exact mo_r8 hm | exact mo_a1 hm | exact mo_a2 hm | exact mo_a3 hm | exact mo_a4 hm | exact mo_a5 hm | exact mo_a6 hm) dX8_ofRoad_2 (s_X8_isRoad hm) ?_
      refine px_ifb_ne (tgt := 10) dX8_ofRoad_5 (by decide) (fun h5 => ?_) (fun h5 => (by first | exact absurd (hr) h5 | exact absurd h5 (hr)))
      refine px_iload_2 dX8_ofRoad_10 ?_
      refine px_tableIn (off := 66) (tgt := 77) dX8_ofRoad_11 (by decide) (by decide) rfl (by decide) ?_
      letI := Classical.propDecidable (f_hon (I (m + 1)) (ix a) 1)
      have hi := s_X8_isHonest (l := l) (I := I) (J := J) (u := 6 - 5) (k := 1) hm hV ha hl rfl (by decide)
      refine px_aload_0 dX8_ofRoad_77 ?_
      refine px_iload_1 dX8_ofRoad_78 ?_
      refine px_iload_2 dX8_ofRoad_79 ?_
      refine px_iconst (5) dX8_ofRoad_80 rfl ?_
      refine px_isub dX8_ofRoad_81 ?_
      refine cd_X8_60 rfl ⟨⟨Nat.le_of_ble_eq_true rfl, Nat.le_of_ble_eq_true rfl⟩, Nat.le_of_ble_eq_true rfl, Nat.le_of_ble_eq_true rfl, Nat.le_of_ble_eq_true rfl⟩ (by first | assumption | exact mo_a hm | exact mo_r0 hm | exact mo_r1 hm | exact mo_r2 hm | exact mo_r4 hm | exact mo_r6 hm | exact mo_r8 hm | exact mo_a1 hm | exact mo_a2 hm | exact mo_a3 hm | exact mo_a4 hm | exact mo_a5 hm | exact mo_a6 hm) dX8_ofRoad_82 (hi) ?_
      refine px_ifb_eq (tgt := 92) dX8_ofRoad_85 (by decide) (fun h85 => ?_) (fun h85 => ?_)
      · skip
        refine px_iconst (0) dX8_ofRoad_92 rfl ?_
        refine px_iret dX8_ofRoad_93 ?_
        first | exact ⟨by rw [f_hb0 h85], rfl⟩ | exact ⟨by rw [f_hb1 h85], rfl⟩
      · skip
        refine px_iconst (1) dX8_ofRoad_88 rfl ?_
        refine px_goto (tgt := 93) dX8_ofRoad_89 (by decide) ?_
        refine px_iret dX8_ofRoad_93 ?_
        first | exact ⟨by rw [f_hb0 h85], rfl⟩ | exact ⟨by rw [f_hb1 h85], rfl⟩
    by_cases w7 : b = 7
    · subst w7
      have hf : f_or (I (m + 1)) a 7 = I (m + 1) (9 + 6 * ix a + 4) := by rw [f_or, if_neg (fun q => q hr), if_neg (by decide), if_neg (by decide), if_neg (by decide), if_neg (by decide), if_neg (by decide), if_neg (by decide), if_neg (by decide), if_pos rfl]
      rw [hf]
      refine px_aload_0 dX8_ofRoad_0 ?_
      refine px_iload_1 dX8_ofRoad_1 ?_
      refine cd_X8_118 rfl ⟨⟨Nat.le_of_ble_eq_true rfl, Nat.le_of_ble_eq_true rfl⟩, Nat.le_of_ble_eq_true rfl, Nat.le_of_ble_eq_true rfl, Nat.le_of_ble_eq_true rfl⟩ (by first | assumption | exact mo_a hm | exact mo_r0 hm | exact mo_r1 hm | exact mo_r2 hm | exact mo_r4 hm | exact mo_r6 hm | exact mo_r8 hm | exact mo_a1 hm | exact mo_a2 hm | exact mo_a3 hm | exact mo_a4 hm | exact mo_a5 hm | exact mo_a6 hm) dX8_ofRoad_2 (s_X8_isRoad hm) ?_
      refine px_ifb_ne (tgt := 10) dX8_ofRoad_5 (by decide) (fun h5 => ?_) (fun h5 => (by first | exact absurd (hr) h5 | exact absurd h5 (hr)))
      refine px_iload_2 dX8_ofRoad_10 ?_
      refine px_tableIn (off := 83) (tgt := 94) dX8_ofRoad_11 (by decide) (by decide) rfl (by decide) ?_
      refine px_aload_0 dX8_ofRoad_94 ?_
      refine gf_X8_7 rfl dX8_ofRoad_95 (by first | assumption | exact mo_a hm | exact mo_r0 hm | exact mo_r1 hm | exact mo_r2 hm | exact mo_r4 hm | exact mo_r6 hm | exact mo_r8 hm | exact mo_a1 hm | exact mo_a2 hm | exact mo_a3 hm | exact mo_a4 hm | exact mo_a5 hm | exact mo_a6 hm) (by first | assumption | exact mo_a hm | exact mo_r0 hm | exact mo_r1 hm | exact mo_r2 hm | exact mo_r4 hm | exact mo_r6 hm | exact mo_r8 hm | exact mo_a1 hm | exact mo_a2 hm | exact mo_a3 hm | exact mo_a4 hm | exact mo_a5 hm | exact mo_a6 hm) ?_
      refine px_iload_1 dX8_ofRoad_98 ?_
      refine px_iconst (4) dX8_ofRoad_99 rfl ?_
      refine px_iload_2 dX8_ofRoad_100 ?_
      refine px_iadd dX8_ofRoad_101 ?_
      refine px_bipush (7) dX8_ofRoad_102 rfl ?_
      refine px_isub dX8_ofRoad_104 ?_
      rw [show (4 : Int32) + 7 - 7 = nI 4 from rfl]
      refine cd_X8_40 rfl ⟨⟨Nat.le_of_ble_eq_true rfl, Nat.le_of_ble_eq_true rfl⟩, Nat.le_of_ble_eq_true rfl, Nat.le_of_ble_eq_true rfl, Nat.le_of_ble_eq_true rfl⟩ dX8_ofRoad_105 (s_X8_ofOneRoad (j := 4) ha) ?_
      refine px_ialdN dX8_ofRoad_108 (by first | assumption | exact mo_a hm | exact mo_r0 hm | exact mo_r1 hm | exact mo_r2 hm | exact mo_r4 hm | exact mo_r6 hm | exact mo_r8 hm | exact mo_a1 hm | exact mo_a2 hm | exact mo_a3 hm | exact mo_a4 hm | exact mo_a5 hm | exact mo_a6 hm) (by first | rfl | exact ix_eq (by assumption)) (by first | decide | omega) ?_
      refine px_iret dX8_ofRoad_109 ?_
      exact ⟨rfl, rfl⟩
    by_cases w8 : b = 8
    · subst w8
      have hf : f_or (I (m + 1)) a 8 = I (m + 1) (9 + 6 * ix a + 5) := by rw [f_or, if_neg (fun q => q hr), if_neg (by decide), if_neg (by decide), if_neg (by decide), if_neg (by decide), if_neg (by decide), if_neg (by decide), if_neg (by decide), if_neg (by decide), if_pos rfl]
      rw [hf]
      refine px_aload_0 dX8_ofRoad_0 ?_
      refine px_iload_1 dX8_ofRoad_1 ?_
      refine cd_X8_118 rfl ⟨⟨Nat.le_of_ble_eq_true rfl, Nat.le_of_ble_eq_true rfl⟩, Nat.le_of_ble_eq_true rfl, Nat.le_of_ble_eq_true rfl, Nat.le_of_ble_eq_true rfl⟩ (by first | assumption | exact mo_a hm | exact mo_r0 hm | exact mo_r1 hm | exact mo_r2 hm | exact mo_r4 hm | exact mo_r6 hm | exact mo_r8 hm | exact mo_a1 hm | exact mo_a2 hm | exact mo_a3 hm | exact mo_a4 hm | exact mo_a5 hm | exact mo_a6 hm) dX8_ofRoad_2 (s_X8_isRoad hm) ?_
      refine px_ifb_ne (tgt := 10) dX8_ofRoad_5 (by decide) (fun h5 => ?_) (fun h5 => (by first | exact absurd (hr) h5 | exact absurd h5 (hr)))
      refine px_iload_2 dX8_ofRoad_10 ?_
      refine px_tableIn (off := 83) (tgt := 94) dX8_ofRoad_11 (by decide) (by decide) rfl (by decide) ?_
      refine px_aload_0 dX8_ofRoad_94 ?_
      refine gf_X8_7 rfl dX8_ofRoad_95 (by first | assumption | exact mo_a hm | exact mo_r0 hm | exact mo_r1 hm | exact mo_r2 hm | exact mo_r4 hm | exact mo_r6 hm | exact mo_r8 hm | exact mo_a1 hm | exact mo_a2 hm | exact mo_a3 hm | exact mo_a4 hm | exact mo_a5 hm | exact mo_a6 hm) (by first | assumption | exact mo_a hm | exact mo_r0 hm | exact mo_r1 hm | exact mo_r2 hm | exact mo_r4 hm | exact mo_r6 hm | exact mo_r8 hm | exact mo_a1 hm | exact mo_a2 hm | exact mo_a3 hm | exact mo_a4 hm | exact mo_a5 hm | exact mo_a6 hm) ?_
      refine px_iload_1 dX8_ofRoad_98 ?_
      refine px_iconst (4) dX8_ofRoad_99 rfl ?_
      refine px_iload_2 dX8_ofRoad_100 ?_
      refine px_iadd dX8_ofRoad_101 ?_
      refine px_bipush (7) dX8_ofRoad_102 rfl ?_
      refine px_isub dX8_ofRoad_104 ?_
      rw [show (4 : Int32) + 8 - 7 = nI 5 from rfl]
      refine cd_X8_40 rfl ⟨⟨Nat.le_of_ble_eq_true rfl, Nat.le_of_ble_eq_true rfl⟩, Nat.le_of_ble_eq_true rfl, Nat.le_of_ble_eq_true rfl, Nat.le_of_ble_eq_true rfl⟩ dX8_ofRoad_105 (s_X8_ofOneRoad (j := 5) ha) ?_
      refine px_ialdN dX8_ofRoad_108 (by first | assumption | exact mo_a hm | exact mo_r0 hm | exact mo_r1 hm | exact mo_r2 hm | exact mo_r4 hm | exact mo_r6 hm | exact mo_r8 hm | exact mo_a1 hm | exact mo_a2 hm | exact mo_a3 hm | exact mo_a4 hm | exact mo_a5 hm | exact mo_a6 hm) (by first | rfl | exact ix_eq (by assumption)) (by first | decide | omega) ?_
      refine px_iret dX8_ofRoad_109 ?_
      exact ⟨rfl, rfl⟩
    have hf : f_or (I (m + 1)) a b = -2 := by rw [f_or, if_neg (fun q => q hr), if_neg w0, if_neg w1, if_neg w2, if_neg w3, if_neg w4, if_neg w5, if_neg w6, if_neg w7, if_neg w8]
    rw [hf]
    have ho := tb_out (x := b) (n := 9) (fun k hk => by rcases (by omega : k = 0 ∨ k = 1 ∨ k = 2 ∨ k = 3 ∨ k = 4 ∨ k = 5 ∨ k = 6 ∨ k = 7 ∨ k = 8) with rfl | rfl | rfl | rfl | rfl | rfl | rfl | rfl | rfl <;> assumption) (by decide)
    refine px_aload_0 dX8_ofRoad_0 ?_
    refine px_iload_1 dX8_ofRoad_1 ?_
    refine cd_X8_118 rfl ⟨⟨Nat.le_of_ble_eq_true rfl, Nat.le_of_ble_eq_true rfl⟩, Nat.le_of_ble_eq_true rfl, Nat.le_of_ble_eq_true rfl, Nat.le_of_ble_eq_true rfl⟩ (by first | assumption | exact mo_a hm | exact mo_r0 hm | exact mo_r1 hm | exact mo_r2 hm | exact mo_r4 hm | exact mo_r6 hm | exact mo_r8 hm | exact mo_a1 hm | exact mo_a2 hm | exact mo_a3 hm | exact mo_a4 hm | exact mo_a5 hm | exact mo_a6 hm) dX8_ofRoad_2 (s_X8_isRoad hm) ?_
    refine px_ifb_ne (tgt := 10) dX8_ofRoad_5 (by decide) (fun h5 => ?_) (fun h5 => (by first | exact absurd (hr) h5 | exact absurd h5 (hr)))
    refine px_iload_2 dX8_ofRoad_10 ?_
    refine px_tableOut (tgt := 110) dX8_ofRoad_11 (by omega) (by decide) ?_
    refine px_bipush (-2) dX8_ofRoad_110 rfl ?_
    refine px_iret dX8_ofRoad_112 ?_
    exact ⟨rfl, rfl⟩
  · have hf : f_or (I (m + 1)) a b = -1 := by rw [f_or, if_pos hr]
    rw [hf]
    refine px_aload_0 dX8_ofRoad_0 ?_
    refine px_iload_1 dX8_ofRoad_1 ?_
    refine cd_X8_118 rfl ⟨⟨Nat.le_of_ble_eq_true rfl, Nat.le_of_ble_eq_true rfl⟩, Nat.le_of_ble_eq_true rfl, Nat.le_of_ble_eq_true rfl, Nat.le_of_ble_eq_true rfl⟩ (by first | assumption | exact mo_a hm | exact mo_r0 hm | exact mo_r1 hm | exact mo_r2 hm | exact mo_r4 hm | exact mo_r6 hm | exact mo_r8 hm | exact mo_a1 hm | exact mo_a2 hm | exact mo_a3 hm | exact mo_a4 hm | exact mo_a5 hm | exact mo_a6 hm) dX8_ofRoad_2 (s_X8_isRoad hm) ?_
    refine px_ifb_ne (tgt := 10) dX8_ofRoad_5 (by decide) (fun h5 => (by first | exact absurd h5 (hr) | exact absurd (hr) h5)) (fun h5 => ?_)
    refine px_iconst (-1) dX8_ofRoad_8 rfl ?_
    refine px_iret dX8_ofRoad_9 ?_
    exact ⟨rfl, rfl⟩
/-- all honest, of the first so many roads -/
def f_ah (σ : px_s) : Nat → Int32
  | 0 => 1
  | r + 1 => if f_hb σ r 0 = 1 ∧ f_hb σ r 1 = 1 then f_ah σ r else 0
theorem f_ah1 (n : Nat) (h : ∀ r, r < n → f_hon σ r 0 ∧ f_hon σ r 1) : f_ah σ n = 1 := by
  induction n with
  | zero => rfl
  | succ n ih =>
    obtain ⟨a, b⟩ := h n (Nat.lt_succ_self n)
    rw [f_ah, if_pos ⟨f_hb1 a, f_hb1 b⟩]
    exact ih (fun r hr => h r (by omega))
theorem f_ah0 (n : Nat) {r : Nat} (hr : r < n) (h : ¬ (f_hon σ r 0 ∧ f_hon σ r 1)) : f_ah σ n = 0 := by
  induction n with
  | zero => exact absurd hr (by omega)
  | succ n ih =>
    rw [f_ah]
    split
    · rename_i q
      rcases (by omega : r < n ∨ r = n) with z | rfl
      · exact ih z
      · refine absurd ⟨?_, ?_⟩ h
        · exact Classical.byContradiction (fun y => absurd q.1 (by rw [f_hb0 y]; decide))
        · exact Classical.byContradiction (fun y => absurd q.2 (by rw [f_hb0 y]; decide))
    · rfl
theorem f_ahd {d : Int32} (hV : px_V σ) (h : f_dis σ 0 d) : (if d = -6 then 1 else 0 : Int32) = f_ah σ (f_nr σ) := by
  rcases h with ⟨rfl, g⟩ | ⟨q, hq, rfl, g⟩
  · rw [if_pos rfl, f_ah1]
    intro r hr
    have g0 := g (2 * r) (by omega) (by omega)
    have g1 := g (2 * r + 1) (by omega) (by omega)
    rw [show 2 * r / 2 = r by omega, show 2 * r % 2 = 0 by omega] at g0
    rw [show (2 * r + 1) / 2 = r by omega, show (2 * r + 1) % 2 = 1 by omega] at g1
    exact ⟨g0, g1⟩
  · have h14 := hV.1.2.1
    rw [if_neg (fun z => absurd (show (nI q).toInt = (-6 : Int32).toInt by rw [z]) (by rw [nI_ti (by omega), show (-6 : Int32).toInt = -6 from rfl]; omega)), f_ah0 (r := q / 2) _ (by omega)]
    rintro ⟨y0, y1⟩
    rcases (by omega : q % 2 = 0 ∨ q % 2 = 1) with z | z <;> rw [z] at g
    · exact g y0
    · exact g y1
def f_cnt (A : px_a) (w : Int32) : Int32 := if w = 0 then A.1 8 else if w = 1 then A.1 93 else if w = 2 then f_gs A.1 else if w = 3 then f_cs A.1 2 else if w = 4 then A.1 147 else if w = 5 then A.1 148 else if w = 6 then A.1 149 else if w = 7 then f_ah A.1 (f_nr A.1) else if w = 8 then f_pt A.1 8 else if w = 9 then f_cs A.1 1 else if w = 10 then A.1 150 else if w = 11 then A.1 146 else if w = 12 then A.1 142 else if w = 13 then A.1 143 else if w = 14 then A.1 144 else if w = 15 then A.1 145 else if w = 16 then nI A.2.2.2.1 else if w = 17 then nI A.2.1.1 else -2
theorem s_X8_count {A : px_a} {w : Int32} (hm : px_mo G T R m) (h : px_MI I m A) (hV : px_AV A) : px_C l G 7 0 0 mX8_count [.ref m, .int w] (T, I, J, R) (px_Qj T I J R m (.int (f_cnt A w))) := by
  have hs := h.1
  have hk := h.2.1.1
  have hp := h.2.2.2.2.1
  have hV1 : px_V (I (m + 1)) := by rw [hs]; exact hV.1.1
  refine px_met (M := mX8_count) ([some (.ref m), some (.int w)]) (by decide +kernel) rfl (Nat.le_of_ble_eq_true rfl) rfl ?_
  by_cases w0 : w = 0
  · subst w0
    rw [f_cnt, if_pos rfl]
    refine px_iload_1 dX8_count_0 ?_
    refine px_bipush (12) dX8_count_1 rfl ?_
    refine px_bipush (15) dX8_count_3 rfl ?_
    refine cd_X8_29 rfl ⟨⟨Nat.le_of_ble_eq_true rfl, Nat.le_of_ble_eq_true rfl⟩, Nat.le_of_ble_eq_true rfl, Nat.le_of_ble_eq_true rfl, Nat.le_of_ble_eq_true rfl⟩ dX8_count_5 (s_X8_in) ?_
    refine px_ifb_eq (tgt := 25) dX8_count_8 (by decide) (fun h8 => ?_) (fun h8 => (by first | exact absurd ((show ¬ rg 0 12 15 by decide)) h8 | exact absurd h8 ((show ¬ rg 0 12 15 by decide))))
    refine px_iload_1 dX8_count_25 ?_
    refine px_tableIn (off := 86) (tgt := 112) dX8_count_26 (by decide) (by decide) rfl (by decide) ?_
    refine px_aload_0 dX8_count_112 ?_
    refine gf_X8_7 rfl dX8_count_113 (by first | assumption | exact mo_a hm | exact mo_r0 hm | exact mo_r1 hm | exact mo_r2 hm | exact mo_r4 hm | exact mo_r6 hm | exact mo_r8 hm | exact mo_a1 hm | exact mo_a2 hm | exact mo_a3 hm | exact mo_a4 hm | exact mo_a5 hm | exact mo_a6 hm) (by first | assumption | exact mo_a hm | exact mo_r0 hm | exact mo_r1 hm | exact mo_r2 hm | exact mo_r4 hm | exact mo_r6 hm | exact mo_r8 hm | exact mo_a1 hm | exact mo_a2 hm | exact mo_a3 hm | exact mo_a4 hm | exact mo_a5 hm | exact mo_a6 hm) ?_
    refine px_bipush (8) dX8_count_116 rfl ?_
    refine px_ialdN (j := 8) dX8_count_118 (by first | assumption | exact mo_a hm | exact mo_r0 hm | exact mo_r1 hm | exact mo_r2 hm | exact mo_r4 hm | exact mo_r6 hm | exact mo_r8 hm | exact mo_a1 hm | exact mo_a2 hm | exact mo_a3 hm | exact mo_a4 hm | exact mo_a5 hm | exact mo_a6 hm) (by first | rfl | exact ix_eq (by assumption)) (by first | decide | omega) ?_
    rw [hs]
    refine px_iret dX8_count_119 ?_
    exact ⟨rfl, J, rfl, fun _ _ => rfl⟩
  by_cases w1 : w = 1
  · subst w1
    rw [f_cnt, if_neg (by decide), if_pos rfl]
    refine px_iload_1 dX8_count_0 ?_
    refine px_bipush (12) dX8_count_1 rfl ?_
    refine px_bipush (15) dX8_count_3 rfl ?_
    refine cd_X8_29 rfl ⟨⟨Nat.le_of_ble_eq_true rfl, Nat.le_of_ble_eq_true rfl⟩, Nat.le_of_ble_eq_true rfl, Nat.le_of_ble_eq_true rfl, Nat.le_of_ble_eq_true rfl⟩ dX8_count_5 (s_X8_in) ?_
    refine px_ifb_eq (tgt := 25) dX8_count_8 (by decide) (fun h8 => ?_) (fun h8 => (by first | exact absurd ((show ¬ rg 1 12 15 by decide)) h8 | exact absurd h8 ((show ¬ rg 1 12 15 by decide))))
    refine px_iload_1 dX8_count_25 ?_
    refine px_tableIn (off := 94) (tgt := 120) dX8_count_26 (by decide) (by decide) rfl (by decide) ?_
    refine px_aload_0 dX8_count_120 ?_
    refine gf_X8_7 rfl dX8_count_121 (by first | assumption | exact mo_a hm | exact mo_r0 hm | exact mo_r1 hm | exact mo_r2 hm | exact mo_r4 hm | exact mo_r6 hm | exact mo_r8 hm | exact mo_a1 hm | exact mo_a2 hm | exact mo_a3 hm | exact mo_a4 hm | exact mo_a5 hm | exact mo_a6 hm) (by first | assumption | exact mo_a hm | exact mo_r0 hm | exact mo_r1 hm | exact mo_r2 hm | exact mo_r4 hm | exact mo_r6 hm | exact mo_r8 hm | exact mo_a1 hm | exact mo_a2 hm | exact mo_a3 hm | exact mo_a4 hm | exact mo_a5 hm | exact mo_a6 hm) ?_
    refine px_bipush (93) dX8_count_124 rfl ?_
    refine px_ialdN (j := 93) dX8_count_126 (by first | assumption | exact mo_a hm | exact mo_r0 hm | exact mo_r1 hm | exact mo_r2 hm | exact mo_r4 hm | exact mo_r6 hm | exact mo_r8 hm | exact mo_a1 hm | exact mo_a2 hm | exact mo_a3 hm | exact mo_a4 hm | exact mo_a5 hm | exact mo_a6 hm) (by first | rfl | exact ix_eq (by assumption)) (by first | decide | omega) ?_
    rw [hs]
    refine px_iret dX8_count_127 ?_
    exact ⟨rfl, J, rfl, fun _ _ => rfl⟩
  by_cases w2 : w = 2
  · subst w2
    rw [f_cnt, if_neg (by decide), if_neg (by decide), if_pos rfl]
    refine px_iload_1 dX8_count_0 ?_
    refine px_bipush (12) dX8_count_1 rfl ?_
    refine px_bipush (15) dX8_count_3 rfl ?_
    refine cd_X8_29 rfl ⟨⟨Nat.le_of_ble_eq_true rfl, Nat.le_of_ble_eq_true rfl⟩, Nat.le_of_ble_eq_true rfl, Nat.le_of_ble_eq_true rfl, Nat.le_of_ble_eq_true rfl⟩ dX8_count_5 (s_X8_in) ?_
    refine px_ifb_eq (tgt := 25) dX8_count_8 (by decide) (fun h8 => ?_) (fun h8 => (by first | exact absurd ((show ¬ rg 2 12 15 by decide)) h8 | exact absurd h8 ((show ¬ rg 2 12 15 by decide))))
    refine px_iload_1 dX8_count_25 ?_
    refine px_tableIn (off := 102) (tgt := 128) dX8_count_26 (by decide) (by decide) rfl (by decide) ?_
    refine px_aload_0 dX8_count_128 ?_
    refine cd_X8_99 rfl ⟨⟨Nat.le_of_ble_eq_true rfl, Nat.le_of_ble_eq_true rfl⟩, Nat.le_of_ble_eq_true rfl, Nat.le_of_ble_eq_true rfl, Nat.le_of_ble_eq_true rfl⟩ (by first | assumption | exact mo_a hm | exact mo_r0 hm | exact mo_r1 hm | exact mo_r2 hm | exact mo_r4 hm | exact mo_r6 hm | exact mo_r8 hm | exact mo_a1 hm | exact mo_a2 hm | exact mo_a3 hm | exact mo_a4 hm | exact mo_a5 hm | exact mo_a6 hm) dX8_count_129 (s_X8_guards hm hV1) ?_
    refine px_iret dX8_count_132 ?_
    rw [hs]; exact ⟨rfl, J, rfl, fun _ _ => rfl⟩
  by_cases w3 : w = 3
  · subst w3
    rw [f_cnt, if_neg (by decide), if_neg (by decide), if_neg (by decide), if_pos rfl]
    refine px_iload_1 dX8_count_0 ?_
    refine px_bipush (12) dX8_count_1 rfl ?_
    refine px_bipush (15) dX8_count_3 rfl ?_
    refine cd_X8_29 rfl ⟨⟨Nat.le_of_ble_eq_true rfl, Nat.le_of_ble_eq_true rfl⟩, Nat.le_of_ble_eq_true rfl, Nat.le_of_ble_eq_true rfl, Nat.le_of_ble_eq_true rfl⟩ dX8_count_5 (s_X8_in) ?_
    refine px_ifb_eq (tgt := 25) dX8_count_8 (by decide) (fun h8 => ?_) (fun h8 => (by first | exact absurd ((show ¬ rg 3 12 15 by decide)) h8 | exact absurd h8 ((show ¬ rg 3 12 15 by decide))))
    refine px_iload_1 dX8_count_25 ?_
    refine px_tableIn (off := 107) (tgt := 133) dX8_count_26 (by decide) (by decide) rfl (by decide) ?_
    refine px_aload_0 dX8_count_133 ?_
    refine px_iconst (2) dX8_count_134 rfl ?_
    refine cd_X8_170 rfl ⟨⟨Nat.le_of_ble_eq_true rfl, Nat.le_of_ble_eq_true rfl⟩, Nat.le_of_ble_eq_true rfl, Nat.le_of_ble_eq_true rfl, Nat.le_of_ble_eq_true rfl⟩ (by first | assumption | exact mo_a hm | exact mo_r0 hm | exact mo_r1 hm | exact mo_r2 hm | exact mo_r4 hm | exact mo_r6 hm | exact mo_r8 hm | exact mo_a1 hm | exact mo_a2 hm | exact mo_a3 hm | exact mo_a4 hm | exact mo_a5 hm | exact mo_a6 hm) dX8_count_135 (s_X8_ofCarts (j := 2) rfl (by decide) hm hV1) ?_
    refine px_iret dX8_count_138 ?_
    rw [hs]; exact ⟨rfl, J, rfl, fun _ _ => rfl⟩
  by_cases w4 : w = 4
  · subst w4
    rw [f_cnt, if_neg (by decide), if_neg (by decide), if_neg (by decide), if_neg (by decide), if_pos rfl]
    refine px_iload_1 dX8_count_0 ?_
    refine px_bipush (12) dX8_count_1 rfl ?_
    refine px_bipush (15) dX8_count_3 rfl ?_
    refine cd_X8_29 rfl ⟨⟨Nat.le_of_ble_eq_true rfl, Nat.le_of_ble_eq_true rfl⟩, Nat.le_of_ble_eq_true rfl, Nat.le_of_ble_eq_true rfl, Nat.le_of_ble_eq_true rfl⟩ dX8_count_5 (s_X8_in) ?_
    refine px_ifb_eq (tgt := 25) dX8_count_8 (by decide) (fun h8 => ?_) (fun h8 => (by first | exact absurd ((show ¬ rg 4 12 15 by decide)) h8 | exact absurd h8 ((show ¬ rg 4 12 15 by decide))))
    refine px_iload_1 dX8_count_25 ?_
    refine px_tableIn (off := 113) (tgt := 139) dX8_count_26 (by decide) (by decide) rfl (by decide) ?_
    refine px_aload_0 dX8_count_139 ?_
    refine gf_X8_7 rfl dX8_count_140 (by first | assumption | exact mo_a hm | exact mo_r0 hm | exact mo_r1 hm | exact mo_r2 hm | exact mo_r4 hm | exact mo_r6 hm | exact mo_r8 hm | exact mo_a1 hm | exact mo_a2 hm | exact mo_a3 hm | exact mo_a4 hm | exact mo_a5 hm | exact mo_a6 hm) (by first | assumption | exact mo_a hm | exact mo_r0 hm | exact mo_r1 hm | exact mo_r2 hm | exact mo_r4 hm | exact mo_r6 hm | exact mo_r8 hm | exact mo_a1 hm | exact mo_a2 hm | exact mo_a3 hm | exact mo_a4 hm | exact mo_a5 hm | exact mo_a6 hm) ?_
    refine px_sipush (147) dX8_count_143 rfl ?_
    refine px_iload_1 dX8_count_146 ?_
    refine px_iadd dX8_count_147 ?_
    refine px_iconst (4) dX8_count_148 rfl ?_
    refine px_isub dX8_count_149 ?_
    rw [show (147 : Int32) + 4 - 4 = nI 147 from rfl]
    refine px_ialdN dX8_count_150 (by first | assumption | exact mo_a hm | exact mo_r0 hm | exact mo_r1 hm | exact mo_r2 hm | exact mo_r4 hm | exact mo_r6 hm | exact mo_r8 hm | exact mo_a1 hm | exact mo_a2 hm | exact mo_a3 hm | exact mo_a4 hm | exact mo_a5 hm | exact mo_a6 hm) (by first | rfl | exact ix_eq (by assumption)) (by first | decide | omega) ?_
    rw [hs]
    refine px_iret dX8_count_151 ?_
    exact ⟨rfl, J, rfl, fun _ _ => rfl⟩
  by_cases w5 : w = 5
  · subst w5
    rw [f_cnt, if_neg (by decide), if_neg (by decide), if_neg (by decide), if_neg (by decide), if_neg (by decide), if_pos rfl]
    refine px_iload_1 dX8_count_0 ?_
    refine px_bipush (12) dX8_count_1 rfl ?_
    refine px_bipush (15) dX8_count_3 rfl ?_
    refine cd_X8_29 rfl ⟨⟨Nat.le_of_ble_eq_true rfl, Nat.le_of_ble_eq_true rfl⟩, Nat.le_of_ble_eq_true rfl, Nat.le_of_ble_eq_true rfl, Nat.le_of_ble_eq_true rfl⟩ dX8_count_5 (s_X8_in) ?_
    refine px_ifb_eq (tgt := 25) dX8_count_8 (by decide) (fun h8 => ?_) (fun h8 => (by first | exact absurd ((show ¬ rg 5 12 15 by decide)) h8 | exact absurd h8 ((show ¬ rg 5 12 15 by decide))))
    refine px_iload_1 dX8_count_25 ?_
    refine px_tableIn (off := 113) (tgt := 139) dX8_count_26 (by decide) (by decide) rfl (by decide) ?_
    refine px_aload_0 dX8_count_139 ?_
    refine gf_X8_7 rfl dX8_count_140 (by first | assumption | exact mo_a hm | exact mo_r0 hm | exact mo_r1 hm | exact mo_r2 hm | exact mo_r4 hm | exact mo_r6 hm | exact mo_r8 hm | exact mo_a1 hm | exact mo_a2 hm | exact mo_a3 hm | exact mo_a4 hm | exact mo_a5 hm | exact mo_a6 hm) (by first | assumption | exact mo_a hm | exact mo_r0 hm | exact mo_r1 hm | exact mo_r2 hm | exact mo_r4 hm | exact mo_r6 hm | exact mo_r8 hm | exact mo_a1 hm | exact mo_a2 hm | exact mo_a3 hm | exact mo_a4 hm | exact mo_a5 hm | exact mo_a6 hm) ?_
    refine px_sipush (147) dX8_count_143 rfl ?_
    refine px_iload_1 dX8_count_146 ?_
    refine px_iadd dX8_count_147 ?_
    refine px_iconst (4) dX8_count_148 rfl ?_
    refine px_isub dX8_count_149 ?_
    rw [show (147 : Int32) + 5 - 4 = nI 148 from rfl]
    refine px_ialdN dX8_count_150 (by first | assumption | exact mo_a hm | exact mo_r0 hm | exact mo_r1 hm | exact mo_r2 hm | exact mo_r4 hm | exact mo_r6 hm | exact mo_r8 hm | exact mo_a1 hm | exact mo_a2 hm | exact mo_a3 hm | exact mo_a4 hm | exact mo_a5 hm | exact mo_a6 hm) (by first | rfl | exact ix_eq (by assumption)) (by first | decide | omega) ?_
    rw [hs]
    refine px_iret dX8_count_151 ?_
    exact ⟨rfl, J, rfl, fun _ _ => rfl⟩
  by_cases w6 : w = 6
  · subst w6
    rw [f_cnt, if_neg (by decide), if_neg (by decide), if_neg (by decide), if_neg (by decide), if_neg (by decide), if_neg (by decide), if_pos rfl]
    refine px_iload_1 dX8_count_0 ?_
    refine px_bipush (12) dX8_count_1 rfl ?_
    refine px_bipush (15) dX8_count_3 rfl ?_
    refine cd_X8_29 rfl ⟨⟨Nat.le_of_ble_eq_true rfl, Nat.le_of_ble_eq_true rfl⟩, Nat.le_of_ble_eq_true rfl, Nat.le_of_ble_eq_true rfl, Nat.le_of_ble_eq_true rfl⟩ dX8_count_5 (s_X8_in) ?_
    refine px_ifb_eq (tgt := 25) dX8_count_8 (by decide) (fun h8 => ?_) (fun h8 => (by first | exact absurd ((show ¬ rg 6 12 15 by decide)) h8 | exact absurd h8 ((show ¬ rg 6 12 15 by decide))))
    refine px_iload_1 dX8_count_25 ?_
    refine px_tableIn (off := 113) (tgt := 139) dX8_count_26 (by decide) (by decide) rfl (by decide) ?_
    refine px_aload_0 dX8_count_139 ?_
    refine gf_X8_7 rfl dX8_count_140 (by first | assumption | exact mo_a hm | exact mo_r0 hm | exact mo_r1 hm | exact mo_r2 hm | exact mo_r4 hm | exact mo_r6 hm | exact mo_r8 hm | exact mo_a1 hm | exact mo_a2 hm | exact mo_a3 hm | exact mo_a4 hm | exact mo_a5 hm | exact mo_a6 hm) (by first | assumption | exact mo_a hm | exact mo_r0 hm | exact mo_r1 hm | exact mo_r2 hm | exact mo_r4 hm | exact mo_r6 hm | exact mo_r8 hm | exact mo_a1 hm | exact mo_a2 hm | exact mo_a3 hm | exact mo_a4 hm | exact mo_a5 hm | exact mo_a6 hm) ?_
    refine px_sipush (147) dX8_count_143 rfl ?_
    refine px_iload_1 dX8_count_146 ?_
    refine px_iadd dX8_count_147 ?_
    refine px_iconst (4) dX8_count_148 rfl ?_
    refine px_isub dX8_count_149 ?_
    rw [show (147 : Int32) + 6 - 4 = nI 149 from rfl]
    refine px_ialdN dX8_count_150 (by first | assumption | exact mo_a hm | exact mo_r0 hm | exact mo_r1 hm | exact mo_r2 hm | exact mo_r4 hm | exact mo_r6 hm | exact mo_r8 hm | exact mo_a1 hm | exact mo_a2 hm | exact mo_a3 hm | exact mo_a4 hm | exact mo_a5 hm | exact mo_a6 hm) (by first | rfl | exact ix_eq (by assumption)) (by first | decide | omega) ?_
    rw [hs]
    refine px_iret dX8_count_151 ?_
    exact ⟨rfl, J, rfl, fun _ _ => rfl⟩
  by_cases w7 : w = 7
  · subst w7
    rw [f_cnt, if_neg (by decide), if_neg (by decide), if_neg (by decide), if_neg (by decide), if_neg (by decide), if_neg (by decide), if_neg (by decide), if_pos rfl]
    refine px_iload_1 dX8_count_0 ?_
    refine px_bipush (12) dX8_count_1 rfl ?_
    refine px_bipush (15) dX8_count_3 rfl ?_
    refine cd_X8_29 rfl ⟨⟨Nat.le_of_ble_eq_true rfl, Nat.le_of_ble_eq_true rfl⟩, Nat.le_of_ble_eq_true rfl, Nat.le_of_ble_eq_true rfl, Nat.le_of_ble_eq_true rfl⟩ dX8_count_5 (s_X8_in) ?_
    refine px_ifb_eq (tgt := 25) dX8_count_8 (by decide) (fun h8 => ?_) (fun h8 => (by first | exact absurd ((show ¬ rg 7 12 15 by decide)) h8 | exact absurd h8 ((show ¬ rg 7 12 15 by decide))))
    refine px_iload_1 dX8_count_25 ?_
    refine px_tableIn (off := 126) (tgt := 152) dX8_count_26 (by decide) (by decide) rfl (by decide) ?_
    refine px_aload_0 dX8_count_152 ?_
    refine cg_X8_64 rfl ⟨⟨Nat.le_of_ble_eq_true rfl, Nat.le_of_ble_eq_true rfl⟩, Nat.le_of_ble_eq_true rfl, Nat.le_of_ble_eq_true rfl, Nat.le_of_ble_eq_true rfl⟩ (by first | assumption | exact mo_a hm | exact mo_r0 hm | exact mo_r1 hm | exact mo_r2 hm | exact mo_r4 hm | exact mo_r6 hm | exact mo_r8 hm | exact mo_a1 hm | exact mo_a2 hm | exact mo_a3 hm | exact mo_a4 hm | exact mo_a5 hm | exact mo_a6 hm) dX8_count_153 (s_X8_dishonest hm hV1) ?_
    rintro v μ' ⟨rfl, d, rfl, hd⟩; rw [hs] at hd; rw [← f_ahd hV.1.1 hd]
    refine px_bipush (-6) dX8_count_156 rfl ?_
    refine px_icmp_ne (tgt := 165) dX8_count_158 (by decide) (fun h158 => ?_) (fun h158 => ?_)
    · skip
      refine px_iconst (0) dX8_count_165 rfl ?_
      refine px_iret dX8_count_166 ?_
      first | exact ⟨by rw [if_pos h158], J, rfl, fun _ _ => rfl⟩ | exact ⟨by rw [if_neg h158], J, rfl, fun _ _ => rfl⟩
    · skip
      refine px_iconst (1) dX8_count_161 rfl ?_
      refine px_goto (tgt := 166) dX8_count_162 (by decide) ?_
      refine px_iret dX8_count_166 ?_
      first | exact ⟨by rw [if_pos h158], J, rfl, fun _ _ => rfl⟩ | exact ⟨by rw [if_neg h158], J, rfl, fun _ _ => rfl⟩
  by_cases w8 : w = 8
  · subst w8
    rw [f_cnt, if_neg (by decide), if_neg (by decide), if_neg (by decide), if_neg (by decide), if_neg (by decide), if_neg (by decide), if_neg (by decide), if_neg (by decide), if_pos rfl]
    refine px_iload_1 dX8_count_0 ?_
    refine px_bipush (12) dX8_count_1 rfl ?_
    refine px_bipush (15) dX8_count_3 rfl ?_
    refine cd_X8_29 rfl ⟨⟨Nat.le_of_ble_eq_true rfl, Nat.le_of_ble_eq_true rfl⟩, Nat.le_of_ble_eq_true rfl, Nat.le_of_ble_eq_true rfl, Nat.le_of_ble_eq_true rfl⟩ dX8_count_5 (s_X8_in) ?_
    refine px_ifb_eq (tgt := 25) dX8_count_8 (by decide) (fun h8 => ?_) (fun h8 => (by first | exact absurd ((show ¬ rg 8 12 15 by decide)) h8 | exact absurd h8 ((show ¬ rg 8 12 15 by decide))))
    refine px_iload_1 dX8_count_25 ?_
    refine px_tableIn (off := 141) (tgt := 167) dX8_count_26 (by decide) (by decide) rfl (by decide) ?_
    refine px_aload_0 dX8_count_167 ?_
    refine cg_X8_173 rfl ⟨⟨Nat.le_of_ble_eq_true rfl, Nat.le_of_ble_eq_true rfl⟩, Nat.le_of_ble_eq_true rfl, Nat.le_of_ble_eq_true rfl, Nat.le_of_ble_eq_true rfl⟩ (by first | assumption | exact mo_a hm | exact mo_r0 hm | exact mo_r1 hm | exact mo_r2 hm | exact mo_r4 hm | exact mo_r6 hm | exact mo_r8 hm | exact mo_a1 hm | exact mo_a2 hm | exact mo_a3 hm | exact mo_a4 hm | exact mo_a5 hm | exact mo_a6 hm) dX8_count_168 (s_X8_payingTowns hm hV1) ?_
    rintro v μ' ⟨rfl, J2, rfl, g2⟩
    refine px_iret dX8_count_171 ?_
    rw [hs]; exact ⟨rfl, J2, rfl, g2⟩
  by_cases w9 : w = 9
  · subst w9
    rw [f_cnt, if_neg (by decide), if_neg (by decide), if_neg (by decide), if_neg (by decide), if_neg (by decide), if_neg (by decide), if_neg (by decide), if_neg (by decide), if_neg (by decide), if_pos rfl]
    refine px_iload_1 dX8_count_0 ?_
    refine px_bipush (12) dX8_count_1 rfl ?_
    refine px_bipush (15) dX8_count_3 rfl ?_
    refine cd_X8_29 rfl ⟨⟨Nat.le_of_ble_eq_true rfl, Nat.le_of_ble_eq_true rfl⟩, Nat.le_of_ble_eq_true rfl, Nat.le_of_ble_eq_true rfl, Nat.le_of_ble_eq_true rfl⟩ dX8_count_5 (s_X8_in) ?_
    refine px_ifb_eq (tgt := 25) dX8_count_8 (by decide) (fun h8 => ?_) (fun h8 => (by first | exact absurd ((show ¬ rg 9 12 15 by decide)) h8 | exact absurd h8 ((show ¬ rg 9 12 15 by decide))))
    refine px_iload_1 dX8_count_25 ?_
    refine px_tableIn (off := 146) (tgt := 172) dX8_count_26 (by decide) (by decide) rfl (by decide) ?_
    refine px_aload_0 dX8_count_172 ?_
    refine px_iconst (1) dX8_count_173 rfl ?_
    refine cd_X8_170 rfl ⟨⟨Nat.le_of_ble_eq_true rfl, Nat.le_of_ble_eq_true rfl⟩, Nat.le_of_ble_eq_true rfl, Nat.le_of_ble_eq_true rfl, Nat.le_of_ble_eq_true rfl⟩ (by first | assumption | exact mo_a hm | exact mo_r0 hm | exact mo_r1 hm | exact mo_r2 hm | exact mo_r4 hm | exact mo_r6 hm | exact mo_r8 hm | exact mo_a1 hm | exact mo_a2 hm | exact mo_a3 hm | exact mo_a4 hm | exact mo_a5 hm | exact mo_a6 hm) dX8_count_174 (s_X8_ofCarts (j := 1) rfl (by decide) hm hV1) ?_
    refine px_iret dX8_count_177 ?_
    rw [hs]; exact ⟨rfl, J, rfl, fun _ _ => rfl⟩
  by_cases w10 : w = 10
  · subst w10
    rw [f_cnt, if_neg (by decide), if_neg (by decide), if_neg (by decide), if_neg (by decide), if_neg (by decide), if_neg (by decide), if_neg (by decide), if_neg (by decide), if_neg (by decide), if_neg (by decide), if_pos rfl]
    refine px_iload_1 dX8_count_0 ?_
    refine px_bipush (12) dX8_count_1 rfl ?_
    refine px_bipush (15) dX8_count_3 rfl ?_
    refine cd_X8_29 rfl ⟨⟨Nat.le_of_ble_eq_true rfl, Nat.le_of_ble_eq_true rfl⟩, Nat.le_of_ble_eq_true rfl, Nat.le_of_ble_eq_true rfl, Nat.le_of_ble_eq_true rfl⟩ dX8_count_5 (s_X8_in) ?_
    refine px_ifb_eq (tgt := 25) dX8_count_8 (by decide) (fun h8 => ?_) (fun h8 => (by first | exact absurd ((show ¬ rg 10 12 15 by decide)) h8 | exact absurd h8 ((show ¬ rg 10 12 15 by decide))))
    refine px_iload_1 dX8_count_25 ?_
    refine px_tableIn (off := 152) (tgt := 178) dX8_count_26 (by decide) (by decide) rfl (by decide) ?_
    refine px_aload_0 dX8_count_178 ?_
    refine gf_X8_7 rfl dX8_count_179 (by first | assumption | exact mo_a hm | exact mo_r0 hm | exact mo_r1 hm | exact mo_r2 hm | exact mo_r4 hm | exact mo_r6 hm | exact mo_r8 hm | exact mo_a1 hm | exact mo_a2 hm | exact mo_a3 hm | exact mo_a4 hm | exact mo_a5 hm | exact mo_a6 hm) (by first | assumption | exact mo_a hm | exact mo_r0 hm | exact mo_r1 hm | exact mo_r2 hm | exact mo_r4 hm | exact mo_r6 hm | exact mo_r8 hm | exact mo_a1 hm | exact mo_a2 hm | exact mo_a3 hm | exact mo_a4 hm | exact mo_a5 hm | exact mo_a6 hm) ?_
    refine px_sipush (150) dX8_count_182 rfl ?_
    refine px_ialdN (j := 150) dX8_count_185 (by first | assumption | exact mo_a hm | exact mo_r0 hm | exact mo_r1 hm | exact mo_r2 hm | exact mo_r4 hm | exact mo_r6 hm | exact mo_r8 hm | exact mo_a1 hm | exact mo_a2 hm | exact mo_a3 hm | exact mo_a4 hm | exact mo_a5 hm | exact mo_a6 hm) (by first | rfl | exact ix_eq (by assumption)) (by first | decide | omega) ?_
    rw [hs]
    refine px_iret dX8_count_186 ?_
    exact ⟨rfl, J, rfl, fun _ _ => rfl⟩
  by_cases w11 : w = 11
  · subst w11
    rw [f_cnt, if_neg (by decide), if_neg (by decide), if_neg (by decide), if_neg (by decide), if_neg (by decide), if_neg (by decide), if_neg (by decide), if_neg (by decide), if_neg (by decide), if_neg (by decide), if_neg (by decide), if_pos rfl]
    refine px_iload_1 dX8_count_0 ?_
    refine px_bipush (12) dX8_count_1 rfl ?_
    refine px_bipush (15) dX8_count_3 rfl ?_
    refine cd_X8_29 rfl ⟨⟨Nat.le_of_ble_eq_true rfl, Nat.le_of_ble_eq_true rfl⟩, Nat.le_of_ble_eq_true rfl, Nat.le_of_ble_eq_true rfl, Nat.le_of_ble_eq_true rfl⟩ dX8_count_5 (s_X8_in) ?_
    refine px_ifb_eq (tgt := 25) dX8_count_8 (by decide) (fun h8 => ?_) (fun h8 => (by first | exact absurd ((show ¬ rg 11 12 15 by decide)) h8 | exact absurd h8 ((show ¬ rg 11 12 15 by decide))))
    refine px_iload_1 dX8_count_25 ?_
    refine px_tableIn (off := 161) (tgt := 187) dX8_count_26 (by decide) (by decide) rfl (by decide) ?_
    refine px_aload_0 dX8_count_187 ?_
    refine gf_X8_7 rfl dX8_count_188 (by first | assumption | exact mo_a hm | exact mo_r0 hm | exact mo_r1 hm | exact mo_r2 hm | exact mo_r4 hm | exact mo_r6 hm | exact mo_r8 hm | exact mo_a1 hm | exact mo_a2 hm | exact mo_a3 hm | exact mo_a4 hm | exact mo_a5 hm | exact mo_a6 hm) (by first | assumption | exact mo_a hm | exact mo_r0 hm | exact mo_r1 hm | exact mo_r2 hm | exact mo_r4 hm | exact mo_r6 hm | exact mo_r8 hm | exact mo_a1 hm | exact mo_a2 hm | exact mo_a3 hm | exact mo_a4 hm | exact mo_a5 hm | exact mo_a6 hm) ?_
    refine px_sipush (146) dX8_count_191 rfl ?_
    refine px_ialdN (j := 146) dX8_count_194 (by first | assumption | exact mo_a hm | exact mo_r0 hm | exact mo_r1 hm | exact mo_r2 hm | exact mo_r4 hm | exact mo_r6 hm | exact mo_r8 hm | exact mo_a1 hm | exact mo_a2 hm | exact mo_a3 hm | exact mo_a4 hm | exact mo_a5 hm | exact mo_a6 hm) (by first | rfl | exact ix_eq (by assumption)) (by first | decide | omega) ?_
    rw [hs]
    refine px_iret dX8_count_195 ?_
    exact ⟨rfl, J, rfl, fun _ _ => rfl⟩
  by_cases w12 : w = 12
  · subst w12
    rw [f_cnt, if_neg (by decide), if_neg (by decide), if_neg (by decide), if_neg (by decide), if_neg (by decide), if_neg (by decide), if_neg (by decide), if_neg (by decide), if_neg (by decide), if_neg (by decide), if_neg (by decide), if_neg (by decide), if_pos rfl]
    refine px_iload_1 dX8_count_0 ?_
    refine px_bipush (12) dX8_count_1 rfl ?_
    refine px_bipush (15) dX8_count_3 rfl ?_
    refine cd_X8_29 rfl ⟨⟨Nat.le_of_ble_eq_true rfl, Nat.le_of_ble_eq_true rfl⟩, Nat.le_of_ble_eq_true rfl, Nat.le_of_ble_eq_true rfl, Nat.le_of_ble_eq_true rfl⟩ dX8_count_5 (s_X8_in) ?_
    refine px_ifb_eq (tgt := 25) dX8_count_8 (by decide) (fun h8 => (by first | exact absurd h8 ((show rg 12 12 15 by decide)) | exact absurd ((show rg 12 12 15 by decide)) h8)) (fun h8 => ?_)
    refine px_aload_0 dX8_count_11 ?_
    refine gf_X8_7 rfl dX8_count_12 (by first | assumption | exact mo_a hm | exact mo_r0 hm | exact mo_r1 hm | exact mo_r2 hm | exact mo_r4 hm | exact mo_r6 hm | exact mo_r8 hm | exact mo_a1 hm | exact mo_a2 hm | exact mo_a3 hm | exact mo_a4 hm | exact mo_a5 hm | exact mo_a6 hm) (by first | assumption | exact mo_a hm | exact mo_r0 hm | exact mo_r1 hm | exact mo_r2 hm | exact mo_r4 hm | exact mo_r6 hm | exact mo_r8 hm | exact mo_a1 hm | exact mo_a2 hm | exact mo_a3 hm | exact mo_a4 hm | exact mo_a5 hm | exact mo_a6 hm) ?_
    refine px_sipush (142) dX8_count_15 rfl ?_
    refine px_iload_1 dX8_count_18 ?_
    refine px_iadd dX8_count_19 ?_
    refine px_bipush (12) dX8_count_20 rfl ?_
    refine px_isub dX8_count_22 ?_
    rw [show (142 : Int32) + 12 - 12 = nI 142 from rfl]
    refine px_ialdN dX8_count_23 (by first | assumption | exact mo_a hm | exact mo_r0 hm | exact mo_r1 hm | exact mo_r2 hm | exact mo_r4 hm | exact mo_r6 hm | exact mo_r8 hm | exact mo_a1 hm | exact mo_a2 hm | exact mo_a3 hm | exact mo_a4 hm | exact mo_a5 hm | exact mo_a6 hm) (by first | rfl | exact ix_eq (by assumption)) (by first | decide | omega) ?_
    rw [hs]
    refine px_iret dX8_count_24 ?_
    exact ⟨rfl, J, rfl, fun _ _ => rfl⟩
  by_cases w13 : w = 13
  · subst w13
    rw [f_cnt, if_neg (by decide), if_neg (by decide), if_neg (by decide), if_neg (by decide), if_neg (by decide), if_neg (by decide), if_neg (by decide), if_neg (by decide), if_neg (by decide), if_neg (by decide), if_neg (by decide), if_neg (by decide), if_neg (by decide), if_pos rfl]
    refine px_iload_1 dX8_count_0 ?_
    refine px_bipush (12) dX8_count_1 rfl ?_
    refine px_bipush (15) dX8_count_3 rfl ?_
    refine cd_X8_29 rfl ⟨⟨Nat.le_of_ble_eq_true rfl, Nat.le_of_ble_eq_true rfl⟩, Nat.le_of_ble_eq_true rfl, Nat.le_of_ble_eq_true rfl, Nat.le_of_ble_eq_true rfl⟩ dX8_count_5 (s_X8_in) ?_
    refine px_ifb_eq (tgt := 25) dX8_count_8 (by decide) (fun h8 => (by first | exact absurd h8 ((show rg 13 12 15 by decide)) | exact absurd ((show rg 13 12 15 by decide)) h8)) (fun h8 => ?_)
    refine px_aload_0 dX8_count_11 ?_
    refine gf_X8_7 rfl dX8_count_12 (by first | assumption | exact mo_a hm | exact mo_r0 hm | exact mo_r1 hm | exact mo_r2 hm | exact mo_r4 hm | exact mo_r6 hm | exact mo_r8 hm | exact mo_a1 hm | exact mo_a2 hm | exact mo_a3 hm | exact mo_a4 hm | exact mo_a5 hm | exact mo_a6 hm) (by first | assumption | exact mo_a hm | exact mo_r0 hm | exact mo_r1 hm | exact mo_r2 hm | exact mo_r4 hm | exact mo_r6 hm | exact mo_r8 hm | exact mo_a1 hm | exact mo_a2 hm | exact mo_a3 hm | exact mo_a4 hm | exact mo_a5 hm | exact mo_a6 hm) ?_
    refine px_sipush (142) dX8_count_15 rfl ?_
    refine px_iload_1 dX8_count_18 ?_
    refine px_iadd dX8_count_19 ?_
    refine px_bipush (12) dX8_count_20 rfl ?_
    refine px_isub dX8_count_22 ?_
    rw [show (142 : Int32) + 13 - 12 = nI 143 from rfl]
    refine px_ialdN dX8_count_23 (by first | assumption | exact mo_a hm | exact mo_r0 hm | exact mo_r1 hm | exact mo_r2 hm | exact mo_r4 hm | exact mo_r6 hm | exact mo_r8 hm | exact mo_a1 hm | exact mo_a2 hm | exact mo_a3 hm | exact mo_a4 hm | exact mo_a5 hm | exact mo_a6 hm) (by first | rfl | exact ix_eq (by assumption)) (by first | decide | omega) ?_
    rw [hs]
    refine px_iret dX8_count_24 ?_
    exact ⟨rfl, J, rfl, fun _ _ => rfl⟩
  by_cases w14 : w = 14
  · subst w14
    rw [f_cnt, if_neg (by decide), if_neg (by decide), if_neg (by decide), if_neg (by decide), if_neg (by decide), if_neg (by decide), if_neg (by decide), if_neg (by decide), if_neg (by decide), if_neg (by decide), if_neg (by decide), if_neg (by decide), if_neg (by decide), if_neg (by decide), if_pos rfl]
    refine px_iload_1 dX8_count_0 ?_
    refine px_bipush (12) dX8_count_1 rfl ?_
    refine px_bipush (15) dX8_count_3 rfl ?_
    refine cd_X8_29 rfl ⟨⟨Nat.le_of_ble_eq_true rfl, Nat.le_of_ble_eq_true rfl⟩, Nat.le_of_ble_eq_true rfl, Nat.le_of_ble_eq_true rfl, Nat.le_of_ble_eq_true rfl⟩ dX8_count_5 (s_X8_in) ?_
    refine px_ifb_eq (tgt := 25) dX8_count_8 (by decide) (fun h8 => (by first | exact absurd h8 ((show rg 14 12 15 by decide)) | exact absurd ((show rg 14 12 15 by decide)) h8)) (fun h8 => ?_)
    refine px_aload_0 dX8_count_11 ?_
    refine gf_X8_7 rfl dX8_count_12 (by first | assumption | exact mo_a hm | exact mo_r0 hm | exact mo_r1 hm | exact mo_r2 hm | exact mo_r4 hm | exact mo_r6 hm | exact mo_r8 hm | exact mo_a1 hm | exact mo_a2 hm | exact mo_a3 hm | exact mo_a4 hm | exact mo_a5 hm | exact mo_a6 hm) (by first | assumption | exact mo_a hm | exact mo_r0 hm | exact mo_r1 hm | exact mo_r2 hm | exact mo_r4 hm | exact mo_r6 hm | exact mo_r8 hm | exact mo_a1 hm | exact mo_a2 hm | exact mo_a3 hm | exact mo_a4 hm | exact mo_a5 hm | exact mo_a6 hm) ?_
    refine px_sipush (142) dX8_count_15 rfl ?_
    refine px_iload_1 dX8_count_18 ?_
    refine px_iadd dX8_count_19 ?_
    refine px_bipush (12) dX8_count_20 rfl ?_
    refine px_isub dX8_count_22 ?_
    rw [show (142 : Int32) + 14 - 12 = nI 144 from rfl]
    refine px_ialdN dX8_count_23 (by first | assumption | exact mo_a hm | exact mo_r0 hm | exact mo_r1 hm | exact mo_r2 hm | exact mo_r4 hm | exact mo_r6 hm | exact mo_r8 hm | exact mo_a1 hm | exact mo_a2 hm | exact mo_a3 hm | exact mo_a4 hm | exact mo_a5 hm | exact mo_a6 hm) (by first | rfl | exact ix_eq (by assumption)) (by first | decide | omega) ?_
    rw [hs]
    refine px_iret dX8_count_24 ?_
    exact ⟨rfl, J, rfl, fun _ _ => rfl⟩
  by_cases w15 : w = 15
  · subst w15
    rw [f_cnt, if_neg (by decide), if_neg (by decide), if_neg (by decide), if_neg (by decide), if_neg (by decide), if_neg (by decide), if_neg (by decide), if_neg (by decide), if_neg (by decide), if_neg (by decide), if_neg (by decide), if_neg (by decide), if_neg (by decide), if_neg (by decide), if_neg (by decide), if_pos rfl]
    refine px_iload_1 dX8_count_0 ?_
    refine px_bipush (12) dX8_count_1 rfl ?_
    refine px_bipush (15) dX8_count_3 rfl ?_
    refine cd_X8_29 rfl ⟨⟨Nat.le_of_ble_eq_true rfl, Nat.le_of_ble_eq_true rfl⟩, Nat.le_of_ble_eq_true rfl, Nat.le_of_ble_eq_true rfl, Nat.le_of_ble_eq_true rfl⟩ dX8_count_5 (s_X8_in) ?_
    refine px_ifb_eq (tgt := 25) dX8_count_8 (by decide) (fun h8 => (by first | exact absurd h8 ((show rg 15 12 15 by decide)) | exact absurd ((show rg 15 12 15 by decide)) h8)) (fun h8 => ?_)
    refine px_aload_0 dX8_count_11 ?_
    refine gf_X8_7 rfl dX8_count_12 (by first | assumption | exact mo_a hm | exact mo_r0 hm | exact mo_r1 hm | exact mo_r2 hm | exact mo_r4 hm | exact mo_r6 hm | exact mo_r8 hm | exact mo_a1 hm | exact mo_a2 hm | exact mo_a3 hm | exact mo_a4 hm | exact mo_a5 hm | exact mo_a6 hm) (by first | assumption | exact mo_a hm | exact mo_r0 hm | exact mo_r1 hm | exact mo_r2 hm | exact mo_r4 hm | exact mo_r6 hm | exact mo_r8 hm | exact mo_a1 hm | exact mo_a2 hm | exact mo_a3 hm | exact mo_a4 hm | exact mo_a5 hm | exact mo_a6 hm) ?_
    refine px_sipush (142) dX8_count_15 rfl ?_
    refine px_iload_1 dX8_count_18 ?_
    refine px_iadd dX8_count_19 ?_
    refine px_bipush (12) dX8_count_20 rfl ?_
    refine px_isub dX8_count_22 ?_
    rw [show (142 : Int32) + 15 - 12 = nI 145 from rfl]
    refine px_ialdN dX8_count_23 (by first | assumption | exact mo_a hm | exact mo_r0 hm | exact mo_r1 hm | exact mo_r2 hm | exact mo_r4 hm | exact mo_r6 hm | exact mo_r8 hm | exact mo_a1 hm | exact mo_a2 hm | exact mo_a3 hm | exact mo_a4 hm | exact mo_a5 hm | exact mo_a6 hm) (by first | rfl | exact ix_eq (by assumption)) (by first | decide | omega) ?_
    rw [hs]
    refine px_iret dX8_count_24 ?_
    exact ⟨rfl, J, rfl, fun _ _ => rfl⟩
  by_cases w16 : w = 16
  · subst w16
    rw [f_cnt, if_neg (by decide), if_neg (by decide), if_neg (by decide), if_neg (by decide), if_neg (by decide), if_neg (by decide), if_neg (by decide), if_neg (by decide), if_neg (by decide), if_neg (by decide), if_neg (by decide), if_neg (by decide), if_neg (by decide), if_neg (by decide), if_neg (by decide), if_neg (by decide), if_pos rfl]
    refine px_iload_1 dX8_count_0 ?_
    refine px_bipush (12) dX8_count_1 rfl ?_
    refine px_bipush (15) dX8_count_3 rfl ?_
    refine cd_X8_29 rfl ⟨⟨Nat.le_of_ble_eq_true rfl, Nat.le_of_ble_eq_true rfl⟩, Nat.le_of_ble_eq_true rfl, Nat.le_of_ble_eq_true rfl, Nat.le_of_ble_eq_true rfl⟩ dX8_count_5 (s_X8_in) ?_
    refine px_ifb_eq (tgt := 25) dX8_count_8 (by decide) (fun h8 => ?_) (fun h8 => (by first | exact absurd ((show ¬ rg 16 12 15 by decide)) h8 | exact absurd h8 ((show ¬ rg 16 12 15 by decide))))
    refine px_iload_1 dX8_count_25 ?_
    refine px_tableIn (off := 170) (tgt := 196) dX8_count_26 (by decide) (by decide) rfl (by decide) ?_
    refine px_aload_0 dX8_count_196 ?_
    refine gf_X8_156 rfl dX8_count_197 (by first | assumption | exact mo_a hm | exact mo_r0 hm | exact mo_r1 hm | exact mo_r2 hm | exact mo_r4 hm | exact mo_r6 hm | exact mo_r8 hm | exact mo_a1 hm | exact mo_a2 hm | exact mo_a3 hm | exact mo_a4 hm | exact mo_a5 hm | exact mo_a6 hm) ?_
    rw [hp]
    refine px_iret dX8_count_200 ?_
    exact ⟨rfl, J, rfl, fun _ _ => rfl⟩
  by_cases w17 : w = 17
  · subst w17
    rw [f_cnt, if_neg (by decide), if_neg (by decide), if_neg (by decide), if_neg (by decide), if_neg (by decide), if_neg (by decide), if_neg (by decide), if_neg (by decide), if_neg (by decide), if_neg (by decide), if_neg (by decide), if_neg (by decide), if_neg (by decide), if_neg (by decide), if_neg (by decide), if_neg (by decide), if_neg (by decide), if_pos rfl]
    refine px_iload_1 dX8_count_0 ?_
    refine px_bipush (12) dX8_count_1 rfl ?_
    refine px_bipush (15) dX8_count_3 rfl ?_
    refine cd_X8_29 rfl ⟨⟨Nat.le_of_ble_eq_true rfl, Nat.le_of_ble_eq_true rfl⟩, Nat.le_of_ble_eq_true rfl, Nat.le_of_ble_eq_true rfl, Nat.le_of_ble_eq_true rfl⟩ dX8_count_5 (s_X8_in) ?_
    refine px_ifb_eq (tgt := 25) dX8_count_8 (by decide) (fun h8 => ?_) (fun h8 => (by first | exact absurd ((show ¬ rg 17 12 15 by decide)) h8 | exact absurd h8 ((show ¬ rg 17 12 15 by decide))))
    refine px_iload_1 dX8_count_25 ?_
    refine px_tableIn (off := 175) (tgt := 201) dX8_count_26 (by decide) (by decide) rfl (by decide) ?_
    refine px_aload_0 dX8_count_201 ?_
    refine gf_X8_33 rfl dX8_count_202 (by first | assumption | exact mo_a hm | exact mo_r0 hm | exact mo_r1 hm | exact mo_r2 hm | exact mo_r4 hm | exact mo_r6 hm | exact mo_r8 hm | exact mo_a1 hm | exact mo_a2 hm | exact mo_a3 hm | exact mo_a4 hm | exact mo_a5 hm | exact mo_a6 hm) ?_
    rw [hk]
    refine px_iret dX8_count_205 ?_
    exact ⟨rfl, J, rfl, fun _ _ => rfl⟩
  rw [f_cnt, if_neg w0, if_neg w1, if_neg w2, if_neg w3, if_neg w4, if_neg w5, if_neg w6, if_neg w7, if_neg w8, if_neg w9, if_neg w10, if_neg w11, if_neg w12, if_neg w13, if_neg w14, if_neg w15, if_neg w16, if_neg w17]
  have ho := tb_out (x := w) (n := 18) (fun k hk => by rcases (by omega : k = 0 ∨ k = 1 ∨ k = 2 ∨ k = 3 ∨ k = 4 ∨ k = 5 ∨ k = 6 ∨ k = 7 ∨ k = 8 ∨ k = 9 ∨ k = 10 ∨ k = 11 ∨ k = 12 ∨ k = 13 ∨ k = 14 ∨ k = 15 ∨ k = 16 ∨ k = 17) with rfl | rfl | rfl | rfl | rfl | rfl | rfl | rfl | rfl | rfl | rfl | rfl | rfl | rfl | rfl | rfl | rfl | rfl <;> assumption) (by decide)
  have hn : ¬ rg w 12 15 := fun q => by rw [rg_ti, show (12 : Int32).toInt = 12 from rfl, show (15 : Int32).toInt = 15 from rfl] at q; omega
  refine px_iload_1 dX8_count_0 ?_
  refine px_bipush (12) dX8_count_1 rfl ?_
  refine px_bipush (15) dX8_count_3 rfl ?_
  refine cd_X8_29 rfl ⟨⟨Nat.le_of_ble_eq_true rfl, Nat.le_of_ble_eq_true rfl⟩, Nat.le_of_ble_eq_true rfl, Nat.le_of_ble_eq_true rfl, Nat.le_of_ble_eq_true rfl⟩ dX8_count_5 (s_X8_in) ?_
  refine px_ifb_eq (tgt := 25) dX8_count_8 (by decide) (fun h8 => ?_) (fun h8 => (by first | exact absurd (hn) h8 | exact absurd h8 (hn)))
  refine px_iload_1 dX8_count_25 ?_
  refine px_tableOut (tgt := 206) dX8_count_26 (by omega) (by decide) ?_
  refine px_bipush (-2) dX8_count_206 rfl ?_
  refine px_iret dX8_count_208 ?_
  exact ⟨rfl, J, rfl, fun _ _ => rfl⟩
end MW2

