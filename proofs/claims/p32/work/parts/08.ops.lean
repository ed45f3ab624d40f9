section WO
variable {l : Launch} {G : px_G} {T : px_T} {I : px_I} {J : px_J} {R : px_R} {μ : px_M} {w : Nat} {σ : px_s}
/-- the tables: least and most settings, units -/
def f_lst (k : Nat) : Value := .int (f_lo (nI k))
def f_mst (k : Nat) : Value := .int (f_hi (nI k))
def f_unit (k : Nat) : Int64 := 100 ^ k
def px_tabs (G : px_G) : Prop := ∃ tl tm tu : Nat, (∃ q : Nat, G.2.2.2.1[q]? = some ((FieldType.int, tl, 4, f_lst) : px_B)) ∧ (∃ q : Nat, G.2.2.2.1[q]? = some ((FieldType.int, tm, 4, f_mst) : px_B)) ∧ (∃ q : Nat, G.2.2.2.1[q]? = some ((FieldType.long, tu, 5, fun k => Value.long (f_unit k)) : px_B)) ∧
  (∃ q : Nat, G.2.2.2.2.2[q]? = some ("SaltPrices", "LEAST_SETTINGS", "[I", Value.ref tl)) ∧ (∃ q : Nat, G.2.2.2.2.2[q]? = some ("SaltPrices", "MOST_SETTINGS", "[I", Value.ref tm)) ∧ (∃ q : Nat, G.2.2.2.2.2[q]? = some ("SaltPrices", "UNITS", "[J", Value.ref tu))
theorem s_X6_changeSetting {a b : Int32} (hG : px_tabs G) (hw : px_wo G T R w) (hA : px_ag I w σ) (hV : px_V σ) : px_C l G 1 0 0 mX6_changeSetting [.ref w, .int a, .int b] (T, I, J, R) (px_Q1 T I J R w (f_set σ a b)) := by
  obtain ⟨tl, tm, tu, ⟨q1, hq1⟩, ⟨q2, hq2⟩, -, ⟨z1, hz1⟩, ⟨z2, hz2⟩, -⟩ := hG
  have v1 := hV.1.2.1
  have v2 := hV.1.2.2.2
  refine px_met (M := mX6_changeSetting) ([some (.ref w), some (.int a), some (.int b), none]) (by decide +kernel) rfl (Nat.le_of_ble_eq_true rfl) rfl ?_
  by_cases hr : rg a 0 3
  · have ha := ix_eq hr
    have hl := ix_le hr (k := 3) rfl
    have vin : vp_in a 4 := by rw [ha]; exact vp_in_nI (by omega) (by omega)
    have el : f_lst a.toNatClampNeg = .int (f_lo a) := by show Value.int (f_lo (nI (ix a))) = _; rw [← ha]
    have em : f_mst a.toNatClampNeg = .int (f_hi a) := by show Value.int (f_hi (nI (ix a))) = _; rw [← ha]
    refine px_iload_1 dX6_changeSetting_0 ?_
    refine px_iconst (0) dX6_changeSetting_1 rfl ?_
    refine px_iconst (3) dX6_changeSetting_2 rfl ?_
    refine cd_X6_70 rfl ⟨⟨Nat.le_of_ble_eq_true rfl, Nat.le_of_ble_eq_true rfl⟩, Nat.le_of_ble_eq_true rfl, Nat.le_of_ble_eq_true rfl, Nat.le_of_ble_eq_true rfl⟩ dX6_changeSetting_3 (s_X7_isOutside) ?_
    refine px_ifb_eq (tgt := 12) dX6_changeSetting_6 (by decide) (fun h6 => ?_) (fun h6 => (by first | exact absurd ((show ¬ (a < 0 ∨ 3 < a) from hr)) h6 | exact absurd h6 ((show ¬ (a < 0 ∨ 3 < a) from hr))))
    refine px_iload_2 dX6_changeSetting_12 ?_
    refine px_getsN fl_X6_125 dX6_changeSetting_13 hz1 ?_
    refine px_iload_1 dX6_changeSetting_16 ?_
    refine px_ti dX6_changeSetting_17 hq1 vin el ?_
    refine px_getsN fl_X6_128 dX6_changeSetting_18 hz2 ?_
    refine px_iload_1 dX6_changeSetting_21 ?_
    refine px_ti dX6_changeSetting_22 hq2 vin em ?_
    refine cd_X6_70 rfl ⟨⟨Nat.le_of_ble_eq_true rfl, Nat.le_of_ble_eq_true rfl⟩, Nat.le_of_ble_eq_true rfl, Nat.le_of_ble_eq_true rfl, Nat.le_of_ble_eq_true rfl⟩ dX6_changeSetting_23 (s_X7_isOutside) ?_
    refine px_ifb_eq (tgt := 32) dX6_changeSetting_26 (by decide) (fun h26 => ?_) (fun h26 => ?_)
    · skip
      refine px_iload_1 dX6_changeSetting_32 ?_
      refine px_iconst (3) dX6_changeSetting_33 rfl ?_
      refine px_icmp_ne (tgt := 48) dX6_changeSetting_34 (by decide) (fun h34 => ?_) (fun h34 => ?_)
      · skip
        refine px_aload_0 dX6_changeSetting_48 ?_
        refine gf_X6_9 rfl dX6_changeSetting_49 (by first | assumption | exact wo_a hw | exact wo_r0 hw | exact wo_r1 hw | exact wo_r2 hw | exact wo_r3 hw | exact wo_a1 hw | exact wo_a2 hw | exact wo_a3 hw | exact wo_a4 hw | exact wo_rr hw (by omega) | exact wo_ra hw (by omega) | exact wo_cr hw (by omega) | exact wo_ca hw (by omega)) (by first | assumption | exact wo_a hw | exact wo_r0 hw | exact wo_r1 hw | exact wo_r2 hw | exact wo_r3 hw | exact wo_a1 hw | exact wo_a2 hw | exact wo_a3 hw | exact wo_a4 hw | exact wo_rr hw (by omega) | exact wo_ra hw (by omega) | exact wo_cr hw (by omega) | exact wo_ca hw (by omega)) ?_
        refine px_iload_1 dX6_changeSetting_52 ?_
        refine px_ialdN dX6_changeSetting_53 (by first | assumption | exact wo_a hw | exact wo_r0 hw | exact wo_r1 hw | exact wo_r2 hw | exact wo_r3 hw | exact wo_a1 hw | exact wo_a2 hw | exact wo_a3 hw | exact wo_a4 hw | exact wo_rr hw (by omega) | exact wo_ra hw (by omega) | exact wo_cr hw (by omega) | exact wo_ca hw (by omega)) (by exact ha) (by omega) ?_
        refine px_istore_3 dX6_changeSetting_54 rfl ?_
        refine px_aload_0 dX6_changeSetting_55 ?_
        refine gf_X6_9 rfl dX6_changeSetting_56 (by first | assumption | exact wo_a hw | exact wo_r0 hw | exact wo_r1 hw | exact wo_r2 hw | exact wo_r3 hw | exact wo_a1 hw | exact wo_a2 hw | exact wo_a3 hw | exact wo_a4 hw | exact wo_rr hw (by omega) | exact wo_ra hw (by omega) | exact wo_cr hw (by omega) | exact wo_ca hw (by omega)) (by first | assumption | exact wo_a hw | exact wo_r0 hw | exact wo_r1 hw | exact wo_r2 hw | exact wo_r3 hw | exact wo_a1 hw | exact wo_a2 hw | exact wo_a3 hw | exact wo_a4 hw | exact wo_rr hw (by omega) | exact wo_ra hw (by omega) | exact wo_cr hw (by omega) | exact wo_ca hw (by omega)) ?_
        refine px_iload_1 dX6_changeSetting_59 ?_
        refine px_iload_2 dX6_changeSetting_60 ?_
        refine px_iastN dX6_changeSetting_61 (by first | assumption | exact wo_a hw | exact wo_r0 hw | exact wo_r1 hw | exact wo_r2 hw | exact wo_r3 hw | exact wo_a1 hw | exact wo_a2 hw | exact wo_a3 hw | exact wo_a4 hw | exact wo_rr hw (by omega) | exact wo_ra hw (by omega) | exact wo_cr hw (by omega) | exact wo_ca hw (by omega)) (by exact ha) (by omega) ?_
        refine px_iload_3 dX6_changeSetting_62 ?_
        refine px_iret dX6_changeSetting_63 ?_
        exact px_Q1_ok (by rw [ag_st hA (by omega)]; clear hA hV hw; grind [f_set]) (by rw [show f_set σ a b = (σ (142 + ix a), upd σ (142 + ix a) b) by clear hA hV hw; grind [f_set]]; exact ag_up_set hA ⟨v1, v2⟩ (by omega)) (fun x hx => px_up_ne (by omega))
      · skip
        refine px_aload_0 dX6_changeSetting_37 ?_
        refine cd_X6_131 rfl ⟨⟨Nat.le_of_ble_eq_true rfl, Nat.le_of_ble_eq_true rfl⟩, Nat.le_of_ble_eq_true rfl, Nat.le_of_ble_eq_true rfl, Nat.le_of_ble_eq_true rfl⟩ (by first | assumption | exact wo_a hw | exact wo_r0 hw | exact wo_r1 hw | exact wo_r2 hw | exact wo_r3 hw | exact wo_a1 hw | exact wo_a2 hw | exact wo_a3 hw | exact wo_a4 hw | exact wo_rr hw (by omega) | exact wo_ra hw (by omega) | exact wo_cr hw (by omega) | exact wo_ca hw (by omega)) dX6_changeSetting_38 (s_X6_guardsAtRoads hw hA hV) ?_
        refine px_iload_2 dX6_changeSetting_41 ?_
        refine px_icmp_le (tgt := 48) dX6_changeSetting_42 (by decide) (fun h42 => ?_) (fun h42 => ?_)
        · skip
          refine px_aload_0 dX6_changeSetting_48 ?_
          refine gf_X6_9 rfl dX6_changeSetting_49 (by first | assumption | exact wo_a hw | exact wo_r0 hw | exact wo_r1 hw | exact wo_r2 hw | exact wo_r3 hw | exact wo_a1 hw | exact wo_a2 hw | exact wo_a3 hw | exact wo_a4 hw | exact wo_rr hw (by omega) | exact wo_ra hw (by omega) | exact wo_cr hw (by omega) | exact wo_ca hw (by omega)) (by first | assumption | exact wo_a hw | exact wo_r0 hw | exact wo_r1 hw | exact wo_r2 hw | exact wo_r3 hw | exact wo_a1 hw | exact wo_a2 hw | exact wo_a3 hw | exact wo_a4 hw | exact wo_rr hw (by omega) | exact wo_ra hw (by omega) | exact wo_cr hw (by omega) | exact wo_ca hw (by omega)) ?_
          refine px_iload_1 dX6_changeSetting_52 ?_
          refine px_ialdN dX6_changeSetting_53 (by first | assumption | exact wo_a hw | exact wo_r0 hw | exact wo_r1 hw | exact wo_r2 hw | exact wo_r3 hw | exact wo_a1 hw | exact wo_a2 hw | exact wo_a3 hw | exact wo_a4 hw | exact wo_rr hw (by omega) | exact wo_ra hw (by omega) | exact wo_cr hw (by omega) | exact wo_ca hw (by omega)) (by exact ha) (by omega) ?_
          refine px_istore_3 dX6_changeSetting_54 rfl ?_
          refine px_aload_0 dX6_changeSetting_55 ?_
          refine gf_X6_9 rfl dX6_changeSetting_56 (by first | assumption | exact wo_a hw | exact wo_r0 hw | exact wo_r1 hw | exact wo_r2 hw | exact wo_r3 hw | exact wo_a1 hw | exact wo_a2 hw | exact wo_a3 hw | exact wo_a4 hw | exact wo_rr hw (by omega) | exact wo_ra hw (by omega) | exact wo_cr hw (by omega) | exact wo_ca hw (by omega)) (by first | assumption | exact wo_a hw | exact wo_r0 hw | exact wo_r1 hw | exact wo_r2 hw | exact wo_r3 hw | exact wo_a1 hw | exact wo_a2 hw | exact wo_a3 hw | exact wo_a4 hw | exact wo_rr hw (by omega) | exact wo_ra hw (by omega) | exact wo_cr hw (by omega) | exact wo_ca hw (by omega)) ?_
          refine px_iload_1 dX6_changeSetting_59 ?_
          refine px_iload_2 dX6_changeSetting_60 ?_
          refine px_iastN dX6_changeSetting_61 (by first | assumption | exact wo_a hw | exact wo_r0 hw | exact wo_r1 hw | exact wo_r2 hw | exact wo_r3 hw | exact wo_a1 hw | exact wo_a2 hw | exact wo_a3 hw | exact wo_a4 hw | exact wo_rr hw (by omega) | exact wo_ra hw (by omega) | exact wo_cr hw (by omega) | exact wo_ca hw (by omega)) (by exact ha) (by omega) ?_
          refine px_iload_3 dX6_changeSetting_62 ?_
          refine px_iret dX6_changeSetting_63 ?_
          exact px_Q1_ok (by rw [ag_st hA (by omega)]; clear hA hV hw; grind [f_set]) (by rw [show f_set σ a b = (σ (142 + ix a), upd σ (142 + ix a) b) by clear hA hV hw; grind [f_set]]; exact ag_up_set hA ⟨v1, v2⟩ (by omega)) (fun x hx => px_up_ne (by omega))
        · skip
          refine px_bipush (-5) dX6_changeSetting_45 rfl ?_
          refine px_iret dX6_changeSetting_47 ?_
          exact px_Q1_err (by clear hA hV hw; grind [f_set]) hA
    · skip
      refine px_bipush (-2) dX6_changeSetting_29 rfl ?_
      refine px_iret dX6_changeSetting_31 ?_
      exact px_Q1_err (by clear hA hV hw; grind [f_set]) hA
  · skip
    refine px_iload_1 dX6_changeSetting_0 ?_
    refine px_iconst (0) dX6_changeSetting_1 rfl ?_
    refine px_iconst (3) dX6_changeSetting_2 rfl ?_
    refine cd_X6_70 rfl ⟨⟨Nat.le_of_ble_eq_true rfl, Nat.le_of_ble_eq_true rfl⟩, Nat.le_of_ble_eq_true rfl, Nat.le_of_ble_eq_true rfl, Nat.le_of_ble_eq_true rfl⟩ dX6_changeSetting_3 (s_X7_isOutside) ?_
    refine px_ifb_eq (tgt := 12) dX6_changeSetting_6 (by decide) (fun h6 => (by first | exact absurd h6 (hr) | exact absurd (hr) h6)) (fun h6 => ?_)
    refine px_bipush (-2) dX6_changeSetting_9 rfl ?_
    refine px_iret dX6_changeSetting_11 ?_
    exact px_Q1_err (by clear hA hV hw; grind [f_set]) hA
theorem s_X4_begin {a : Nat} {t o k : Int32} (ha : px_at G T a 4 0) : px_K l G 0 mX4_begin ([.ref a, .int t, .int o, .int k]) ((T, I, J, R)) (none) ((T, px_up (px_up (px_up (px_up (px_up (px_up I a 0 t) a 1 o) a 2 k) a 3 0) a 4 0) a 5 0, J, R)) := by
  refine px_met (M := mX4_begin) ([some (.ref a), some (.int t), some (.int o), some (.int k)]) (by decide +kernel) rfl (Nat.le_of_ble_eq_true rfl) rfl ?_
  refine px_aload_0 dX4_begin_0 ?_
  refine px_iload_1 dX4_begin_1 ?_
  refine pf_X4_7 rfl dX4_begin_2 (by first | assumption | exact wo_a hw | exact wo_r0 hw | exact wo_r1 hw | exact wo_r2 hw | exact wo_r3 hw | exact wo_a1 hw | exact wo_a2 hw | exact wo_a3 hw | exact wo_a4 hw | exact wo_rr hw (by omega) | exact wo_ra hw (by omega) | exact wo_cr hw (by omega) | exact wo_ca hw (by omega)) ?_
  refine px_aload_0 dX4_begin_5 ?_
  refine px_iload_2 dX4_begin_6 ?_
  refine pf_X4_13 rfl dX4_begin_7 (by first | assumption | exact wo_a hw | exact wo_r0 hw | exact wo_r1 hw | exact wo_r2 hw | exact wo_r3 hw | exact wo_a1 hw | exact wo_a2 hw | exact wo_a3 hw | exact wo_a4 hw | exact wo_rr hw (by omega) | exact wo_ra hw (by omega) | exact wo_cr hw (by omega) | exact wo_ca hw (by omega)) ?_
  refine px_aload_0 dX4_begin_10 ?_
  refine px_iload_3 dX4_begin_11 ?_
  refine pf_X4_16 rfl dX4_begin_12 (by first | assumption | exact wo_a hw | exact wo_r0 hw | exact wo_r1 hw | exact wo_r2 hw | exact wo_r3 hw | exact wo_a1 hw | exact wo_a2 hw | exact wo_a3 hw | exact wo_a4 hw | exact wo_rr hw (by omega) | exact wo_ra hw (by omega) | exact wo_cr hw (by omega) | exact wo_ca hw (by omega)) ?_
  refine px_aload_0 dX4_begin_15 ?_
  refine px_iconst (0) dX4_begin_16 rfl ?_
  refine pf_X4_19 rfl dX4_begin_17 (by first | assumption | exact wo_a hw | exact wo_r0 hw | exact wo_r1 hw | exact wo_r2 hw | exact wo_r3 hw | exact wo_a1 hw | exact wo_a2 hw | exact wo_a3 hw | exact wo_a4 hw | exact wo_rr hw (by omega) | exact wo_ra hw (by omega) | exact wo_cr hw (by omega) | exact wo_ca hw (by omega)) ?_
  refine px_aload_0 dX4_begin_20 ?_
  refine px_iconst (0) dX4_begin_21 rfl ?_
  refine pf_X4_22 rfl dX4_begin_22 (by first | assumption | exact wo_a hw | exact wo_r0 hw | exact wo_r1 hw | exact wo_r2 hw | exact wo_r3 hw | exact wo_a1 hw | exact wo_a2 hw | exact wo_a3 hw | exact wo_a4 hw | exact wo_rr hw (by omega) | exact wo_ra hw (by omega) | exact wo_cr hw (by omega) | exact wo_ca hw (by omega)) ?_
  refine px_aload_0 dX4_begin_25 ?_
  refine px_iconst (0) dX4_begin_26 rfl ?_
  refine pf_X4_25 rfl dX4_begin_27 (by first | assumption | exact wo_a hw | exact wo_r0 hw | exact wo_r1 hw | exact wo_r2 hw | exact wo_r3 hw | exact wo_a1 hw | exact wo_a2 hw | exact wo_a3 hw | exact wo_a4 hw | exact wo_rr hw (by omega) | exact wo_ra hw (by omega) | exact wo_cr hw (by omega) | exact wo_ca hw (by omega)) ?_
  refine px_vret dX4_begin_30 ?_
  exact ⟨rfl, rfl⟩
theorem s_X0_begin {a : Nat} {t o : Int32} (ha : px_at G T a 0 0) : px_K l G 0 mX0_begin ([.ref a, .int t, .int o]) ((T, I, J, R)) (none) ((T, px_up (px_up (px_up (px_up (px_up (px_up (px_up (px_up I a 0 t) a 1 o) a 2 0) a 3 0) a 4 0) a 5 0) a 6 0) a 7 0, J, R)) := by
  refine px_met (M := mX0_begin) ([some (.ref a), some (.int t), some (.int o)]) (by decide +kernel) rfl (Nat.le_of_ble_eq_true rfl) rfl ?_
  refine px_aload_0 dX0_begin_0 ?_
  refine px_iload_1 dX0_begin_1 ?_
  refine pf_X0_7 rfl dX0_begin_2 (by first | assumption | exact wo_a hw | exact wo_r0 hw | exact wo_r1 hw | exact wo_r2 hw | exact wo_r3 hw | exact wo_a1 hw | exact wo_a2 hw | exact wo_a3 hw | exact wo_a4 hw | exact wo_rr hw (by omega) | exact wo_ra hw (by omega) | exact wo_cr hw (by omega) | exact wo_ca hw (by omega)) ?_
  refine px_aload_0 dX0_begin_5 ?_
  refine px_iload_2 dX0_begin_6 ?_
  refine pf_X0_13 rfl dX0_begin_7 (by first | assumption | exact wo_a hw | exact wo_r0 hw | exact wo_r1 hw | exact wo_r2 hw | exact wo_r3 hw | exact wo_a1 hw | exact wo_a2 hw | exact wo_a3 hw | exact wo_a4 hw | exact wo_rr hw (by omega) | exact wo_ra hw (by omega) | exact wo_cr hw (by omega) | exact wo_ca hw (by omega)) ?_
  refine px_aload_0 dX0_begin_10 ?_
  refine px_iconst (0) dX0_begin_11 rfl ?_
  refine pf_X0_16 rfl dX0_begin_12 (by first | assumption | exact wo_a hw | exact wo_r0 hw | exact wo_r1 hw | exact wo_r2 hw | exact wo_r3 hw | exact wo_a1 hw | exact wo_a2 hw | exact wo_a3 hw | exact wo_a4 hw | exact wo_rr hw (by omega) | exact wo_ra hw (by omega) | exact wo_cr hw (by omega) | exact wo_ca hw (by omega)) ?_
  refine px_aload_0 dX0_begin_15 ?_
  refine px_iconst (0) dX0_begin_16 rfl ?_
  refine pf_X0_19 rfl dX0_begin_17 (by first | assumption | exact wo_a hw | exact wo_r0 hw | exact wo_r1 hw | exact wo_r2 hw | exact wo_r3 hw | exact wo_a1 hw | exact wo_a2 hw | exact wo_a3 hw | exact wo_a4 hw | exact wo_rr hw (by omega) | exact wo_ra hw (by omega) | exact wo_cr hw (by omega) | exact wo_ca hw (by omega)) ?_
  refine px_aload_0 dX0_begin_20 ?_
  refine px_iconst (0) dX0_begin_21 rfl ?_
  refine pf_X0_22 rfl dX0_begin_22 (by first | assumption | exact wo_a hw | exact wo_r0 hw | exact wo_r1 hw | exact wo_r2 hw | exact wo_r3 hw | exact wo_a1 hw | exact wo_a2 hw | exact wo_a3 hw | exact wo_a4 hw | exact wo_rr hw (by omega) | exact wo_ra hw (by omega) | exact wo_cr hw (by omega) | exact wo_ca hw (by omega)) ?_
  refine px_aload_0 dX0_begin_25 ?_
  refine px_iconst (0) dX0_begin_26 rfl ?_
  refine pf_X0_25 rfl dX0_begin_27 (by first | assumption | exact wo_a hw | exact wo_r0 hw | exact wo_r1 hw | exact wo_r2 hw | exact wo_r3 hw | exact wo_a1 hw | exact wo_a2 hw | exact wo_a3 hw | exact wo_a4 hw | exact wo_rr hw (by omega) | exact wo_ra hw (by omega) | exact wo_cr hw (by omega) | exact wo_ca hw (by omega)) ?_
  refine px_aload_0 dX0_begin_30 ?_
  refine px_iconst (0) dX0_begin_31 rfl ?_
  refine pf_X0_28 rfl dX0_begin_32 (by first | assumption | exact wo_a hw | exact wo_r0 hw | exact wo_r1 hw | exact wo_r2 hw | exact wo_r3 hw | exact wo_a1 hw | exact wo_a2 hw | exact wo_a3 hw | exact wo_a4 hw | exact wo_rr hw (by omega) | exact wo_ra hw (by omega) | exact wo_cr hw (by omega) | exact wo_ca hw (by omega)) ?_
  refine px_aload_0 dX0_begin_35 ?_
  refine px_iconst (0) dX0_begin_36 rfl ?_
  refine pf_X0_31 rfl dX0_begin_37 (by first | assumption | exact wo_a hw | exact wo_r0 hw | exact wo_r1 hw | exact wo_r2 hw | exact wo_r3 hw | exact wo_a1 hw | exact wo_a2 hw | exact wo_a3 hw | exact wo_a4 hw | exact wo_rr hw (by omega) | exact wo_ra hw (by omega) | exact wo_cr hw (by omega) | exact wo_ca hw (by omega)) ?_
  refine px_vret dX0_begin_40 ?_
  exact ⟨rfl, rfl⟩
theorem s_X6_changePrice {a b : Int32} (hw : px_wo G T R w) (hA : px_ag I w σ) (hV : px_V σ) : px_C l G 2 0 0 mX6_changePrice [.ref w, .int a, .int b] (T, I, J, R) (px_Q1 T I J R w (f_price σ a b)) := by
  have v1 := hV.1.2.1
  have v2 := hV.1.2.2.2
  refine px_met (M := mX6_changePrice) ([some (.ref w), some (.int a), some (.int b), none]) (by decide +kernel) rfl (Nat.le_of_ble_eq_true rfl) rfl ?_
  by_cases hr : rg a 0 7
  · have ha := ix_eq hr
    have hl := ix_le hr (k := 7) rfl
    refine px_iload_1 dX6_changePrice_0 ?_
    refine cd_X6_135 rfl ⟨⟨Nat.le_of_ble_eq_true rfl, Nat.le_of_ble_eq_true rfl⟩, Nat.le_of_ble_eq_true rfl, Nat.le_of_ble_eq_true rfl, Nat.le_of_ble_eq_true rfl⟩ dX6_changePrice_1 (s_X7_isTown) ?_
    refine px_ifb_ne (tgt := 9) dX6_changePrice_4 (by decide) (fun h4 => ?_) (fun h4 => (by first | exact absurd (hr) h4 | exact absurd h4 (hr)))
    refine px_iload_2 dX6_changePrice_9 ?_
    refine px_iconst (1) dX6_changePrice_10 rfl ?_
    refine px_sipush (999) dX6_changePrice_11 rfl ?_
    refine cd_X6_70 rfl ⟨⟨Nat.le_of_ble_eq_true rfl, Nat.le_of_ble_eq_true rfl⟩, Nat.le_of_ble_eq_true rfl, Nat.le_of_ble_eq_true rfl, Nat.le_of_ble_eq_true rfl⟩ dX6_changePrice_14 (s_X7_isOutside) ?_
    refine px_ifb_eq (tgt := 23) dX6_changePrice_17 (by decide) (fun h17 => ?_) (fun h17 => ?_)
    · skip
      refine px_aload_0 dX6_changePrice_23 ?_
      refine gf_X6_15 rfl dX6_changePrice_24 (by first | assumption | exact wo_a hw | exact wo_r0 hw | exact wo_r1 hw | exact wo_r2 hw | exact wo_r3 hw | exact wo_a1 hw | exact wo_a2 hw | exact wo_a3 hw | exact wo_a4 hw | exact wo_rr hw (by omega) | exact wo_ra hw (by omega) | exact wo_cr hw (by omega) | exact wo_ca hw (by omega)) (by first | assumption | exact wo_a hw | exact wo_r0 hw | exact wo_r1 hw | exact wo_r2 hw | exact wo_r3 hw | exact wo_a1 hw | exact wo_a2 hw | exact wo_a3 hw | exact wo_a4 hw | exact wo_rr hw (by omega) | exact wo_ra hw (by omega) | exact wo_cr hw (by omega) | exact wo_ca hw (by omega)) ?_
      refine px_iload_1 dX6_changePrice_27 ?_
      refine px_ialdN dX6_changePrice_28 (by first | assumption | exact wo_a hw | exact wo_r0 hw | exact wo_r1 hw | exact wo_r2 hw | exact wo_r3 hw | exact wo_a1 hw | exact wo_a2 hw | exact wo_a3 hw | exact wo_a4 hw | exact wo_rr hw (by omega) | exact wo_ra hw (by omega) | exact wo_cr hw (by omega) | exact wo_ca hw (by omega)) (by exact ha) (by omega) ?_
      refine px_istore_3 dX6_changePrice_29 rfl ?_
      refine px_aload_0 dX6_changePrice_30 ?_
      refine gf_X6_15 rfl dX6_changePrice_31 (by first | assumption | exact wo_a hw | exact wo_r0 hw | exact wo_r1 hw | exact wo_r2 hw | exact wo_r3 hw | exact wo_a1 hw | exact wo_a2 hw | exact wo_a3 hw | exact wo_a4 hw | exact wo_rr hw (by omega) | exact wo_ra hw (by omega) | exact wo_cr hw (by omega) | exact wo_ca hw (by omega)) (by first | assumption | exact wo_a hw | exact wo_r0 hw | exact wo_r1 hw | exact wo_r2 hw | exact wo_r3 hw | exact wo_a1 hw | exact wo_a2 hw | exact wo_a3 hw | exact wo_a4 hw | exact wo_rr hw (by omega) | exact wo_ra hw (by omega) | exact wo_cr hw (by omega) | exact wo_ca hw (by omega)) ?_
      refine px_iload_1 dX6_changePrice_34 ?_
      refine px_iload_2 dX6_changePrice_35 ?_
      refine px_iastN dX6_changePrice_36 (by first | assumption | exact wo_a hw | exact wo_r0 hw | exact wo_r1 hw | exact wo_r2 hw | exact wo_r3 hw | exact wo_a1 hw | exact wo_a2 hw | exact wo_a3 hw | exact wo_a4 hw | exact wo_rr hw (by omega) | exact wo_ra hw (by omega) | exact wo_cr hw (by omega) | exact wo_ca hw (by omega)) (by exact ha) (by omega) ?_
      refine px_iload_3 dX6_changePrice_37 ?_
      refine px_iret dX6_changePrice_38 ?_
      exact px_Q1_ok (by rw [ag_pr hA (by omega)]; clear hA hV hw; grind [f_price]) (by rw [show f_price σ a b = (σ (ix a), upd σ (ix a) b) by clear hA hV hw; grind [f_price]]; exact ag_up_price hA ⟨v1, v2⟩ (by omega)) (fun x hx => px_up_ne (by omega))
    · skip
      refine px_bipush (-2) dX6_changePrice_20 rfl ?_
      refine px_iret dX6_changePrice_22 ?_
      exact px_Q1_err (by clear hA hV hw; grind [f_price]) hA
  · skip
    refine px_iload_1 dX6_changePrice_0 ?_
    refine cd_X6_135 rfl ⟨⟨Nat.le_of_ble_eq_true rfl, Nat.le_of_ble_eq_true rfl⟩, Nat.le_of_ble_eq_true rfl, Nat.le_of_ble_eq_true rfl, Nat.le_of_ble_eq_true rfl⟩ dX6_changePrice_1 (s_X7_isTown) ?_
    refine px_ifb_ne (tgt := 9) dX6_changePrice_4 (by decide) (fun h4 => (by first | exact absurd h4 (hr) | exact absurd (hr) h4)) (fun h4 => ?_)
    refine px_iconst (-1) dX6_changePrice_7 rfl ?_
    refine px_iret dX6_changePrice_8 ?_
    exact px_Q1_err (by clear hA hV hw; grind [f_price]) hA
theorem rd_lt (hV : px_V σ) {a : Int32} (hr : rg a 0 (σ 8 - 1)) : a = nI (ix a) ∧ ix a < f_nr σ ∧ f_nr σ ≤ 14 := by
  have e := ix_eq hr
  rw [hV.1.1] at hr
  have := hV.1.2.1
  exact ⟨e, ix_ltn hr (by omega), this⟩
theorem ct_lt (hV : px_V σ) {a : Int32} (hr : rg a 0 (σ 93 - 1)) : a = nI (ix a) ∧ ix a < f_nc σ ∧ f_nc σ ≤ 6 := by
  have e := ix_eq hr
  rw [hV.1.2.2.1] at hr
  have := hV.1.2.2.2
  exact ⟨e, ix_ltn hr (by omega), this⟩
theorem s_X6_changeGuards {a b : Int32} (hw : px_wo G T R w) (hA : px_ag I w σ) (hV : px_V σ) : px_C l G 2 0 0 mX6_changeGuards [.ref w, .int a, .int b] (T, I, J, R) (px_Q1 T I J R w (f_guard σ a b)) := by
  refine px_met (M := mX6_changeGuards) ([some (.ref w), some (.int a), some (.int b), none]) (by decide +kernel) rfl (Nat.le_of_ble_eq_true rfl) rfl ?_
  by_cases hr : rg a 0 (σ 8 - 1)
  · obtain ⟨ha, hl, h14⟩ := rd_lt hV hr
    have e3 : I (w + 5 + ix a) 3 = σ (9 + 6 * ix a + 3) := ag_rd hA hl (by decide)
    refine px_aload_0 dX6_changeGuards_0 ?_
    refine px_iload_1 dX6_changeGuards_1 ?_
    refine cd_X6_142 rfl ⟨⟨Nat.le_of_ble_eq_true rfl, Nat.le_of_ble_eq_true rfl⟩, Nat.le_of_ble_eq_true rfl, Nat.le_of_ble_eq_true rfl, Nat.le_of_ble_eq_true rfl⟩ (by first | assumption | exact wo_a hw | exact wo_r0 hw | exact wo_r1 hw | exact wo_r2 hw | exact wo_r3 hw | exact wo_a1 hw | exact wo_a2 hw | exact wo_a3 hw | exact wo_a4 hw | exact wo_rr hw (by omega) | exact wo_ra hw (by omega) | exact wo_cr hw (by omega) | exact wo_ca hw (by omega)) dX6_changeGuards_2 (s_X6_hasRoad hw hA) ?_
    refine px_ifb_ne (tgt := 10) dX6_changeGuards_5 (by decide) (fun h5 => ?_) (fun h5 => (by first | exact absurd (hr) h5 | exact absurd h5 (hr)))
    refine px_iload_2 dX6_changeGuards_10 ?_
    refine px_iconst (0) dX6_changeGuards_11 rfl ?_
    refine px_bipush (40) dX6_changeGuards_12 rfl ?_
    refine cd_X6_70 rfl ⟨⟨Nat.le_of_ble_eq_true rfl, Nat.le_of_ble_eq_true rfl⟩, Nat.le_of_ble_eq_true rfl, Nat.le_of_ble_eq_true rfl, Nat.le_of_ble_eq_true rfl⟩ dX6_changeGuards_14 (s_X7_isOutside) ?_
    refine px_ifb_eq (tgt := 23) dX6_changeGuards_17 (by decide) (fun h17 => ?_) (fun h17 => ?_)
    · skip
      refine px_aload_0 dX6_changeGuards_23 ?_
      refine gf_X6_20 rfl dX6_changeGuards_24 (by first | assumption | exact wo_a hw | exact wo_r0 hw | exact wo_r1 hw | exact wo_r2 hw | exact wo_r3 hw | exact wo_a1 hw | exact wo_a2 hw | exact wo_a3 hw | exact wo_a4 hw | exact wo_rr hw (by omega) | exact wo_ra hw (by omega) | exact wo_cr hw (by omega) | exact wo_ca hw (by omega)) (by first | assumption | exact wo_a hw | exact wo_r0 hw | exact wo_r1 hw | exact wo_r2 hw | exact wo_r3 hw | exact wo_a1 hw | exact wo_a2 hw | exact wo_a3 hw | exact wo_a4 hw | exact wo_rr hw (by omega) | exact wo_ra hw (by omega) | exact wo_cr hw (by omega) | exact wo_ca hw (by omega)) ?_
      refine px_iload_1 dX6_changeGuards_27 ?_
      refine px_aaldN dX6_changeGuards_28 (by first | assumption | exact wo_a hw | exact wo_r0 hw | exact wo_r1 hw | exact wo_r2 hw | exact wo_r3 hw | exact wo_a1 hw | exact wo_a2 hw | exact wo_a3 hw | exact wo_a4 hw | exact wo_rr hw (by omega) | exact wo_ra hw (by omega) | exact wo_cr hw (by omega) | exact wo_ca hw (by omega)) (by exact ha) (by omega) (by first | assumption | exact wo_a hw | exact wo_r0 hw | exact wo_r1 hw | exact wo_r2 hw | exact wo_r3 hw | exact wo_a1 hw | exact wo_a2 hw | exact wo_a3 hw | exact wo_a4 hw | exact wo_rr hw (by omega) | exact wo_ra hw (by omega) | exact wo_cr hw (by omega) | exact wo_ca hw (by omega)) ?_
      refine gf_X6_81 rfl dX6_changeGuards_29 (by first | assumption | exact wo_a hw | exact wo_r0 hw | exact wo_r1 hw | exact wo_r2 hw | exact wo_r3 hw | exact wo_a1 hw | exact wo_a2 hw | exact wo_a3 hw | exact wo_a4 hw | exact wo_rr hw (by omega) | exact wo_ra hw (by omega) | exact wo_cr hw (by omega) | exact wo_ca hw (by omega)) ?_
      rw [e3]
      refine px_istore_3 dX6_changeGuards_32 rfl ?_
      refine px_aload_0 dX6_changeGuards_33 ?_
      refine cd_X6_131 rfl ⟨⟨Nat.le_of_ble_eq_true rfl, Nat.le_of_ble_eq_true rfl⟩, Nat.le_of_ble_eq_true rfl, Nat.le_of_ble_eq_true rfl, Nat.le_of_ble_eq_true rfl⟩ (by first | assumption | exact wo_a hw | exact wo_r0 hw | exact wo_r1 hw | exact wo_r2 hw | exact wo_r3 hw | exact wo_a1 hw | exact wo_a2 hw | exact wo_a3 hw | exact wo_a4 hw | exact wo_rr hw (by omega) | exact wo_ra hw (by omega) | exact wo_cr hw (by omega) | exact wo_ca hw (by omega)) dX6_changeGuards_34 (s_X6_guardsAtRoads hw hA hV) ?_
      refine px_iload_3 dX6_changeGuards_37 ?_
      refine px_isub dX6_changeGuards_38 ?_
      refine px_iload_2 dX6_changeGuards_39 ?_
      refine px_iadd dX6_changeGuards_40 ?_
      refine px_aload_0 dX6_changeGuards_41 ?_
      refine gf_X6_9 rfl dX6_changeGuards_42 (by first | assumption | exact wo_a hw | exact wo_r0 hw | exact wo_r1 hw | exact wo_r2 hw | exact wo_r3 hw | exact wo_a1 hw | exact wo_a2 hw | exact wo_a3 hw | exact wo_a4 hw | exact wo_rr hw (by omega) | exact wo_ra hw (by omega) | exact wo_cr hw (by omega) | exact wo_ca hw (by omega)) (by first | assumption | exact wo_a hw | exact wo_r0 hw | exact wo_r1 hw | exact wo_r2 hw | exact wo_r3 hw | exact wo_a1 hw | exact wo_a2 hw | exact wo_a3 hw | exact wo_a4 hw | exact wo_rr hw (by omega) | exact wo_ra hw (by omega) | exact wo_cr hw (by omega) | exact wo_ca hw (by omega)) ?_
      refine px_iconst (3) dX6_changeGuards_45 rfl ?_
      refine px_ialdN dX6_changeGuards_46 (by first | assumption | exact wo_a hw | exact wo_r0 hw | exact wo_r1 hw | exact wo_r2 hw | exact wo_r3 hw | exact wo_a1 hw | exact wo_a2 hw | exact wo_a3 hw | exact wo_a4 hw | exact wo_rr hw (by omega) | exact wo_ra hw (by omega) | exact wo_cr hw (by omega) | exact wo_ca hw (by omega)) (by first | rfl | exact ix_eq (by assumption)) (by first | decide | omega) ?_
      rw [ag_st hA (by decide)]
      refine px_icmp_le (tgt := 53) dX6_changeGuards_47 (by decide) (fun h47 => ?_) (fun h47 => ?_)
      · skip
        refine px_aload_0 dX6_changeGuards_53 ?_
        refine gf_X6_20 rfl dX6_changeGuards_54 (by first | assumption | exact wo_a hw | exact wo_r0 hw | exact wo_r1 hw | exact wo_r2 hw | exact wo_r3 hw | exact wo_a1 hw | exact wo_a2 hw | exact wo_a3 hw | exact wo_a4 hw | exact wo_rr hw (by omega) | exact wo_ra hw (by omega) | exact wo_cr hw (by omega) | exact wo_ca hw (by omega)) (by first | assumption | exact wo_a hw | exact wo_r0 hw | exact wo_r1 hw | exact wo_r2 hw | exact wo_r3 hw | exact wo_a1 hw | exact wo_a2 hw | exact wo_a3 hw | exact wo_a4 hw | exact wo_rr hw (by omega) | exact wo_ra hw (by omega) | exact wo_cr hw (by omega) | exact wo_ca hw (by omega)) ?_
        refine px_iload_1 dX6_changeGuards_57 ?_
        refine px_aaldN dX6_changeGuards_58 (by first | assumption | exact wo_a hw | exact wo_r0 hw | exact wo_r1 hw | exact wo_r2 hw | exact wo_r3 hw | exact wo_a1 hw | exact wo_a2 hw | exact wo_a3 hw | exact wo_a4 hw | exact wo_rr hw (by omega) | exact wo_ra hw (by omega) | exact wo_cr hw (by omega) | exact wo_ca hw (by omega)) (by exact ha) (by omega) (by first | assumption | exact wo_a hw | exact wo_r0 hw | exact wo_r1 hw | exact wo_r2 hw | exact wo_r3 hw | exact wo_a1 hw | exact wo_a2 hw | exact wo_a3 hw | exact wo_a4 hw | exact wo_rr hw (by omega) | exact wo_ra hw (by omega) | exact wo_cr hw (by omega) | exact wo_ca hw (by omega)) ?_
        refine px_iload_2 dX6_changeGuards_59 ?_
        refine pf_X6_81 rfl dX6_changeGuards_60 (by first | assumption | exact wo_a hw | exact wo_r0 hw | exact wo_r1 hw | exact wo_r2 hw | exact wo_r3 hw | exact wo_a1 hw | exact wo_a2 hw | exact wo_a3 hw | exact wo_a4 hw | exact wo_rr hw (by omega) | exact wo_ra hw (by omega) | exact wo_cr hw (by omega) | exact wo_ca hw (by omega)) ?_
        refine px_iload_3 dX6_changeGuards_63 ?_
        refine px_iret dX6_changeGuards_64 ?_
        exact px_Q1_ok (by clear hA hV hw; grind [f_guard]) (by rw [show f_guard σ a b = (σ (9 + 6 * ix a + 3), upd σ (9 + 6 * ix a + 3) b) by clear hA hV hw; grind [f_guard]]; exact ag_up_road hA (by omega) (by decide)) (fun x hx => px_up_ne (by omega))
      · skip
        refine px_bipush (-5) dX6_changeGuards_50 rfl ?_
        refine px_iret dX6_changeGuards_52 ?_
        exact px_Q1_err (by clear hA hV hw; grind [f_guard]) hA
    · skip
      refine px_bipush (-2) dX6_changeGuards_20 rfl ?_
      refine px_iret dX6_changeGuards_22 ?_
      exact px_Q1_err (by clear hA hV hw; grind [f_guard]) hA
  · skip
    refine px_aload_0 dX6_changeGuards_0 ?_
    refine px_iload_1 dX6_changeGuards_1 ?_
    refine cd_X6_142 rfl ⟨⟨Nat.le_of_ble_eq_true rfl, Nat.le_of_ble_eq_true rfl⟩, Nat.le_of_ble_eq_true rfl, Nat.le_of_ble_eq_true rfl, Nat.le_of_ble_eq_true rfl⟩ (by first | assumption | exact wo_a hw | exact wo_r0 hw | exact wo_r1 hw | exact wo_r2 hw | exact wo_r3 hw | exact wo_a1 hw | exact wo_a2 hw | exact wo_a3 hw | exact wo_a4 hw | exact wo_rr hw (by omega) | exact wo_ra hw (by omega) | exact wo_cr hw (by omega) | exact wo_ca hw (by omega)) dX6_changeGuards_2 (s_X6_hasRoad hw hA) ?_
    refine px_ifb_ne (tgt := 10) dX6_changeGuards_5 (by decide) (fun h5 => (by first | exact absurd h5 (hr) | exact absurd (hr) h5)) (fun h5 => ?_)
    refine px_iconst (-1) dX6_changeGuards_8 rfl ?_
    refine px_iret dX6_changeGuards_9 ?_
    exact px_Q1_err (by clear hA hV hw; grind [f_guard]) hA
theorem s_X6_changeToll {a b : Int32} (hw : px_wo G T R w) (hA : px_ag I w σ) (hV : px_V σ) : px_C l G 2 0 0 mX6_changeToll [.ref w, .int a, .int b] (T, I, J, R) (px_Q1 T I J R w (f_toll σ a b)) := by
  refine px_met (M := mX6_changeToll) ([some (.ref w), some (.int a), some (.int b), none]) (by decide +kernel) rfl (Nat.le_of_ble_eq_true rfl) rfl ?_
  by_cases hr : rg a 0 (σ 8 - 1)
  · obtain ⟨ha, hl, h14⟩ := rd_lt hV hr
    have e3 : I (w + 5 + ix a) 2 = σ (9 + 6 * ix a + 2) := ag_rd hA hl (by decide)
    refine px_aload_0 dX6_changeToll_0 ?_
    refine px_iload_1 dX6_changeToll_1 ?_
    refine cd_X6_142 rfl ⟨⟨Nat.le_of_ble_eq_true rfl, Nat.le_of_ble_eq_true rfl⟩, Nat.le_of_ble_eq_true rfl, Nat.le_of_ble_eq_true rfl, Nat.le_of_ble_eq_true rfl⟩ (by first | assumption | exact wo_a hw | exact wo_r0 hw | exact wo_r1 hw | exact wo_r2 hw | exact wo_r3 hw | exact wo_a1 hw | exact wo_a2 hw | exact wo_a3 hw | exact wo_a4 hw | exact wo_rr hw (by omega) | exact wo_ra hw (by omega) | exact wo_cr hw (by omega) | exact wo_ca hw (by omega)) dX6_changeToll_2 (s_X6_hasRoad hw hA) ?_
    refine px_ifb_ne (tgt := 10) dX6_changeToll_5 (by decide) (fun h5 => ?_) (fun h5 => (by first | exact absurd (hr) h5 | exact absurd h5 (hr)))
    refine px_iload_2 dX6_changeToll_10 ?_
    refine px_iconst (0) dX6_changeToll_11 rfl ?_
    refine px_sipush (200) dX6_changeToll_12 rfl ?_
    refine cd_X6_70 rfl ⟨⟨Nat.le_of_ble_eq_true rfl, Nat.le_of_ble_eq_true rfl⟩, Nat.le_of_ble_eq_true rfl, Nat.le_of_ble_eq_true rfl, Nat.le_of_ble_eq_true rfl⟩ dX6_changeToll_15 (s_X7_isOutside) ?_
    refine px_ifb_eq (tgt := 24) dX6_changeToll_18 (by decide) (fun h18 => ?_) (fun h18 => ?_)
    · skip
      refine px_aload_0 dX6_changeToll_24 ?_
      refine gf_X6_20 rfl dX6_changeToll_25 (by first | assumption | exact wo_a hw | exact wo_r0 hw | exact wo_r1 hw | exact wo_r2 hw | exact wo_r3 hw | exact wo_a1 hw | exact wo_a2 hw | exact wo_a3 hw | exact wo_a4 hw | exact wo_rr hw (by omega) | exact wo_ra hw (by omega) | exact wo_cr hw (by omega) | exact wo_ca hw (by omega)) (by first | assumption | exact wo_a hw | exact wo_r0 hw | exact wo_r1 hw | exact wo_r2 hw | exact wo_r3 hw | exact wo_a1 hw | exact wo_a2 hw | exact wo_a3 hw | exact wo_a4 hw | exact wo_rr hw (by omega) | exact wo_ra hw (by omega) | exact wo_cr hw (by omega) | exact wo_ca hw (by omega)) ?_
      refine px_iload_1 dX6_changeToll_28 ?_
      refine px_aaldN dX6_changeToll_29 (by first | assumption | exact wo_a hw | exact wo_r0 hw | exact wo_r1 hw | exact wo_r2 hw | exact wo_r3 hw | exact wo_a1 hw | exact wo_a2 hw | exact wo_a3 hw | exact wo_a4 hw | exact wo_rr hw (by omega) | exact wo_ra hw (by omega) | exact wo_cr hw (by omega) | exact wo_ca hw (by omega)) (by exact ha) (by omega) (by first | assumption | exact wo_a hw | exact wo_r0 hw | exact wo_r1 hw | exact wo_r2 hw | exact wo_r3 hw | exact wo_a1 hw | exact wo_a2 hw | exact wo_a3 hw | exact wo_a4 hw | exact wo_rr hw (by omega) | exact wo_ra hw (by omega) | exact wo_cr hw (by omega) | exact wo_ca hw (by omega)) ?_
      refine gf_X6_100 rfl dX6_changeToll_30 (by first | assumption | exact wo_a hw | exact wo_r0 hw | exact wo_r1 hw | exact wo_r2 hw | exact wo_r3 hw | exact wo_a1 hw | exact wo_a2 hw | exact wo_a3 hw | exact wo_a4 hw | exact wo_rr hw (by omega) | exact wo_ra hw (by omega) | exact wo_cr hw (by omega) | exact wo_ca hw (by omega)) ?_
      rw [e3]
      refine px_istore_3 dX6_changeToll_33 rfl ?_
      refine px_aload_0 dX6_changeToll_34 ?_
      refine gf_X6_20 rfl dX6_changeToll_35 (by first | assumption | exact wo_a hw | exact wo_r0 hw | exact wo_r1 hw | exact wo_r2 hw | exact wo_r3 hw | exact wo_a1 hw | exact wo_a2 hw | exact wo_a3 hw | exact wo_a4 hw | exact wo_rr hw (by omega) | exact wo_ra hw (by omega) | exact wo_cr hw (by omega) | exact wo_ca hw (by omega)) (by first | assumption | exact wo_a hw | exact wo_r0 hw | exact wo_r1 hw | exact wo_r2 hw | exact wo_r3 hw | exact wo_a1 hw | exact wo_a2 hw | exact wo_a3 hw | exact wo_a4 hw | exact wo_rr hw (by omega) | exact wo_ra hw (by omega) | exact wo_cr hw (by omega) | exact wo_ca hw (by omega)) ?_
      refine px_iload_1 dX6_changeToll_38 ?_
      refine px_aaldN dX6_changeToll_39 (by first | assumption | exact wo_a hw | exact wo_r0 hw | exact wo_r1 hw | exact wo_r2 hw | exact wo_r3 hw | exact wo_a1 hw | exact wo_a2 hw | exact wo_a3 hw | exact wo_a4 hw | exact wo_rr hw (by omega) | exact wo_ra hw (by omega) | exact wo_cr hw (by omega) | exact wo_ca hw (by omega)) (by exact ha) (by omega) (by first | assumption | exact wo_a hw | exact wo_r0 hw | exact wo_r1 hw | exact wo_r2 hw | exact wo_r3 hw | exact wo_a1 hw | exact wo_a2 hw | exact wo_a3 hw | exact wo_a4 hw | exact wo_rr hw (by omega) | exact wo_ra hw (by omega) | exact wo_cr hw (by omega) | exact wo_ca hw (by omega)) ?_
      refine px_iload_2 dX6_changeToll_40 ?_
      refine pf_X6_100 rfl dX6_changeToll_41 (by first | assumption | exact wo_a hw | exact wo_r0 hw | exact wo_r1 hw | exact wo_r2 hw | exact wo_r3 hw | exact wo_a1 hw | exact wo_a2 hw | exact wo_a3 hw | exact wo_a4 hw | exact wo_rr hw (by omega) | exact wo_ra hw (by omega) | exact wo_cr hw (by omega) | exact wo_ca hw (by omega)) ?_
      refine px_iload_3 dX6_changeToll_44 ?_
      refine px_iret dX6_changeToll_45 ?_
      exact px_Q1_ok (by clear hA hV hw; grind [f_toll]) (by rw [show f_toll σ a b = (σ (9 + 6 * ix a + 2), upd σ (9 + 6 * ix a + 2) b) by clear hA hV hw; grind [f_toll]]; exact ag_up_road hA (by omega) (by decide)) (fun x hx => px_up_ne (by omega))
    · skip
      refine px_bipush (-2) dX6_changeToll_21 rfl ?_
      refine px_iret dX6_changeToll_23 ?_
      exact px_Q1_err (by clear hA hV hw; grind [f_toll]) hA
  · skip
    refine px_aload_0 dX6_changeToll_0 ?_
    refine px_iload_1 dX6_changeToll_1 ?_
    refine cd_X6_142 rfl ⟨⟨Nat.le_of_ble_eq_true rfl, Nat.le_of_ble_eq_true rfl⟩, Nat.le_of_ble_eq_true rfl, Nat.le_of_ble_eq_true rfl, Nat.le_of_ble_eq_true rfl⟩ (by first | assumption | exact wo_a hw | exact wo_r0 hw | exact wo_r1 hw | exact wo_r2 hw | exact wo_r3 hw | exact wo_a1 hw | exact wo_a2 hw | exact wo_a3 hw | exact wo_a4 hw | exact wo_rr hw (by omega) | exact wo_ra hw (by omega) | exact wo_cr hw (by omega) | exact wo_ca hw (by omega)) dX6_changeToll_2 (s_X6_hasRoad hw hA) ?_
    refine px_ifb_ne (tgt := 10) dX6_changeToll_5 (by decide) (fun h5 => (by first | exact absurd h5 (hr) | exact absurd (hr) h5)) (fun h5 => ?_)
    refine px_iconst (-1) dX6_changeToll_8 rfl ?_
    refine px_iret dX6_changeToll_9 ?_
    exact px_Q1_err (by clear hA hV hw; grind [f_toll]) hA
theorem nI_succ8 {n : Nat} (h : n < 1000) : ix (nI n + 1) = n + 1 := by rw [nI_1, ix_nI (by omega)]
/-- a road more: the world -/
theorem ag_road (hA : px_ag I w σ) (hV : px_V σ) (h14 : f_nr σ < 14) {a b t : Int32} : px_ag (px_up (px_up (px_up (px_up (px_up (px_up (px_up I (w + 5 + f_nr σ) 0 a) (w + 5 + f_nr σ) 1 b) (w + 5 + f_nr σ) 2 t) (w + 5 + f_nr σ) 3 0) (w + 5 + f_nr σ) 4 0) (w + 5 + f_nr σ) 5 0) w 4 (σ 8 + 1)) w (upd (upd (upd (upd σ (9 + 6 * f_nr σ + 0) a) (9 + 6 * f_nr σ + 1) b) (9 + 6 * f_nr σ + 2) t) 8 (σ 8 + 1)) := by
  have hst := hV.2.2.1
  have en := hV.1.1
  obtain ⟨h1, h2, h3, h4, h5, h6⟩ := hA
  have hnr : f_nr (upd (upd (upd (upd σ (9 + 6 * f_nr σ + 0) a) (9 + 6 * f_nr σ + 1) b) (9 + 6 * f_nr σ + 2) t) 8 (σ 8 + 1)) = f_nr σ + 1 := by
    show ix (upd _ 8 _ 8) = _
    rw [upd_eq rfl, en, nI_succ8 (by omega)]
  generalize f_nr σ = N at *
  have hnc : f_nc (upd (upd (upd (upd σ (9 + 6 * N + 0) a) (9 + 6 * N + 1) b) (9 + 6 * N + 2) t) 8 (σ 8 + 1)) = f_nc σ := by
    rw [nc_upd (by omega), nc_upd (by omega), nc_upd (by omega), nc_upd (by omega)]
  refine ⟨fun j' hj' => ?_, fun t ht => ?_, ⟨?_, ?_⟩, ⟨?_, ?_, ?_, ?_, ?_⟩, fun r' hr' j' hj' => ?_, fun c hc j' hj' => ?_⟩
  · simp only [px_up_at, upd]; (repeat (first | rw [if_pos (by omega)] | rw [if_neg (by omega)] | rw [if_pos (by simp; done)] | rw [if_neg (by simp; done)])); exact h1 j' hj'
  · simp only [px_up_at, upd]; (repeat (first | rw [if_pos (by omega)] | rw [if_neg (by omega)] | rw [if_pos (by simp; done)] | rw [if_neg (by simp; done)])); exact h2 t ht
  · rw [px_up_self, upd_eq rfl]
  · simp only [px_up_at, upd]; (repeat (first | rw [if_pos (by omega)] | rw [if_neg (by omega)] | rw [if_pos (by simp; done)] | rw [if_neg (by simp; done)])); exact h3.2
  · simp only [px_up_at, upd]; (repeat (first | rw [if_pos (by omega)] | rw [if_neg (by omega)] | rw [if_pos (by simp; done)] | rw [if_neg (by simp; done)])); exact h4.1
  · simp only [px_up_at, upd]; (repeat (first | rw [if_pos (by omega)] | rw [if_neg (by omega)] | rw [if_pos (by simp; done)] | rw [if_neg (by simp; done)])); exact h4.2.1
  · simp only [px_up_at, upd]; (repeat (first | rw [if_pos (by omega)] | rw [if_neg (by omega)] | rw [if_pos (by simp; done)] | rw [if_neg (by simp; done)])); exact h4.2.2.1
  · simp only [px_up_at, upd]; (repeat (first | rw [if_pos (by omega)] | rw [if_neg (by omega)] | rw [if_pos (by simp; done)] | rw [if_neg (by simp; done)])); exact h4.2.2.2.1
  · simp only [px_up_at, upd]; (repeat (first | rw [if_pos (by omega)] | rw [if_neg (by omega)] | rw [if_pos (by simp; done)] | rw [if_neg (by simp; done)])); exact h4.2.2.2.2
  · rw [hnr] at hr'
    by_cases e : r' = N
    · subst e
      have z : ∀ q, q < 6 → σ (9 + 6 * r' + q) = 0 := fun q hq => hst r' q (Nat.le_refl _) h14 hq
      simp only [px_up_at, upd]
      rcases (by omega : j' = 0 ∨ j' = 1 ∨ j' = 2 ∨ j' = 3 ∨ j' = 4 ∨ j' = 5) with rfl | rfl | rfl | rfl | rfl | rfl <;> (repeat (first | rw [if_pos (by omega)] | rw [if_neg (by omega)] | rw [if_pos (by simp; done)] | rw [if_neg (by simp; done)]))
      · exact (z 3 (by decide)).symm
      · exact (z 4 (by decide)).symm
      · exact (z 5 (by decide)).symm
    · simp only [px_up_at, upd]; (repeat (first | rw [if_pos (by omega)] | rw [if_neg (by omega)] | rw [if_pos (by simp; done)] | rw [if_neg (by simp; done)])); exact h5 r' (by omega) j' hj'
  · rw [hnc] at hc
    simp only [px_up_at, upd]; (repeat (first | rw [if_pos (by omega)] | rw [if_neg (by omega)] | rw [if_pos (by simp; done)] | rw [if_neg (by simp; done)])); exact h6 c hc j' hj'
theorem s_X6_addRoad {a b t : Int32} (hw : px_wo G T R w) (hA : px_ag I w σ) (hV : px_V σ) : px_C l G 2 0 0 mX6_addRoad [.ref w, .int a, .int b, .int t] (T, I, J, R) (px_Q1 T I J R w (f_road σ a b t)) := by
  have e4 := ag_n4 hA hV
  have e8 := hV.1.1
  have h14 := hV.1.2.1
  have i14 : ∀ {n : Nat}, n < 1000 → ((nI n < 14) ↔ n < 14) := fun {n} h => nI_ltI (b := 14) (by omega) (by omega)
  refine px_met (M := mX6_addRoad) ([some (.ref w), some (.int a), some (.int b), some (.int t)]) (by decide +kernel) rfl (Nat.le_of_ble_eq_true rfl) rfl ?_
  refine px_iload_1 dX6_addRoad_0 ?_
  refine cd_X6_135 rfl ⟨⟨Nat.le_of_ble_eq_true rfl, Nat.le_of_ble_eq_true rfl⟩, Nat.le_of_ble_eq_true rfl, Nat.le_of_ble_eq_true rfl, Nat.le_of_ble_eq_true rfl⟩ dX6_addRoad_1 (s_X7_isTown) ?_
  refine px_ifb_eq (tgt := 14) dX6_addRoad_4 (by decide) (fun h4 => ?_) (fun h4 => ?_)
  · skip
    refine px_iconst (-1) dX6_addRoad_14 rfl ?_
    refine px_iret dX6_addRoad_15 ?_
    exact px_Q1_err (by clear hA hV hw; grind [f_road]) hA
  · skip
    refine px_iload_2 dX6_addRoad_7 ?_
    refine cd_X6_135 rfl ⟨⟨Nat.le_of_ble_eq_true rfl, Nat.le_of_ble_eq_true rfl⟩, Nat.le_of_ble_eq_true rfl, Nat.le_of_ble_eq_true rfl, Nat.le_of_ble_eq_true rfl⟩ dX6_addRoad_8 (s_X7_isTown) ?_
    refine px_ifb_ne (tgt := 16) dX6_addRoad_11 (by decide) (fun h11 => ?_) (fun h11 => ?_)
    · skip
      refine px_iload_1 dX6_addRoad_16 ?_
      refine px_iload_2 dX6_addRoad_17 ?_
      refine px_icmp_eq (tgt := 32) dX6_addRoad_18 (by decide) (fun h18 => ?_) (fun h18 => ?_)
      · skip
        refine px_bipush (-2) dX6_addRoad_32 rfl ?_
        refine px_iret dX6_addRoad_34 ?_
        exact px_Q1_err (by clear hA hV hw; grind [f_road]) hA
      · skip
        refine px_iload_3 dX6_addRoad_21 ?_
        refine px_iconst (0) dX6_addRoad_22 rfl ?_
        refine px_sipush (200) dX6_addRoad_23 rfl ?_
        refine cd_X6_70 rfl ⟨⟨Nat.le_of_ble_eq_true rfl, Nat.le_of_ble_eq_true rfl⟩, Nat.le_of_ble_eq_true rfl, Nat.le_of_ble_eq_true rfl, Nat.le_of_ble_eq_true rfl⟩ dX6_addRoad_26 (s_X7_isOutside) ?_
        refine px_ifb_eq (tgt := 35) dX6_addRoad_29 (by decide) (fun h29 => ?_) (fun h29 => ?_)
        · skip
          refine px_aload_0 dX6_addRoad_35 ?_
          refine gf_X6_30 rfl dX6_addRoad_36 (by first | assumption | exact wo_a hw | exact wo_r0 hw | exact wo_r1 hw | exact wo_r2 hw | exact wo_r3 hw | exact wo_a1 hw | exact wo_a2 hw | exact wo_a3 hw | exact wo_a4 hw | exact wo_rr hw (by omega) | exact wo_ra hw (by omega) | exact wo_cr hw (by omega) | exact wo_ca hw (by omega)) ?_
          refine px_bipush (14) dX6_addRoad_39 rfl ?_
          refine px_icmp_lt (tgt := 47) dX6_addRoad_41 (by decide) (fun h41 => ?_) (fun h41 => ?_)
          · skip
            rw [e4, i14 (by omega)] at h41
            refine px_aload_0 dX6_addRoad_47 ?_
            refine gf_X6_20 rfl dX6_addRoad_48 (by first | assumption | exact wo_a hw | exact wo_r0 hw | exact wo_r1 hw | exact wo_r2 hw | exact wo_r3 hw | exact wo_a1 hw | exact wo_a2 hw | exact wo_a3 hw | exact wo_a4 hw | exact wo_rr hw (by omega) | exact wo_ra hw (by omega) | exact wo_cr hw (by omega) | exact wo_ca hw (by omega)) (by first | assumption | exact wo_a hw | exact wo_r0 hw | exact wo_r1 hw | exact wo_r2 hw | exact wo_r3 hw | exact wo_a1 hw | exact wo_a2 hw | exact wo_a3 hw | exact wo_a4 hw | exact wo_rr hw (by omega) | exact wo_ra hw (by omega) | exact wo_cr hw (by omega) | exact wo_ca hw (by omega)) ?_
            refine px_aload_0 dX6_addRoad_51 ?_
            refine gf_X6_30 rfl dX6_addRoad_52 (by first | assumption | exact wo_a hw | exact wo_r0 hw | exact wo_r1 hw | exact wo_r2 hw | exact wo_r3 hw | exact wo_a1 hw | exact wo_a2 hw | exact wo_a3 hw | exact wo_a4 hw | exact wo_rr hw (by omega) | exact wo_ra hw (by omega) | exact wo_cr hw (by omega) | exact wo_ca hw (by omega)) ?_
            refine px_aaldN dX6_addRoad_55 (by first | assumption | exact wo_a hw | exact wo_r0 hw | exact wo_r1 hw | exact wo_r2 hw | exact wo_r3 hw | exact wo_a1 hw | exact wo_a2 hw | exact wo_a3 hw | exact wo_a4 hw | exact wo_rr hw (by omega) | exact wo_ra hw (by omega) | exact wo_cr hw (by omega) | exact wo_ca hw (by omega)) (by exact e4) (by omega) (by first | assumption | exact wo_a hw | exact wo_r0 hw | exact wo_r1 hw | exact wo_r2 hw | exact wo_r3 hw | exact wo_a1 hw | exact wo_a2 hw | exact wo_a3 hw | exact wo_a4 hw | exact wo_rr hw (by omega) | exact wo_ra hw (by omega) | exact wo_cr hw (by omega) | exact wo_ca hw (by omega)) ?_
            refine px_iload_1 dX6_addRoad_56 ?_
            refine px_iload_2 dX6_addRoad_57 ?_
            refine px_iload_3 dX6_addRoad_58 ?_
            refine cd_X6_138 rfl ⟨⟨Nat.le_of_ble_eq_true rfl, Nat.le_of_ble_eq_true rfl⟩, Nat.le_of_ble_eq_true rfl, Nat.le_of_ble_eq_true rfl, Nat.le_of_ble_eq_true rfl⟩ (by first | assumption | exact wo_a hw | exact wo_r0 hw | exact wo_r1 hw | exact wo_r2 hw | exact wo_r3 hw | exact wo_a1 hw | exact wo_a2 hw | exact wo_a3 hw | exact wo_a4 hw | exact wo_rr hw (by omega) | exact wo_ra hw (by omega) | exact wo_cr hw (by omega) | exact wo_ca hw (by omega)) dX6_addRoad_59 (s_X4_begin (wo_ra hw (by omega))) ?_
            refine px_aload_0 dX6_addRoad_62 ?_
            refine px_dup dX6_addRoad_63 rfl ?_
            refine gf_X6_30 rfl dX6_addRoad_64 (by first | assumption | exact wo_a hw | exact wo_r0 hw | exact wo_r1 hw | exact wo_r2 hw | exact wo_r3 hw | exact wo_a1 hw | exact wo_a2 hw | exact wo_a3 hw | exact wo_a4 hw | exact wo_rr hw (by omega) | exact wo_ra hw (by omega) | exact wo_cr hw (by omega) | exact wo_ca hw (by omega)) ?_
            rw [px_up_ne (by omega), px_up_ne (by omega), px_up_ne (by omega), px_up_ne (by omega), px_up_ne (by omega), px_up_ne (by omega), hA.2.2.1.1]
            refine px_iconst (1) dX6_addRoad_67 rfl ?_
            refine px_iadd dX6_addRoad_68 ?_
            refine pf_X6_30 rfl dX6_addRoad_69 (by first | assumption | exact wo_a hw | exact wo_r0 hw | exact wo_r1 hw | exact wo_r2 hw | exact wo_r3 hw | exact wo_a1 hw | exact wo_a2 hw | exact wo_a3 hw | exact wo_a4 hw | exact wo_rr hw (by omega) | exact wo_ra hw (by omega) | exact wo_cr hw (by omega) | exact wo_ca hw (by omega)) ?_
            refine px_aload_0 dX6_addRoad_72 ?_
            refine gf_X6_30 rfl dX6_addRoad_73 (by first | assumption | exact wo_a hw | exact wo_r0 hw | exact wo_r1 hw | exact wo_r2 hw | exact wo_r3 hw | exact wo_a1 hw | exact wo_a2 hw | exact wo_a3 hw | exact wo_a4 hw | exact wo_rr hw (by omega) | exact wo_ra hw (by omega) | exact wo_cr hw (by omega) | exact wo_ca hw (by omega)) ?_
            rw [px_up_self]
            refine px_iconst (1) dX6_addRoad_76 rfl ?_
            refine px_isub dX6_addRoad_77 ?_
            refine px_iret dX6_addRoad_78 ?_
            (rw [Int32.add_sub_cancel]; have hf : f_road σ a b t = (σ 8, upd (upd (upd (upd σ (9 + 6 * f_nr σ + 0) a) (9 + 6 * f_nr σ + 1) b) (9 + 6 * f_nr σ + 2) t) 8 (σ 8 + 1)) := (by clear hA hV hw; grind [f_road]); exact px_Q1_ok (by rw [hf]) (by rw [hf]; exact ag_road hA hV (by omega)) (fun x hx => by rw [px_up_ne (by omega), px_up_ne (by omega), px_up_ne (by omega), px_up_ne (by omega), px_up_ne (by omega), px_up_ne (by omega), px_up_ne (by omega)]))
          · skip
            refine px_bipush (-4) dX6_addRoad_44 rfl ?_
            refine px_iret dX6_addRoad_46 ?_
            exact px_Q1_err (by rw [e4, i14 (by omega)] at h41; have : f_nr σ = 14 := (by omega); clear hA hV hw; grind [f_road]) hA
        · skip
          refine px_bipush (-2) dX6_addRoad_32 rfl ?_
          refine px_iret dX6_addRoad_34 ?_
          exact px_Q1_err (by clear hA hV hw; grind [f_road]) hA
    · skip
      refine px_iconst (-1) dX6_addRoad_14 rfl ?_
      refine px_iret dX6_addRoad_15 ?_
      exact px_Q1_err (by clear hA hV hw; grind [f_road]) hA
end WO

