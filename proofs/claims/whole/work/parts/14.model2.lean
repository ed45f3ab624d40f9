section MM
variable {l : Launch} {G : px_G} {T : px_T} {I : px_I} {J : px_J} {R : px_R} {μ : px_M} {m : Nat}
theorem s_X8_addsRoad {a b t : Int32} (hm : px_mo G T R m) (hV : px_V (I (m + 1))) : px_K l G 2 mX8_addsRoad ([.ref m, .int a, .int b, .int t]) ((T, I, J, R)) (some (.int (f_road (I (m + 1)) a b t).1)) ((T, px_set I (m + 1) (f_road (I (m + 1)) a b t).2, J, R)) := by
  have e8 := hV.1.1
  have h14 := hV.1.2.1
  have i14 : I (m + 1) 8 = 14 ↔ f_nr (I (m + 1)) = 14 := by rw [e8, show (14 : Int32) = nI 14 from rfl, nI_eq (by omega) (by omega)]
  refine px_met (M := mX8_addsRoad) ([some (.ref m), some (.int a), some (.int b), some (.int t), none]) (by decide +kernel) rfl (Nat.le_of_ble_eq_true rfl) rfl ?_
  by_cases hr : rg a 0 7
  · by_cases hb : rg b 0 7
    · by_cases hab : a = b
      · have hf : f_road (I (m + 1)) a b t = (-2, I (m + 1)) := by clear hV e8; grind [f_road]
        rw [hf, mem_id]
        refine px_iload_1 dX8_addsRoad_0 ?_
        refine cd_X8_108 rfl ⟨⟨Nat.le_of_ble_eq_true rfl, Nat.le_of_ble_eq_true rfl⟩, Nat.le_of_ble_eq_true rfl, Nat.le_of_ble_eq_true rfl, Nat.le_of_ble_eq_true rfl⟩ dX8_addsRoad_1 (s_X8_isTown) ?_
        refine px_ifb_eq (tgt := 14) dX8_addsRoad_4 (by decide) (fun h4 => (by first | exact absurd h4 (hr) | exact absurd (hr) h4)) (fun h4 => ?_)
        refine px_iload_2 dX8_addsRoad_7 ?_
        refine cd_X8_108 rfl ⟨⟨Nat.le_of_ble_eq_true rfl, Nat.le_of_ble_eq_true rfl⟩, Nat.le_of_ble_eq_true rfl, Nat.le_of_ble_eq_true rfl, Nat.le_of_ble_eq_true rfl⟩ dX8_addsRoad_8 (s_X8_isTown) ?_
        refine px_ifb_ne (tgt := 16) dX8_addsRoad_11 (by decide) (fun h11 => ?_) (fun h11 => (by first | exact absurd (hb) h11 | exact absurd h11 (hb)))
        refine px_iload_1 dX8_addsRoad_16 ?_
        refine px_iload_2 dX8_addsRoad_17 ?_
        refine px_icmp_eq (tgt := 32) dX8_addsRoad_18 (by decide) (fun h18 => ?_) (fun h18 => (by first | exact absurd (hab) h18 | exact absurd h18 (hab)))
        refine px_bipush (-2) dX8_addsRoad_32 rfl ?_
        refine px_iret dX8_addsRoad_34 ?_
        exact ⟨rfl, rfl⟩
      · by_cases ht : rg t 0 200
        · by_cases h15 : f_nr (I (m + 1)) = 14
          · have hf : f_road (I (m + 1)) a b t = (-4, I (m + 1)) := by clear hV e8 i14; grind [f_road]
            rw [hf, mem_id]
            refine px_iload_1 dX8_addsRoad_0 ?_
            refine cd_X8_108 rfl ⟨⟨Nat.le_of_ble_eq_true rfl, Nat.le_of_ble_eq_true rfl⟩, Nat.le_of_ble_eq_true rfl, Nat.le_of_ble_eq_true rfl, Nat.le_of_ble_eq_true rfl⟩ dX8_addsRoad_1 (s_X8_isTown) ?_
            refine px_ifb_eq (tgt := 14) dX8_addsRoad_4 (by decide) (fun h4 => (by first | exact absurd h4 (hr) | exact absurd (hr) h4)) (fun h4 => ?_)
            refine px_iload_2 dX8_addsRoad_7 ?_
            refine cd_X8_108 rfl ⟨⟨Nat.le_of_ble_eq_true rfl, Nat.le_of_ble_eq_true rfl⟩, Nat.le_of_ble_eq_true rfl, Nat.le_of_ble_eq_true rfl, Nat.le_of_ble_eq_true rfl⟩ dX8_addsRoad_8 (s_X8_isTown) ?_
            refine px_ifb_ne (tgt := 16) dX8_addsRoad_11 (by decide) (fun h11 => ?_) (fun h11 => (by first | exact absurd (hb) h11 | exact absurd h11 (hb)))
            refine px_iload_1 dX8_addsRoad_16 ?_
            refine px_iload_2 dX8_addsRoad_17 ?_
            refine px_icmp_eq (tgt := 32) dX8_addsRoad_18 (by decide) (fun h18 => (by first | exact absurd h18 (hab) | exact absurd (hab) h18)) (fun h18 => ?_)
            refine px_iload_3 dX8_addsRoad_21 ?_
            refine px_iconst (0) dX8_addsRoad_22 rfl ?_
            refine px_sipush (200) dX8_addsRoad_23 rfl ?_
            refine cd_X8_29 rfl ⟨⟨Nat.le_of_ble_eq_true rfl, Nat.le_of_ble_eq_true rfl⟩, Nat.le_of_ble_eq_true rfl, Nat.le_of_ble_eq_true rfl, Nat.le_of_ble_eq_true rfl⟩ dX8_addsRoad_26 (s_X8_in) ?_
            refine px_ifb_ne (tgt := 35) dX8_addsRoad_29 (by decide) (fun h29 => ?_) (fun h29 => (by first | exact absurd (ht) h29 | exact absurd h29 (ht)))
            refine px_aload_0 dX8_addsRoad_35 ?_
            refine gf_X8_7 rfl dX8_addsRoad_36 (by first | assumption | exact mo_a hm | exact mo_r0 hm | exact mo_r1 hm | exact mo_r2 hm | exact mo_r4 hm | exact mo_r6 hm | exact mo_r8 hm | exact mo_a1 hm | exact mo_a2 hm | exact mo_a3 hm | exact mo_a4 hm | exact mo_a5 hm | exact mo_a6 hm) (by first | assumption | exact mo_a hm | exact mo_r0 hm | exact mo_r1 hm | exact mo_r2 hm | exact mo_r4 hm | exact mo_r6 hm | exact mo_r8 hm | exact mo_a1 hm | exact mo_a2 hm | exact mo_a3 hm | exact mo_a4 hm | exact mo_a5 hm | exact mo_a6 hm) ?_
            refine px_bipush (8) dX8_addsRoad_39 rfl ?_
            refine px_ialdN (j := 8) dX8_addsRoad_41 (by first | assumption | exact mo_a hm | exact mo_r0 hm | exact mo_r1 hm | exact mo_r2 hm | exact mo_r4 hm | exact mo_r6 hm | exact mo_r8 hm | exact mo_a1 hm | exact mo_a2 hm | exact mo_a3 hm | exact mo_a4 hm | exact mo_a5 hm | exact mo_a6 hm) (by first | rfl | exact ix_eq (by assumption)) (by first | decide | omega) ?_
            refine px_bipush (14) dX8_addsRoad_42 rfl ?_
            refine px_icmp_ne (tgt := 50) dX8_addsRoad_44 (by decide) (fun h44 => (by first | exact absurd h44 ((i14.mpr h15)) | exact absurd ((i14.mpr h15)) h44)) (fun h44 => ?_)
            refine px_bipush (-4) dX8_addsRoad_47 rfl ?_
            refine px_iret dX8_addsRoad_49 ?_
            exact ⟨rfl, rfl⟩
          · have hf : f_road (I (m + 1)) a b t = (I (m + 1) 8, upd (upd (upd (upd (I (m + 1)) (9 + 6 * f_nr (I (m + 1)) + 0) a) (9 + 6 * f_nr (I (m + 1)) + 1) b) (9 + 6 * f_nr (I (m + 1)) + 2) t) 8 (I (m + 1) 8 + 1)) := by clear hV e8 i14; grind [f_road]
            rw [hf]
            refine px_iload_1 dX8_addsRoad_0 ?_
            refine cd_X8_108 rfl ⟨⟨Nat.le_of_ble_eq_true rfl, Nat.le_of_ble_eq_true rfl⟩, Nat.le_of_ble_eq_true rfl, Nat.le_of_ble_eq_true rfl, Nat.le_of_ble_eq_true rfl⟩ dX8_addsRoad_1 (s_X8_isTown) ?_
            refine px_ifb_eq (tgt := 14) dX8_addsRoad_4 (by decide) (fun h4 => (by first | exact absurd h4 (hr) | exact absurd (hr) h4)) (fun h4 => ?_)
            refine px_iload_2 dX8_addsRoad_7 ?_
            refine cd_X8_108 rfl ⟨⟨Nat.le_of_ble_eq_true rfl, Nat.le_of_ble_eq_true rfl⟩, Nat.le_of_ble_eq_true rfl, Nat.le_of_ble_eq_true rfl, Nat.le_of_ble_eq_true rfl⟩ dX8_addsRoad_8 (s_X8_isTown) ?_
            refine px_ifb_ne (tgt := 16) dX8_addsRoad_11 (by decide) (fun h11 => ?_) (fun h11 => (by first | exact absurd (hb) h11 | exact absurd h11 (hb)))
            refine px_iload_1 dX8_addsRoad_16 ?_
            refine px_iload_2 dX8_addsRoad_17 ?_
            refine px_icmp_eq (tgt := 32) dX8_addsRoad_18 (by decide) (fun h18 => (by first | exact absurd h18 (hab) | exact absurd (hab) h18)) (fun h18 => ?_)
            refine px_iload_3 dX8_addsRoad_21 ?_
            refine px_iconst (0) dX8_addsRoad_22 rfl ?_
            refine px_sipush (200) dX8_addsRoad_23 rfl ?_
            refine cd_X8_29 rfl ⟨⟨Nat.le_of_ble_eq_true rfl, Nat.le_of_ble_eq_true rfl⟩, Nat.le_of_ble_eq_true rfl, Nat.le_of_ble_eq_true rfl, Nat.le_of_ble_eq_true rfl⟩ dX8_addsRoad_26 (s_X8_in) ?_
            refine px_ifb_ne (tgt := 35) dX8_addsRoad_29 (by decide) (fun h29 => ?_) (fun h29 => (by first | exact absurd (ht) h29 | exact absurd h29 (ht)))
            refine px_aload_0 dX8_addsRoad_35 ?_
            refine gf_X8_7 rfl dX8_addsRoad_36 (by first | assumption | exact mo_a hm | exact mo_r0 hm | exact mo_r1 hm | exact mo_r2 hm | exact mo_r4 hm | exact mo_r6 hm | exact mo_r8 hm | exact mo_a1 hm | exact mo_a2 hm | exact mo_a3 hm | exact mo_a4 hm | exact mo_a5 hm | exact mo_a6 hm) (by first | assumption | exact mo_a hm | exact mo_r0 hm | exact mo_r1 hm | exact mo_r2 hm | exact mo_r4 hm | exact mo_r6 hm | exact mo_r8 hm | exact mo_a1 hm | exact mo_a2 hm | exact mo_a3 hm | exact mo_a4 hm | exact mo_a5 hm | exact mo_a6 hm) ?_
            refine px_bipush (8) dX8_addsRoad_39 rfl ?_
            refine px_ialdN (j := 8) dX8_addsRoad_41 (by first | assumption | exact mo_a hm | exact mo_r0 hm | exact mo_r1 hm | exact mo_r2 hm | exact mo_r4 hm | exact mo_r6 hm | exact mo_r8 hm | exact mo_a1 hm | exact mo_a2 hm | exact mo_a3 hm | exact mo_a4 hm | exact mo_a5 hm | exact mo_a6 hm) (by first | rfl | exact ix_eq (by assumption)) (by first | decide | omega) ?_
            refine px_bipush (14) dX8_addsRoad_42 rfl ?_
            refine px_icmp_ne (tgt := 50) dX8_addsRoad_44 (by decide) (fun h44 => ?_) (fun h44 => (by first | exact absurd ((fun q => h15 (i14.mp q))) h44 | exact absurd h44 ((fun q => h15 (i14.mp q)))))
            refine px_aload_0 dX8_addsRoad_50 ?_
            refine gf_X8_7 rfl dX8_addsRoad_51 (by first | assumption | exact mo_a hm | exact mo_r0 hm | exact mo_r1 hm | exact mo_r2 hm | exact mo_r4 hm | exact mo_r6 hm | exact mo_r8 hm | exact mo_a1 hm | exact mo_a2 hm | exact mo_a3 hm | exact mo_a4 hm | exact mo_a5 hm | exact mo_a6 hm) (by first | assumption | exact mo_a hm | exact mo_r0 hm | exact mo_r1 hm | exact mo_r2 hm | exact mo_r4 hm | exact mo_r6 hm | exact mo_r8 hm | exact mo_a1 hm | exact mo_a2 hm | exact mo_a3 hm | exact mo_a4 hm | exact mo_a5 hm | exact mo_a6 hm) ?_
            refine px_bipush (8) dX8_addsRoad_54 rfl ?_
            refine px_ialdN (j := 8) dX8_addsRoad_56 (by first | assumption | exact mo_a hm | exact mo_r0 hm | exact mo_r1 hm | exact mo_r2 hm | exact mo_r4 hm | exact mo_r6 hm | exact mo_r8 hm | exact mo_a1 hm | exact mo_a2 hm | exact mo_a3 hm | exact mo_a4 hm | exact mo_a5 hm | exact mo_a6 hm) (by first | rfl | exact ix_eq (by assumption)) (by first | decide | omega) ?_
            refine px_istore_4 dX8_addsRoad_57 rfl ?_
            refine px_aload_0 dX8_addsRoad_59 ?_
            refine gf_X8_7 rfl dX8_addsRoad_60 (by first | assumption | exact mo_a hm | exact mo_r0 hm | exact mo_r1 hm | exact mo_r2 hm | exact mo_r4 hm | exact mo_r6 hm | exact mo_r8 hm | exact mo_a1 hm | exact mo_a2 hm | exact mo_a3 hm | exact mo_a4 hm | exact mo_a5 hm | exact mo_a6 hm) (by first | assumption | exact mo_a hm | exact mo_r0 hm | exact mo_r1 hm | exact mo_r2 hm | exact mo_r4 hm | exact mo_r6 hm | exact mo_r8 hm | exact mo_a1 hm | exact mo_a2 hm | exact mo_a3 hm | exact mo_a4 hm | exact mo_a5 hm | exact mo_a6 hm) ?_
            refine px_iload_4 dX8_addsRoad_63 ?_
            refine px_iconst (0) dX8_addsRoad_65 rfl ?_
            refine cd_X8_40 rfl ⟨⟨Nat.le_of_ble_eq_true rfl, Nat.le_of_ble_eq_true rfl⟩, Nat.le_of_ble_eq_true rfl, Nat.le_of_ble_eq_true rfl, Nat.le_of_ble_eq_true rfl⟩ dX8_addsRoad_66 (s_X8_ofOneRoad (j := 0) e8) ?_
            refine px_iload_1 dX8_addsRoad_69 ?_
            refine px_iastN dX8_addsRoad_70 (by first | assumption | exact mo_a hm | exact mo_r0 hm | exact mo_r1 hm | exact mo_r2 hm | exact mo_r4 hm | exact mo_r6 hm | exact mo_r8 hm | exact mo_a1 hm | exact mo_a2 hm | exact mo_a3 hm | exact mo_a4 hm | exact mo_a5 hm | exact mo_a6 hm) (by first | rfl | exact ix_eq (by assumption)) (by first | decide | omega) ?_
            refine px_aload_0 dX8_addsRoad_71 ?_
            refine gf_X8_7 rfl dX8_addsRoad_72 (by first | assumption | exact mo_a hm | exact mo_r0 hm | exact mo_r1 hm | exact mo_r2 hm | exact mo_r4 hm | exact mo_r6 hm | exact mo_r8 hm | exact mo_a1 hm | exact mo_a2 hm | exact mo_a3 hm | exact mo_a4 hm | exact mo_a5 hm | exact mo_a6 hm) (by first | assumption | exact mo_a hm | exact mo_r0 hm | exact mo_r1 hm | exact mo_r2 hm | exact mo_r4 hm | exact mo_r6 hm | exact mo_r8 hm | exact mo_a1 hm | exact mo_a2 hm | exact mo_a3 hm | exact mo_a4 hm | exact mo_a5 hm | exact mo_a6 hm) ?_
            refine px_iload_4 dX8_addsRoad_75 ?_
            refine px_iconst (1) dX8_addsRoad_77 rfl ?_
            refine cd_X8_40 rfl ⟨⟨Nat.le_of_ble_eq_true rfl, Nat.le_of_ble_eq_true rfl⟩, Nat.le_of_ble_eq_true rfl, Nat.le_of_ble_eq_true rfl, Nat.le_of_ble_eq_true rfl⟩ dX8_addsRoad_78 (s_X8_ofOneRoad (j := 1) e8) ?_
            refine px_iload_2 dX8_addsRoad_81 ?_
            refine px_iastN dX8_addsRoad_82 (by first | assumption | exact mo_a hm | exact mo_r0 hm | exact mo_r1 hm | exact mo_r2 hm | exact mo_r4 hm | exact mo_r6 hm | exact mo_r8 hm | exact mo_a1 hm | exact mo_a2 hm | exact mo_a3 hm | exact mo_a4 hm | exact mo_a5 hm | exact mo_a6 hm) (by first | rfl | exact ix_eq (by assumption)) (by first | decide | omega) ?_
            refine px_aload_0 dX8_addsRoad_83 ?_
            refine gf_X8_7 rfl dX8_addsRoad_84 (by first | assumption | exact mo_a hm | exact mo_r0 hm | exact mo_r1 hm | exact mo_r2 hm | exact mo_r4 hm | exact mo_r6 hm | exact mo_r8 hm | exact mo_a1 hm | exact mo_a2 hm | exact mo_a3 hm | exact mo_a4 hm | exact mo_a5 hm | exact mo_a6 hm) (by first | assumption | exact mo_a hm | exact mo_r0 hm | exact mo_r1 hm | exact mo_r2 hm | exact mo_r4 hm | exact mo_r6 hm | exact mo_r8 hm | exact mo_a1 hm | exact mo_a2 hm | exact mo_a3 hm | exact mo_a4 hm | exact mo_a5 hm | exact mo_a6 hm) ?_
            refine px_iload_4 dX8_addsRoad_87 ?_
            refine px_iconst (2) dX8_addsRoad_89 rfl ?_
            refine cd_X8_40 rfl ⟨⟨Nat.le_of_ble_eq_true rfl, Nat.le_of_ble_eq_true rfl⟩, Nat.le_of_ble_eq_true rfl, Nat.le_of_ble_eq_true rfl, Nat.le_of_ble_eq_true rfl⟩ dX8_addsRoad_90 (s_X8_ofOneRoad (j := 2) e8) ?_
            refine px_iload_3 dX8_addsRoad_93 ?_
            refine px_iastN dX8_addsRoad_94 (by first | assumption | exact mo_a hm | exact mo_r0 hm | exact mo_r1 hm | exact mo_r2 hm | exact mo_r4 hm | exact mo_r6 hm | exact mo_r8 hm | exact mo_a1 hm | exact mo_a2 hm | exact mo_a3 hm | exact mo_a4 hm | exact mo_a5 hm | exact mo_a6 hm) (by first | rfl | exact ix_eq (by assumption)) (by first | decide | omega) ?_
            refine px_aload_0 dX8_addsRoad_95 ?_
            refine gf_X8_7 rfl dX8_addsRoad_96 (by first | assumption | exact mo_a hm | exact mo_r0 hm | exact mo_r1 hm | exact mo_r2 hm | exact mo_r4 hm | exact mo_r6 hm | exact mo_r8 hm | exact mo_a1 hm | exact mo_a2 hm | exact mo_a3 hm | exact mo_a4 hm | exact mo_a5 hm | exact mo_a6 hm) (by first | assumption | exact mo_a hm | exact mo_r0 hm | exact mo_r1 hm | exact mo_r2 hm | exact mo_r4 hm | exact mo_r6 hm | exact mo_r8 hm | exact mo_a1 hm | exact mo_a2 hm | exact mo_a3 hm | exact mo_a4 hm | exact mo_a5 hm | exact mo_a6 hm) ?_
            refine px_bipush (8) dX8_addsRoad_99 rfl ?_
            refine px_dup2 dX8_addsRoad_101 rfl rfl ?_
            refine px_ialdN (j := 8) dX8_addsRoad_102 (by first | assumption | exact mo_a hm | exact mo_r0 hm | exact mo_r1 hm | exact mo_r2 hm | exact mo_r4 hm | exact mo_r6 hm | exact mo_r8 hm | exact mo_a1 hm | exact mo_a2 hm | exact mo_a3 hm | exact mo_a4 hm | exact mo_a5 hm | exact mo_a6 hm) (by first | rfl | exact ix_eq (by assumption)) (by first | decide | omega) ?_
            rw [px_up_nj (by omega), px_up_nj (by omega), px_up_nj (by omega)]
            refine px_iconst (1) dX8_addsRoad_103 rfl ?_
            refine px_iadd dX8_addsRoad_104 ?_
            refine px_iastN (j := 8) dX8_addsRoad_105 (by first | assumption | exact mo_a hm | exact mo_r0 hm | exact mo_r1 hm | exact mo_r2 hm | exact mo_r4 hm | exact mo_r6 hm | exact mo_r8 hm | exact mo_a1 hm | exact mo_a2 hm | exact mo_a3 hm | exact mo_a4 hm | exact mo_a5 hm | exact mo_a6 hm) (by first | rfl | exact ix_eq (by assumption)) (by first | decide | omega) ?_
            refine px_iload_4 dX8_addsRoad_106 ?_
            refine px_iret dX8_addsRoad_108 ?_
            exact ⟨rfl, by simp only [px_up_set, px_set_self, px_set_set]⟩
        · have hf : f_road (I (m + 1)) a b t = (-2, I (m + 1)) := by clear hV e8; grind [f_road]
          rw [hf, mem_id]
          refine px_iload_1 dX8_addsRoad_0 ?_
          refine cd_X8_108 rfl ⟨⟨Nat.le_of_ble_eq_true rfl, Nat.le_of_ble_eq_true rfl⟩, Nat.le_of_ble_eq_true rfl, Nat.le_of_ble_eq_true rfl, Nat.le_of_ble_eq_true rfl⟩ dX8_addsRoad_1 (s_X8_isTown) ?_
          refine px_ifb_eq (tgt := 14) dX8_addsRoad_4 (by decide) (fun h4 => (by first | exact absurd h4 (hr) | exact absurd (hr) h4)) (fun h4 => ?_)
          refine px_iload_2 dX8_addsRoad_7 ?_
          refine cd_X8_108 rfl ⟨⟨Nat.le_of_ble_eq_true rfl, Nat.le_of_ble_eq_true rfl⟩, Nat.le_of_ble_eq_true rfl, Nat.le_of_ble_eq_true rfl, Nat.le_of_ble_eq_true rfl⟩ dX8_addsRoad_8 (s_X8_isTown) ?_
          refine px_ifb_ne (tgt := 16) dX8_addsRoad_11 (by decide) (fun h11 => ?_) (fun h11 => (by first | exact absurd (hb) h11 | exact absurd h11 (hb)))
          refine px_iload_1 dX8_addsRoad_16 ?_
          refine px_iload_2 dX8_addsRoad_17 ?_
          refine px_icmp_eq (tgt := 32) dX8_addsRoad_18 (by decide) (fun h18 => (by first | exact absurd h18 (hab) | exact absurd (hab) h18)) (fun h18 => ?_)
          refine px_iload_3 dX8_addsRoad_21 ?_
          refine px_iconst (0) dX8_addsRoad_22 rfl ?_
          refine px_sipush (200) dX8_addsRoad_23 rfl ?_
          refine cd_X8_29 rfl ⟨⟨Nat.le_of_ble_eq_true rfl, Nat.le_of_ble_eq_true rfl⟩, Nat.le_of_ble_eq_true rfl, Nat.le_of_ble_eq_true rfl, Nat.le_of_ble_eq_true rfl⟩ dX8_addsRoad_26 (s_X8_in) ?_
          refine px_ifb_ne (tgt := 35) dX8_addsRoad_29 (by decide) (fun h29 => (by first | exact absurd h29 (ht) | exact absurd (ht) h29)) (fun h29 => ?_)
          refine px_bipush (-2) dX8_addsRoad_32 rfl ?_
          refine px_iret dX8_addsRoad_34 ?_
          exact ⟨rfl, rfl⟩
    · have hf : f_road (I (m + 1)) a b t = (-1, I (m + 1)) := by clear hV e8; grind [f_road]
      rw [hf, mem_id]
      refine px_iload_1 dX8_addsRoad_0 ?_
      refine cd_X8_108 rfl ⟨⟨Nat.le_of_ble_eq_true rfl, Nat.le_of_ble_eq_true rfl⟩, Nat.le_of_ble_eq_true rfl, Nat.le_of_ble_eq_true rfl, Nat.le_of_ble_eq_true rfl⟩ dX8_addsRoad_1 (s_X8_isTown) ?_
      refine px_ifb_eq (tgt := 14) dX8_addsRoad_4 (by decide) (fun h4 => (by first | exact absurd h4 (hr) | exact absurd (hr) h4)) (fun h4 => ?_)
      refine px_iload_2 dX8_addsRoad_7 ?_
      refine cd_X8_108 rfl ⟨⟨Nat.le_of_ble_eq_true rfl, Nat.le_of_ble_eq_true rfl⟩, Nat.le_of_ble_eq_true rfl, Nat.le_of_ble_eq_true rfl, Nat.le_of_ble_eq_true rfl⟩ dX8_addsRoad_8 (s_X8_isTown) ?_
      refine px_ifb_ne (tgt := 16) dX8_addsRoad_11 (by decide) (fun h11 => (by first | exact absurd h11 (hb) | exact absurd (hb) h11)) (fun h11 => ?_)
      refine px_iconst (-1) dX8_addsRoad_14 rfl ?_
      refine px_iret dX8_addsRoad_15 ?_
      exact ⟨rfl, rfl⟩
  · have hf : f_road (I (m + 1)) a b t = (-1, I (m + 1)) := by clear hV e8; grind [f_road]
    rw [hf, mem_id]
    refine px_iload_1 dX8_addsRoad_0 ?_
    refine cd_X8_108 rfl ⟨⟨Nat.le_of_ble_eq_true rfl, Nat.le_of_ble_eq_true rfl⟩, Nat.le_of_ble_eq_true rfl, Nat.le_of_ble_eq_true rfl, Nat.le_of_ble_eq_true rfl⟩ dX8_addsRoad_1 (s_X8_isTown) ?_
    refine px_ifb_eq (tgt := 14) dX8_addsRoad_4 (by decide) (fun h4 => ?_) (fun h4 => (by first | exact absurd (hr) h4 | exact absurd h4 (hr)))
    refine px_iconst (-1) dX8_addsRoad_14 rfl ?_
    refine px_iret dX8_addsRoad_15 ?_
    exact ⟨rfl, rfl⟩
theorem s_X8_addsCart {a b : Int32} (hm : px_mo G T R m) (hV : px_V (I (m + 1))) : px_K l G 2 mX8_addsCart ([.ref m, .int a, .int b]) ((T, I, J, R)) (some (.int (f_cart (I (m + 1)) a b).1)) ((T, px_set I (m + 1) (f_cart (I (m + 1)) a b).2, J, R)) := by
  have e8 := hV.1.2.2.1
  have h6 := hV.1.2.2.2
  have i14 : I (m + 1) 93 = 6 ↔ f_nc (I (m + 1)) = 6 := by rw [e8, show (6 : Int32) = nI 6 from rfl, nI_eq (by omega) (by omega)]
  refine px_met (M := mX8_addsCart) ([some (.ref m), some (.int a), some (.int b), none]) (by decide +kernel) rfl (Nat.le_of_ble_eq_true rfl) rfl ?_
  by_cases hr : rg a 0 7
  · by_cases hb : rg b 0 99999
    · by_cases h15 : f_nc (I (m + 1)) = 6
      · have hf : f_cart (I (m + 1)) a b = (-4, I (m + 1)) := by clear hV e8 i14; grind [f_cart]
        rw [hf, mem_id]
        refine px_iload_1 dX8_addsCart_0 ?_
        refine cd_X8_108 rfl ⟨⟨Nat.le_of_ble_eq_true rfl, Nat.le_of_ble_eq_true rfl⟩, Nat.le_of_ble_eq_true rfl, Nat.le_of_ble_eq_true rfl, Nat.le_of_ble_eq_true rfl⟩ dX8_addsCart_1 (s_X8_isTown) ?_
        refine px_ifb_ne (tgt := 9) dX8_addsCart_4 (by decide) (fun h4 => ?_) (fun h4 => (by first | exact absurd (hr) h4 | exact absurd h4 (hr)))
        refine px_iload_2 dX8_addsCart_9 ?_
        refine px_iconst (0) dX8_addsCart_10 rfl ?_
        refine px_ldc ck_X8_127 dX8_addsCart_11 ?_
        refine cd_X8_29 rfl ⟨⟨Nat.le_of_ble_eq_true rfl, Nat.le_of_ble_eq_true rfl⟩, Nat.le_of_ble_eq_true rfl, Nat.le_of_ble_eq_true rfl, Nat.le_of_ble_eq_true rfl⟩ dX8_addsCart_13 (s_X8_in) ?_
        refine px_ifb_ne (tgt := 22) dX8_addsCart_16 (by decide) (fun h16 => ?_) (fun h16 => (by first | exact absurd (hb) h16 | exact absurd h16 (hb)))
        refine px_aload_0 dX8_addsCart_22 ?_
        refine gf_X8_7 rfl dX8_addsCart_23 (by first | assumption | exact mo_a hm | exact mo_r0 hm | exact mo_r1 hm | exact mo_r2 hm | exact mo_r4 hm | exact mo_r6 hm | exact mo_r8 hm | exact mo_a1 hm | exact mo_a2 hm | exact mo_a3 hm | exact mo_a4 hm | exact mo_a5 hm | exact mo_a6 hm) (by first | assumption | exact mo_a hm | exact mo_r0 hm | exact mo_r1 hm | exact mo_r2 hm | exact mo_r4 hm | exact mo_r6 hm | exact mo_r8 hm | exact mo_a1 hm | exact mo_a2 hm | exact mo_a3 hm | exact mo_a4 hm | exact mo_a5 hm | exact mo_a6 hm) ?_
        refine px_bipush (93) dX8_addsCart_26 rfl ?_
        refine px_ialdN (j := 93) dX8_addsCart_28 (by first | assumption | exact mo_a hm | exact mo_r0 hm | exact mo_r1 hm | exact mo_r2 hm | exact mo_r4 hm | exact mo_r6 hm | exact mo_r8 hm | exact mo_a1 hm | exact mo_a2 hm | exact mo_a3 hm | exact mo_a4 hm | exact mo_a5 hm | exact mo_a6 hm) (by first | rfl | exact ix_eq (by assumption)) (by first | decide | omega) ?_
        refine px_bipush (6) dX8_addsCart_29 rfl ?_
        refine px_icmp_ne (tgt := 37) dX8_addsCart_31 (by decide) (fun h31 => (by first | exact absurd h31 ((i14.mpr h15)) | exact absurd ((i14.mpr h15)) h31)) (fun h31 => ?_)
        refine px_bipush (-4) dX8_addsCart_34 rfl ?_
        refine px_iret dX8_addsCart_36 ?_
        exact ⟨rfl, rfl⟩
      · have hf : f_cart (I (m + 1)) a b = (I (m + 1) 93, upd (upd (upd (upd (I (m + 1)) (94 + 8 * f_nc (I (m + 1)) + 0) a) (94 + 8 * f_nc (I (m + 1)) + 1) b) 150 (I (m + 1) 150 + b)) 93 (I (m + 1) 93 + 1)) := by clear hV e8 i14; grind [f_cart]
        rw [hf]
        refine px_iload_1 dX8_addsCart_0 ?_
        refine cd_X8_108 rfl ⟨⟨Nat.le_of_ble_eq_true rfl, Nat.le_of_ble_eq_true rfl⟩, Nat.le_of_ble_eq_true rfl, Nat.le_of_ble_eq_true rfl, Nat.le_of_ble_eq_true rfl⟩ dX8_addsCart_1 (s_X8_isTown) ?_
        refine px_ifb_ne (tgt := 9) dX8_addsCart_4 (by decide) (fun h4 => ?_) (fun h4 => (by first | exact absurd (hr) h4 | exact absurd h4 (hr)))
        refine px_iload_2 dX8_addsCart_9 ?_
        refine px_iconst (0) dX8_addsCart_10 rfl ?_
        refine px_ldc ck_X8_127 dX8_addsCart_11 ?_
        refine cd_X8_29 rfl ⟨⟨Nat.le_of_ble_eq_true rfl, Nat.le_of_ble_eq_true rfl⟩, Nat.le_of_ble_eq_true rfl, Nat.le_of_ble_eq_true rfl, Nat.le_of_ble_eq_true rfl⟩ dX8_addsCart_13 (s_X8_in) ?_
        refine px_ifb_ne (tgt := 22) dX8_addsCart_16 (by decide) (fun h16 => ?_) (fun h16 => (by first | exact absurd (hb) h16 | exact absurd h16 (hb)))
        refine px_aload_0 dX8_addsCart_22 ?_
        refine gf_X8_7 rfl dX8_addsCart_23 (by first | assumption | exact mo_a hm | exact mo_r0 hm | exact mo_r1 hm | exact mo_r2 hm | exact mo_r4 hm | exact mo_r6 hm | exact mo_r8 hm | exact mo_a1 hm | exact mo_a2 hm | exact mo_a3 hm | exact mo_a4 hm | exact mo_a5 hm | exact mo_a6 hm) (by first | assumption | exact mo_a hm | exact mo_r0 hm | exact mo_r1 hm | exact mo_r2 hm | exact mo_r4 hm | exact mo_r6 hm | exact mo_r8 hm | exact mo_a1 hm | exact mo_a2 hm | exact mo_a3 hm | exact mo_a4 hm | exact mo_a5 hm | exact mo_a6 hm) ?_
        refine px_bipush (93) dX8_addsCart_26 rfl ?_
        refine px_ialdN (j := 93) dX8_addsCart_28 (by first | assumption | exact mo_a hm | exact mo_r0 hm | exact mo_r1 hm | exact mo_r2 hm | exact mo_r4 hm | exact mo_r6 hm | exact mo_r8 hm | exact mo_a1 hm | exact mo_a2 hm | exact mo_a3 hm | exact mo_a4 hm | exact mo_a5 hm | exact mo_a6 hm) (by first | rfl | exact ix_eq (by assumption)) (by first | decide | omega) ?_
        refine px_bipush (6) dX8_addsCart_29 rfl ?_
        refine px_icmp_ne (tgt := 37) dX8_addsCart_31 (by decide) (fun h31 => ?_) (fun h31 => (by first | exact absurd ((fun q => h15 (i14.mp q))) h31 | exact absurd h31 ((fun q => h15 (i14.mp q)))))
        refine px_aload_0 dX8_addsCart_37 ?_
        refine gf_X8_7 rfl dX8_addsCart_38 (by first | assumption | exact mo_a hm | exact mo_r0 hm | exact mo_r1 hm | exact mo_r2 hm | exact mo_r4 hm | exact mo_r6 hm | exact mo_r8 hm | exact mo_a1 hm | exact mo_a2 hm | exact mo_a3 hm | exact mo_a4 hm | exact mo_a5 hm | exact mo_a6 hm) (by first | assumption | exact mo_a hm | exact mo_r0 hm | exact mo_r1 hm | exact mo_r2 hm | exact mo_r4 hm | exact mo_r6 hm | exact mo_r8 hm | exact mo_a1 hm | exact mo_a2 hm | exact mo_a3 hm | exact mo_a4 hm | exact mo_a5 hm | exact mo_a6 hm) ?_
        refine px_bipush (93) dX8_addsCart_41 rfl ?_
        refine px_ialdN (j := 93) dX8_addsCart_43 (by first | assumption | exact mo_a hm | exact mo_r0 hm | exact mo_r1 hm | exact mo_r2 hm | exact mo_r4 hm | exact mo_r6 hm | exact mo_r8 hm | exact mo_a1 hm | exact mo_a2 hm | exact mo_a3 hm | exact mo_a4 hm | exact mo_a5 hm | exact mo_a6 hm) (by first | rfl | exact ix_eq (by assumption)) (by first | decide | omega) ?_
        refine px_istore_3 dX8_addsCart_44 rfl ?_
        refine px_aload_0 dX8_addsCart_45 ?_
        refine gf_X8_7 rfl dX8_addsCart_46 (by first | assumption | exact mo_a hm | exact mo_r0 hm | exact mo_r1 hm | exact mo_r2 hm | exact mo_r4 hm | exact mo_r6 hm | exact mo_r8 hm | exact mo_a1 hm | exact mo_a2 hm | exact mo_a3 hm | exact mo_a4 hm | exact mo_a5 hm | exact mo_a6 hm) (by first | assumption | exact mo_a hm | exact mo_r0 hm | exact mo_r1 hm | exact mo_r2 hm | exact mo_r4 hm | exact mo_r6 hm | exact mo_r8 hm | exact mo_a1 hm | exact mo_a2 hm | exact mo_a3 hm | exact mo_a4 hm | exact mo_a5 hm | exact mo_a6 hm) ?_
        refine px_iload_3 dX8_addsCart_49 ?_
        refine px_iconst (0) dX8_addsCart_50 rfl ?_
        refine cd_X8_128 rfl ⟨⟨Nat.le_of_ble_eq_true rfl, Nat.le_of_ble_eq_true rfl⟩, Nat.le_of_ble_eq_true rfl, Nat.le_of_ble_eq_true rfl, Nat.le_of_ble_eq_true rfl⟩ dX8_addsCart_51 (s_X8_ofOneCart (j := 0) e8) ?_
        refine px_iload_1 dX8_addsCart_54 ?_
        refine px_iastN dX8_addsCart_55 (by first | assumption | exact mo_a hm | exact mo_r0 hm | exact mo_r1 hm | exact mo_r2 hm | exact mo_r4 hm | exact mo_r6 hm | exact mo_r8 hm | exact mo_a1 hm | exact mo_a2 hm | exact mo_a3 hm | exact mo_a4 hm | exact mo_a5 hm | exact mo_a6 hm) (by first | rfl | exact ix_eq (by assumption)) (by first | decide | omega) ?_
        refine px_aload_0 dX8_addsCart_56 ?_
        refine gf_X8_7 rfl dX8_addsCart_57 (by first | assumption | exact mo_a hm | exact mo_r0 hm | exact mo_r1 hm | exact mo_r2 hm | exact mo_r4 hm | exact mo_r6 hm | exact mo_r8 hm | exact mo_a1 hm | exact mo_a2 hm | exact mo_a3 hm | exact mo_a4 hm | exact mo_a5 hm | exact mo_a6 hm) (by first | assumption | exact mo_a hm | exact mo_r0 hm | exact mo_r1 hm | exact mo_r2 hm | exact mo_r4 hm | exact mo_r6 hm | exact mo_r8 hm | exact mo_a1 hm | exact mo_a2 hm | exact mo_a3 hm | exact mo_a4 hm | exact mo_a5 hm | exact mo_a6 hm) ?_
        refine px_iload_3 dX8_addsCart_60 ?_
        refine px_iconst (1) dX8_addsCart_61 rfl ?_
        refine cd_X8_128 rfl ⟨⟨Nat.le_of_ble_eq_true rfl, Nat.le_of_ble_eq_true rfl⟩, Nat.le_of_ble_eq_true rfl, Nat.le_of_ble_eq_true rfl, Nat.le_of_ble_eq_true rfl⟩ dX8_addsCart_62 (s_X8_ofOneCart (j := 1) e8) ?_
        refine px_iload_2 dX8_addsCart_65 ?_
        refine px_iastN dX8_addsCart_66 (by first | assumption | exact mo_a hm | exact mo_r0 hm | exact mo_r1 hm | exact mo_r2 hm | exact mo_r4 hm | exact mo_r6 hm | exact mo_r8 hm | exact mo_a1 hm | exact mo_a2 hm | exact mo_a3 hm | exact mo_a4 hm | exact mo_a5 hm | exact mo_a6 hm) (by first | rfl | exact ix_eq (by assumption)) (by first | decide | omega) ?_
        refine px_aload_0 dX8_addsCart_67 ?_
        refine gf_X8_7 rfl dX8_addsCart_68 (by first | assumption | exact mo_a hm | exact mo_r0 hm | exact mo_r1 hm | exact mo_r2 hm | exact mo_r4 hm | exact mo_r6 hm | exact mo_r8 hm | exact mo_a1 hm | exact mo_a2 hm | exact mo_a3 hm | exact mo_a4 hm | exact mo_a5 hm | exact mo_a6 hm) (by first | assumption | exact mo_a hm | exact mo_r0 hm | exact mo_r1 hm | exact mo_r2 hm | exact mo_r4 hm | exact mo_r6 hm | exact mo_r8 hm | exact mo_a1 hm | exact mo_a2 hm | exact mo_a3 hm | exact mo_a4 hm | exact mo_a5 hm | exact mo_a6 hm) ?_
        refine px_sipush (150) dX8_addsCart_71 rfl ?_
        refine px_dup2 dX8_addsCart_74 rfl rfl ?_
        refine px_ialdN (j := 150) dX8_addsCart_75 (by first | assumption | exact mo_a hm | exact mo_r0 hm | exact mo_r1 hm | exact mo_r2 hm | exact mo_r4 hm | exact mo_r6 hm | exact mo_r8 hm | exact mo_a1 hm | exact mo_a2 hm | exact mo_a3 hm | exact mo_a4 hm | exact mo_a5 hm | exact mo_a6 hm) (by first | rfl | exact ix_eq (by assumption)) (by first | decide | omega) ?_
        rw [px_up_nj (by omega), px_up_nj (by omega)]
        refine px_iload_2 dX8_addsCart_76 ?_
        refine px_iadd dX8_addsCart_77 ?_
        refine px_iastN (j := 150) dX8_addsCart_78 (by first | assumption | exact mo_a hm | exact mo_r0 hm | exact mo_r1 hm | exact mo_r2 hm | exact mo_r4 hm | exact mo_r6 hm | exact mo_r8 hm | exact mo_a1 hm | exact mo_a2 hm | exact mo_a3 hm | exact mo_a4 hm | exact mo_a5 hm | exact mo_a6 hm) (by first | rfl | exact ix_eq (by assumption)) (by first | decide | omega) ?_
        refine px_aload_0 dX8_addsCart_79 ?_
        refine gf_X8_7 rfl dX8_addsCart_80 (by first | assumption | exact mo_a hm | exact mo_r0 hm | exact mo_r1 hm | exact mo_r2 hm | exact mo_r4 hm | exact mo_r6 hm | exact mo_r8 hm | exact mo_a1 hm | exact mo_a2 hm | exact mo_a3 hm | exact mo_a4 hm | exact mo_a5 hm | exact mo_a6 hm) (by first | assumption | exact mo_a hm | exact mo_r0 hm | exact mo_r1 hm | exact mo_r2 hm | exact mo_r4 hm | exact mo_r6 hm | exact mo_r8 hm | exact mo_a1 hm | exact mo_a2 hm | exact mo_a3 hm | exact mo_a4 hm | exact mo_a5 hm | exact mo_a6 hm) ?_
        refine px_bipush (93) dX8_addsCart_83 rfl ?_
        refine px_dup2 dX8_addsCart_85 rfl rfl ?_
        refine px_ialdN (j := 93) dX8_addsCart_86 (by first | assumption | exact mo_a hm | exact mo_r0 hm | exact mo_r1 hm | exact mo_r2 hm | exact mo_r4 hm | exact mo_r6 hm | exact mo_r8 hm | exact mo_a1 hm | exact mo_a2 hm | exact mo_a3 hm | exact mo_a4 hm | exact mo_a5 hm | exact mo_a6 hm) (by first | rfl | exact ix_eq (by assumption)) (by first | decide | omega) ?_
        rw [px_up_nj (by omega), px_up_nj (by omega), px_up_nj (by omega)]
        refine px_iconst (1) dX8_addsCart_87 rfl ?_
        refine px_iadd dX8_addsCart_88 ?_
        refine px_iastN (j := 93) dX8_addsCart_89 (by first | assumption | exact mo_a hm | exact mo_r0 hm | exact mo_r1 hm | exact mo_r2 hm | exact mo_r4 hm | exact mo_r6 hm | exact mo_r8 hm | exact mo_a1 hm | exact mo_a2 hm | exact mo_a3 hm | exact mo_a4 hm | exact mo_a5 hm | exact mo_a6 hm) (by first | rfl | exact ix_eq (by assumption)) (by first | decide | omega) ?_
        refine px_iload_3 dX8_addsCart_90 ?_
        refine px_iret dX8_addsCart_91 ?_
        exact ⟨rfl, by simp only [px_up_set, px_set_self, px_set_set]⟩
    · have hf : f_cart (I (m + 1)) a b = (-2, I (m + 1)) := by clear hV e8; grind [f_cart]
      rw [hf, mem_id]
      refine px_iload_1 dX8_addsCart_0 ?_
      refine cd_X8_108 rfl ⟨⟨Nat.le_of_ble_eq_true rfl, Nat.le_of_ble_eq_true rfl⟩, Nat.le_of_ble_eq_true rfl, Nat.le_of_ble_eq_true rfl, Nat.le_of_ble_eq_true rfl⟩ dX8_addsCart_1 (s_X8_isTown) ?_
      refine px_ifb_ne (tgt := 9) dX8_addsCart_4 (by decide) (fun h4 => ?_) (fun h4 => (by first | exact absurd (hr) h4 | exact absurd h4 (hr)))
      refine px_iload_2 dX8_addsCart_9 ?_
      refine px_iconst (0) dX8_addsCart_10 rfl ?_
      refine px_ldc ck_X8_127 dX8_addsCart_11 ?_
      refine cd_X8_29 rfl ⟨⟨Nat.le_of_ble_eq_true rfl, Nat.le_of_ble_eq_true rfl⟩, Nat.le_of_ble_eq_true rfl, Nat.le_of_ble_eq_true rfl, Nat.le_of_ble_eq_true rfl⟩ dX8_addsCart_13 (s_X8_in) ?_
      refine px_ifb_ne (tgt := 22) dX8_addsCart_16 (by decide) (fun h16 => (by first | exact absurd h16 (hb) | exact absurd (hb) h16)) (fun h16 => ?_)
      refine px_bipush (-2) dX8_addsCart_19 rfl ?_
      refine px_iret dX8_addsCart_21 ?_
      exact ⟨rfl, rfl⟩
  · have hf : f_cart (I (m + 1)) a b = (-1, I (m + 1)) := by clear hV e8; grind [f_cart]
    rw [hf, mem_id]
    refine px_iload_1 dX8_addsCart_0 ?_
    refine cd_X8_108 rfl ⟨⟨Nat.le_of_ble_eq_true rfl, Nat.le_of_ble_eq_true rfl⟩, Nat.le_of_ble_eq_true rfl, Nat.le_of_ble_eq_true rfl, Nat.le_of_ble_eq_true rfl⟩ dX8_addsCart_1 (s_X8_isTown) ?_
    refine px_ifb_ne (tgt := 9) dX8_addsCart_4 (by decide) (fun h4 => (by first | exact absurd h4 (hr) | exact absurd (hr) h4)) (fun h4 => ?_)
    refine px_iconst (-1) dX8_addsCart_7 rfl ?_
    refine px_iret dX8_addsCart_8 ?_
    exact ⟨rfl, rfl⟩
theorem s_X8_buys {a b : Int32} (hm : px_mo G T R m) (hV : px_V (I (m + 1))) : px_K l G 2 mX8_buys ([.ref m, .int a, .int b]) ((T, I, J, R)) (some (.int (f_buy (I (m + 1)) a b).1)) ((T, px_set I (m + 1) (f_buy (I (m + 1)) a b).2, J, R)) := by
  refine px_met (M := mX8_buys) ([some (.ref m), some (.int a), some (.int b), none]) (by decide +kernel) rfl (Nat.le_of_ble_eq_true rfl) rfl ?_
  by_cases hr : rg a 0 (I (m + 1) 93 - 1)
  · obtain ⟨ha, hl, h6⟩ := ct_lt hV hr
    obtain ⟨t1, t2⟩ := town_lt hV hl
    by_cases hb : rg b 1 99
    · by_cases hc : I (m + 1) (94 + 8 * ix a + 1) < b * I (m + 1) (ix (I (m + 1) (94 + 8 * ix a + 0)))
      · have hf : f_buy (I (m + 1)) a b = (-5, I (m + 1)) := by clear hV ha t1; grind [f_buy]
        rw [hf, mem_id]
        refine px_aload_0 dX8_buys_0 ?_
        refine px_iload_1 dX8_buys_1 ?_
        refine cd_X8_134 rfl ⟨⟨Nat.le_of_ble_eq_true rfl, Nat.le_of_ble_eq_true rfl⟩, Nat.le_of_ble_eq_true rfl, Nat.le_of_ble_eq_true rfl, Nat.le_of_ble_eq_true rfl⟩ (by first | assumption | exact mo_a hm | exact mo_r0 hm | exact mo_r1 hm | exact mo_r2 hm | exact mo_r4 hm | exact mo_r6 hm | exact mo_r8 hm | exact mo_a1 hm | exact mo_a2 hm | exact mo_a3 hm | exact mo_a4 hm | exact mo_a5 hm | exact mo_a6 hm) dX8_buys_2 (s_X8_isCart hm) ?_
        refine px_ifb_ne (tgt := 10) dX8_buys_5 (by decide) (fun h5 => ?_) (fun h5 => (by first | exact absurd (hr) h5 | exact absurd h5 (hr)))
        refine px_iload_2 dX8_buys_10 ?_
        refine px_iconst (1) dX8_buys_11 rfl ?_
        refine px_bipush (99) dX8_buys_12 rfl ?_
        refine cd_X8_29 rfl ⟨⟨Nat.le_of_ble_eq_true rfl, Nat.le_of_ble_eq_true rfl⟩, Nat.le_of_ble_eq_true rfl, Nat.le_of_ble_eq_true rfl, Nat.le_of_ble_eq_true rfl⟩ dX8_buys_14 (s_X8_in) ?_
        refine px_ifb_ne (tgt := 23) dX8_buys_17 (by decide) (fun h17 => ?_) (fun h17 => (by first | exact absurd (hb) h17 | exact absurd h17 (hb)))
        refine px_iload_2 dX8_buys_23 ?_
        refine px_aload_0 dX8_buys_24 ?_
        refine gf_X8_7 rfl dX8_buys_25 (by first | assumption | exact mo_a hm | exact mo_r0 hm | exact mo_r1 hm | exact mo_r2 hm | exact mo_r4 hm | exact mo_r6 hm | exact mo_r8 hm | exact mo_a1 hm | exact mo_a2 hm | exact mo_a3 hm | exact mo_a4 hm | exact mo_a5 hm | exact mo_a6 hm) (by first | assumption | exact mo_a hm | exact mo_r0 hm | exact mo_r1 hm | exact mo_r2 hm | exact mo_r4 hm | exact mo_r6 hm | exact mo_r8 hm | exact mo_a1 hm | exact mo_a2 hm | exact mo_a3 hm | exact mo_a4 hm | exact mo_a5 hm | exact mo_a6 hm) ?_
        refine px_iconst (0) dX8_buys_28 rfl ?_
        refine px_aload_0 dX8_buys_29 ?_
        refine gf_X8_7 rfl dX8_buys_30 (by first | assumption | exact mo_a hm | exact mo_r0 hm | exact mo_r1 hm | exact mo_r2 hm | exact mo_r4 hm | exact mo_r6 hm | exact mo_r8 hm | exact mo_a1 hm | exact mo_a2 hm | exact mo_a3 hm | exact mo_a4 hm | exact mo_a5 hm | exact mo_a6 hm) (by first | assumption | exact mo_a hm | exact mo_r0 hm | exact mo_r1 hm | exact mo_r2 hm | exact mo_r4 hm | exact mo_r6 hm | exact mo_r8 hm | exact mo_a1 hm | exact mo_a2 hm | exact mo_a3 hm | exact mo_a4 hm | exact mo_a5 hm | exact mo_a6 hm) ?_
        refine px_iload_1 dX8_buys_33 ?_
        refine px_iconst (0) dX8_buys_34 rfl ?_
        refine cd_X8_128 rfl ⟨⟨Nat.le_of_ble_eq_true rfl, Nat.le_of_ble_eq_true rfl⟩, Nat.le_of_ble_eq_true rfl, Nat.le_of_ble_eq_true rfl, Nat.le_of_ble_eq_true rfl⟩ dX8_buys_35 (s_X8_ofOneCart (j := 0) ha) ?_
        refine px_ialdN dX8_buys_38 (by first | assumption | exact mo_a hm | exact mo_r0 hm | exact mo_r1 hm | exact mo_r2 hm | exact mo_r4 hm | exact mo_r6 hm | exact mo_r8 hm | exact mo_a1 hm | exact mo_a2 hm | exact mo_a3 hm | exact mo_a4 hm | exact mo_a5 hm | exact mo_a6 hm) (by first | rfl | exact ix_eq (by assumption)) (by first | decide | omega) ?_
        refine px_iadd dX8_buys_39 ?_
        rw [z_add]
        refine px_ialdN dX8_buys_40 (by first | assumption | exact mo_a hm | exact mo_r0 hm | exact mo_r1 hm | exact mo_r2 hm | exact mo_r4 hm | exact mo_r6 hm | exact mo_r8 hm | exact mo_a1 hm | exact mo_a2 hm | exact mo_a3 hm | exact mo_a4 hm | exact mo_a5 hm | exact mo_a6 hm) (by exact t1) (by omega) ?_
        refine px_imul dX8_buys_41 ?_
        refine px_istore_3 dX8_buys_42 rfl ?_
        refine px_iload_3 dX8_buys_43 ?_
        refine px_aload_0 dX8_buys_44 ?_
        refine gf_X8_7 rfl dX8_buys_45 (by first | assumption | exact mo_a hm | exact mo_r0 hm | exact mo_r1 hm | exact mo_r2 hm | exact mo_r4 hm | exact mo_r6 hm | exact mo_r8 hm | exact mo_a1 hm | exact mo_a2 hm | exact mo_a3 hm | exact mo_a4 hm | exact mo_a5 hm | exact mo_a6 hm) (by first | assumption | exact mo_a hm | exact mo_r0 hm | exact mo_r1 hm | exact mo_r2 hm | exact mo_r4 hm | exact mo_r6 hm | exact mo_r8 hm | exact mo_a1 hm | exact mo_a2 hm | exact mo_a3 hm | exact mo_a4 hm | exact mo_a5 hm | exact mo_a6 hm) ?_
        refine px_iload_1 dX8_buys_48 ?_
        refine px_iconst (1) dX8_buys_49 rfl ?_
        refine cd_X8_128 rfl ⟨⟨Nat.le_of_ble_eq_true rfl, Nat.le_of_ble_eq_true rfl⟩, Nat.le_of_ble_eq_true rfl, Nat.le_of_ble_eq_true rfl, Nat.le_of_ble_eq_true rfl⟩ dX8_buys_50 (s_X8_ofOneCart (j := 1) ha) ?_
        refine px_ialdN dX8_buys_53 (by first | assumption | exact mo_a hm | exact mo_r0 hm | exact mo_r1 hm | exact mo_r2 hm | exact mo_r4 hm | exact mo_r6 hm | exact mo_r8 hm | exact mo_a1 hm | exact mo_a2 hm | exact mo_a3 hm | exact mo_a4 hm | exact mo_a5 hm | exact mo_a6 hm) (by first | rfl | exact ix_eq (by assumption)) (by first | decide | omega) ?_
        refine px_icmp_le (tgt := 60) dX8_buys_54 (by decide) (fun h54 => (by first | exact absurd h54 ((Int32.not_le.mpr hc)) | exact absurd ((Int32.not_le.mpr hc)) h54)) (fun h54 => ?_)
        refine px_bipush (-5) dX8_buys_57 rfl ?_
        refine px_iret dX8_buys_59 ?_
        exact ⟨rfl, rfl⟩
      · by_cases hd : 99 < I (m + 1) (94 + 8 * ix a + 2) + b
        · have hf : f_buy (I (m + 1)) a b = (-4, I (m + 1)) := by clear hV ha t1; grind [f_buy]
          rw [hf, mem_id]
          refine px_aload_0 dX8_buys_0 ?_
          refine px_iload_1 dX8_buys_1 ?_
          refine cd_X8_134 rfl ⟨⟨Nat.le_of_ble_eq_true rfl, Nat.le_of_ble_eq_true rfl⟩, Nat.le_of_ble_eq_true rfl, Nat.le_of_ble_eq_true rfl, Nat.le_of_ble_eq_true rfl⟩ (by first | assumption | exact mo_a hm | exact mo_r0 hm | exact mo_r1 hm | exact mo_r2 hm | exact mo_r4 hm | exact mo_r6 hm | exact mo_r8 hm | exact mo_a1 hm | exact mo_a2 hm | exact mo_a3 hm | exact mo_a4 hm | exact mo_a5 hm | exact mo_a6 hm) dX8_buys_2 (s_X8_isCart hm) ?_
          refine px_ifb_ne (tgt := 10) dX8_buys_5 (by decide) (fun h5 => ?_) (fun h5 => (by first | exact absurd (hr) h5 | exact absurd h5 (hr)))
          refine px_iload_2 dX8_buys_10 ?_
          refine px_iconst (1) dX8_buys_11 rfl ?_
          refine px_bipush (99) dX8_buys_12 rfl ?_
          refine cd_X8_29 rfl ⟨⟨Nat.le_of_ble_eq_true rfl, Nat.le_of_ble_eq_true rfl⟩, Nat.le_of_ble_eq_true rfl, Nat.le_of_ble_eq_true rfl, Nat.le_of_ble_eq_true rfl⟩ dX8_buys_14 (s_X8_in) ?_
          refine px_ifb_ne (tgt := 23) dX8_buys_17 (by decide) (fun h17 => ?_) (fun h17 => (by first | exact absurd (hb) h17 | exact absurd h17 (hb)))
          refine px_iload_2 dX8_buys_23 ?_
          refine px_aload_0 dX8_buys_24 ?_
          refine gf_X8_7 rfl dX8_buys_25 (by first | assumption | exact mo_a hm | exact mo_r0 hm | exact mo_r1 hm | exact mo_r2 hm | exact mo_r4 hm | exact mo_r6 hm | exact mo_r8 hm | exact mo_a1 hm | exact mo_a2 hm | exact mo_a3 hm | exact mo_a4 hm | exact mo_a5 hm | exact mo_a6 hm) (by first | assumption | exact mo_a hm | exact mo_r0 hm | exact mo_r1 hm | exact mo_r2 hm | exact mo_r4 hm | exact mo_r6 hm | exact mo_r8 hm | exact mo_a1 hm | exact mo_a2 hm | exact mo_a3 hm | exact mo_a4 hm | exact mo_a5 hm | exact mo_a6 hm) ?_
          refine px_iconst (0) dX8_buys_28 rfl ?_
          refine px_aload_0 dX8_buys_29 ?_
          refine gf_X8_7 rfl dX8_buys_30 (by first | assumption | exact mo_a hm | exact mo_r0 hm | exact mo_r1 hm | exact mo_r2 hm | exact mo_r4 hm | exact mo_r6 hm | exact mo_r8 hm | exact mo_a1 hm | exact mo_a2 hm | exact mo_a3 hm | exact mo_a4 hm | exact mo_a5 hm | exact mo_a6 hm) (by first | assumption | exact mo_a hm | exact mo_r0 hm | exact mo_r1 hm | exact mo_r2 hm | exact mo_r4 hm | exact mo_r6 hm | exact mo_r8 hm | exact mo_a1 hm | exact mo_a2 hm | exact mo_a3 hm | exact mo_a4 hm | exact mo_a5 hm | exact mo_a6 hm) ?_
          refine px_iload_1 dX8_buys_33 ?_
          refine px_iconst (0) dX8_buys_34 rfl ?_
          refine cd_X8_128 rfl ⟨⟨Nat.le_of_ble_eq_true rfl, Nat.le_of_ble_eq_true rfl⟩, Nat.le_of_ble_eq_true rfl, Nat.le_of_ble_eq_true rfl, Nat.le_of_ble_eq_true rfl⟩ dX8_buys_35 (s_X8_ofOneCart (j := 0) ha) ?_
          refine px_ialdN dX8_buys_38 (by first | assumption | exact mo_a hm | exact mo_r0 hm | exact mo_r1 hm | exact mo_r2 hm | exact mo_r4 hm | exact mo_r6 hm | exact mo_r8 hm | exact mo_a1 hm | exact mo_a2 hm | exact mo_a3 hm | exact mo_a4 hm | exact mo_a5 hm | exact mo_a6 hm) (by first | rfl | exact ix_eq (by assumption)) (by first | decide | omega) ?_
          refine px_iadd dX8_buys_39 ?_
          rw [z_add]
          refine px_ialdN dX8_buys_40 (by first | assumption | exact mo_a hm | exact mo_r0 hm | exact mo_r1 hm | exact mo_r2 hm | exact mo_r4 hm | exact mo_r6 hm | exact mo_r8 hm | exact mo_a1 hm | exact mo_a2 hm | exact mo_a3 hm | exact mo_a4 hm | exact mo_a5 hm | exact mo_a6 hm) (by exact t1) (by omega) ?_
          refine px_imul dX8_buys_41 ?_
          refine px_istore_3 dX8_buys_42 rfl ?_
          refine px_iload_3 dX8_buys_43 ?_
          refine px_aload_0 dX8_buys_44 ?_
          refine gf_X8_7 rfl dX8_buys_45 (by first | assumption | exact mo_a hm | exact mo_r0 hm | exact mo_r1 hm | exact mo_r2 hm | exact mo_r4 hm | exact mo_r6 hm | exact mo_r8 hm | exact mo_a1 hm | exact mo_a2 hm | exact mo_a3 hm | exact mo_a4 hm | exact mo_a5 hm | exact mo_a6 hm) (by first | assumption | exact mo_a hm | exact mo_r0 hm | exact mo_r1 hm | exact mo_r2 hm | exact mo_r4 hm | exact mo_r6 hm | exact mo_r8 hm | exact mo_a1 hm | exact mo_a2 hm | exact mo_a3 hm | exact mo_a4 hm | exact mo_a5 hm | exact mo_a6 hm) ?_
          refine px_iload_1 dX8_buys_48 ?_
          refine px_iconst (1) dX8_buys_49 rfl ?_
          refine cd_X8_128 rfl ⟨⟨Nat.le_of_ble_eq_true rfl, Nat.le_of_ble_eq_true rfl⟩, Nat.le_of_ble_eq_true rfl, Nat.le_of_ble_eq_true rfl, Nat.le_of_ble_eq_true rfl⟩ dX8_buys_50 (s_X8_ofOneCart (j := 1) ha) ?_
          refine px_ialdN dX8_buys_53 (by first | assumption | exact mo_a hm | exact mo_r0 hm | exact mo_r1 hm | exact mo_r2 hm | exact mo_r4 hm | exact mo_r6 hm | exact mo_r8 hm | exact mo_a1 hm | exact mo_a2 hm | exact mo_a3 hm | exact mo_a4 hm | exact mo_a5 hm | exact mo_a6 hm) (by first | rfl | exact ix_eq (by assumption)) (by first | decide | omega) ?_
          refine px_icmp_le (tgt := 60) dX8_buys_54 (by decide) (fun h54 => ?_) (fun h54 => (by first | exact absurd ((Int32.not_lt.mp hc)) h54 | exact absurd h54 ((Int32.not_lt.mp hc))))
          refine px_aload_0 dX8_buys_60 ?_
          refine gf_X8_7 rfl dX8_buys_61 (by first | assumption | exact mo_a hm | exact mo_r0 hm | exact mo_r1 hm | exact mo_r2 hm | exact mo_r4 hm | exact mo_r6 hm | exact mo_r8 hm | exact mo_a1 hm | exact mo_a2 hm | exact mo_a3 hm | exact mo_a4 hm | exact mo_a5 hm | exact mo_a6 hm) (by first | assumption | exact mo_a hm | exact mo_r0 hm | exact mo_r1 hm | exact mo_r2 hm | exact mo_r4 hm | exact mo_r6 hm | exact mo_r8 hm | exact mo_a1 hm | exact mo_a2 hm | exact mo_a3 hm | exact mo_a4 hm | exact mo_a5 hm | exact mo_a6 hm) ?_
          refine px_iload_1 dX8_buys_64 ?_
          refine px_iconst (2) dX8_buys_65 rfl ?_
          refine cd_X8_128 rfl ⟨⟨Nat.le_of_ble_eq_true rfl, Nat.le_of_ble_eq_true rfl⟩, Nat.le_of_ble_eq_true rfl, Nat.le_of_ble_eq_true rfl, Nat.le_of_ble_eq_true rfl⟩ dX8_buys_66 (s_X8_ofOneCart (j := 2) ha) ?_
          refine px_ialdN dX8_buys_69 (by first | assumption | exact mo_a hm | exact mo_r0 hm | exact mo_r1 hm | exact mo_r2 hm | exact mo_r4 hm | exact mo_r6 hm | exact mo_r8 hm | exact mo_a1 hm | exact mo_a2 hm | exact mo_a3 hm | exact mo_a4 hm | exact mo_a5 hm | exact mo_a6 hm) (by first | rfl | exact ix_eq (by assumption)) (by first | decide | omega) ?_
          refine px_iload_2 dX8_buys_70 ?_
          refine px_iadd dX8_buys_71 ?_
          refine px_bipush (99) dX8_buys_72 rfl ?_
          refine px_icmp_le (tgt := 80) dX8_buys_74 (by decide) (fun h74 => (by first | exact absurd h74 ((Int32.not_le.mpr hd)) | exact absurd ((Int32.not_le.mpr hd)) h74)) (fun h74 => ?_)
          refine px_bipush (-4) dX8_buys_77 rfl ?_
          refine px_iret dX8_buys_79 ?_
          exact ⟨rfl, rfl⟩
        · have hf : f_buy (I (m + 1)) a b = (I (m + 1) (94 + 8 * ix a + 1) - b * I (m + 1) (ix (I (m + 1) (94 + 8 * ix a + 0))), upd (upd (upd (upd (I (m + 1)) (94 + 8 * ix a + 1) (I (m + 1) (94 + 8 * ix a + 1) - b * I (m + 1) (ix (I (m + 1) (94 + 8 * ix a + 0))))) (94 + 8 * ix a + 2) (I (m + 1) (94 + 8 * ix a + 2) + b)) (94 + 8 * ix a + 3) (I (m + 1) (94 + 8 * ix a + 3) + b * I (m + 1) (ix (I (m + 1) (94 + 8 * ix a + 0))))) 147 (I (m + 1) 147 + b)) := by clear hV ha t1; grind [f_buy]
          rw [hf]
          refine px_aload_0 dX8_buys_0 ?_
          refine px_iload_1 dX8_buys_1 ?_
          refine cd_X8_134 rfl ⟨⟨Nat.le_of_ble_eq_true rfl, Nat.le_of_ble_eq_true rfl⟩, Nat.le_of_ble_eq_true rfl, Nat.le_of_ble_eq_true rfl, Nat.le_of_ble_eq_true rfl⟩ (by first | assumption | exact mo_a hm | exact mo_r0 hm | exact mo_r1 hm | exact mo_r2 hm | exact mo_r4 hm | exact mo_r6 hm | exact mo_r8 hm | exact mo_a1 hm | exact mo_a2 hm | exact mo_a3 hm | exact mo_a4 hm | exact mo_a5 hm | exact mo_a6 hm) dX8_buys_2 (s_X8_isCart hm) ?_
          refine px_ifb_ne (tgt := 10) dX8_buys_5 (by decide) (fun h5 => ?_) (fun h5 => (by first | exact absurd (hr) h5 | exact absurd h5 (hr)))
          refine px_iload_2 dX8_buys_10 ?_
          refine px_iconst (1) dX8_buys_11 rfl ?_
          refine px_bipush (99) dX8_buys_12 rfl ?_
          refine cd_X8_29 rfl ⟨⟨Nat.le_of_ble_eq_true rfl, Nat.le_of_ble_eq_true rfl⟩, Nat.le_of_ble_eq_true rfl, Nat.le_of_ble_eq_true rfl, Nat.le_of_ble_eq_true rfl⟩ dX8_buys_14 (s_X8_in) ?_
          refine px_ifb_ne (tgt := 23) dX8_buys_17 (by decide) (fun h17 => ?_) (fun h17 => (by first | exact absurd (hb) h17 | exact absurd h17 (hb)))
          refine px_iload_2 dX8_buys_23 ?_
          refine px_aload_0 dX8_buys_24 ?_
          refine gf_X8_7 rfl dX8_buys_25 (by first | assumption | exact mo_a hm | exact mo_r0 hm | exact mo_r1 hm | exact mo_r2 hm | exact mo_r4 hm | exact mo_r6 hm | exact mo_r8 hm | exact mo_a1 hm | exact mo_a2 hm | exact mo_a3 hm | exact mo_a4 hm | exact mo_a5 hm | exact mo_a6 hm) (by first | assumption | exact mo_a hm | exact mo_r0 hm | exact mo_r1 hm | exact mo_r2 hm | exact mo_r4 hm | exact mo_r6 hm | exact mo_r8 hm | exact mo_a1 hm | exact mo_a2 hm | exact mo_a3 hm | exact mo_a4 hm | exact mo_a5 hm | exact mo_a6 hm) ?_
          refine px_iconst (0) dX8_buys_28 rfl ?_
          refine px_aload_0 dX8_buys_29 ?_
          refine gf_X8_7 rfl dX8_buys_30 (by first | assumption | exact mo_a hm | exact mo_r0 hm | exact mo_r1 hm | exact mo_r2 hm | exact mo_r4 hm | exact mo_r6 hm | exact mo_r8 hm | exact mo_a1 hm | exact mo_a2 hm | exact mo_a3 hm | exact mo_a4 hm | exact mo_a5 hm | exact mo_a6 hm) (by first | assumption | exact mo_a hm | exact mo_r0 hm | exact mo_r1 hm | exact mo_r2 hm | exact mo_r4 hm | exact mo_r6 hm | exact mo_r8 hm | exact mo_a1 hm | exact mo_a2 hm | exact mo_a3 hm | exact mo_a4 hm | exact mo_a5 hm | exact mo_a6 hm) ?_
          refine px_iload_1 dX8_buys_33 ?_
          refine px_iconst (0) dX8_buys_34 rfl ?_
          refine cd_X8_128 rfl ⟨⟨Nat.le_of_ble_eq_true rfl, Nat.le_of_ble_eq_true rfl⟩, Nat.le_of_ble_eq_true rfl, Nat.le_of_ble_eq_true rfl, Nat.le_of_ble_eq_true rfl⟩ dX8_buys_35 (s_X8_ofOneCart (j := 0) ha) ?_
          refine px_ialdN dX8_buys_38 (by first | assumption | exact mo_a hm | exact mo_r0 hm | exact mo_r1 hm | exact mo_r2 hm | exact mo_r4 hm | exact mo_r6 hm | exact mo_r8 hm | exact mo_a1 hm | exact mo_a2 hm | exact mo_a3 hm | exact mo_a4 hm | exact mo_a5 hm | exact mo_a6 hm) (by first | rfl | exact ix_eq (by assumption)) (by first | decide | omega) ?_
          refine px_iadd dX8_buys_39 ?_
          rw [z_add]
          refine px_ialdN dX8_buys_40 (by first | assumption | exact mo_a hm | exact mo_r0 hm | exact mo_r1 hm | exact mo_r2 hm | exact mo_r4 hm | exact mo_r6 hm | exact mo_r8 hm | exact mo_a1 hm | exact mo_a2 hm | exact mo_a3 hm | exact mo_a4 hm | exact mo_a5 hm | exact mo_a6 hm) (by exact t1) (by omega) ?_
          refine px_imul dX8_buys_41 ?_
          refine px_istore_3 dX8_buys_42 rfl ?_
          refine px_iload_3 dX8_buys_43 ?_
          refine px_aload_0 dX8_buys_44 ?_
          refine gf_X8_7 rfl dX8_buys_45 (by first | assumption | exact mo_a hm | exact mo_r0 hm | exact mo_r1 hm | exact mo_r2 hm | exact mo_r4 hm | exact mo_r6 hm | exact mo_r8 hm | exact mo_a1 hm | exact mo_a2 hm | exact mo_a3 hm | exact mo_a4 hm | exact mo_a5 hm | exact mo_a6 hm) (by first | assumption | exact mo_a hm | exact mo_r0 hm | exact mo_r1 hm | exact mo_r2 hm | exact mo_r4 hm | exact mo_r6 hm | exact mo_r8 hm | exact mo_a1 hm | exact mo_a2 hm | exact mo_a3 hm | exact mo_a4 hm | exact mo_a5 hm | exact mo_a6 hm) ?_
          refine px_iload_1 dX8_buys_48 ?_
          refine px_iconst (1) dX8_buys_49 rfl ?_
          refine cd_X8_128 rfl ⟨⟨Nat.le_of_ble_eq_true rfl, Nat.le_of_ble_eq_true rfl⟩, Nat.le_of_ble_eq_true rfl, Nat.le_of_ble_eq_true rfl, Nat.le_of_ble_eq_true rfl⟩ dX8_buys_50 (s_X8_ofOneCart (j := 1) ha) ?_
          refine px_ialdN dX8_buys_53 (by first | assumption | exact mo_a hm | exact mo_r0 hm | exact mo_r1 hm | exact mo_r2 hm | exact mo_r4 hm | exact mo_r6 hm | exact mo_r8 hm | exact mo_a1 hm | exact mo_a2 hm | exact mo_a3 hm | exact mo_a4 hm | exact mo_a5 hm | exact mo_a6 hm) (by first | rfl | exact ix_eq (by assumption)) (by first | decide | omega) ?_
          refine px_icmp_le (tgt := 60) dX8_buys_54 (by decide) (fun h54 => ?_) (fun h54 => (by first | exact absurd ((Int32.not_lt.mp hc)) h54 | exact absurd h54 ((Int32.not_lt.mp hc))))
          refine px_aload_0 dX8_buys_60 ?_
          refine gf_X8_7 rfl dX8_buys_61 (by first | assumption | exact mo_a hm | exact mo_r0 hm | exact mo_r1 hm | exact mo_r2 hm | exact mo_r4 hm | exact mo_r6 hm | exact mo_r8 hm | exact mo_a1 hm | exact mo_a2 hm | exact mo_a3 hm | exact mo_a4 hm | exact mo_a5 hm | exact mo_a6 hm) (by first | assumption | exact mo_a hm | exact mo_r0 hm | exact mo_r1 hm | exact mo_r2 hm | exact mo_r4 hm | exact mo_r6 hm | exact mo_r8 hm | exact mo_a1 hm | exact mo_a2 hm | exact mo_a3 hm | exact mo_a4 hm | exact mo_a5 hm | exact mo_a6 hm) ?_
          refine px_iload_1 dX8_buys_64 ?_
          refine px_iconst (2) dX8_buys_65 rfl ?_
          refine cd_X8_128 rfl ⟨⟨Nat.le_of_ble_eq_true rfl, Nat.le_of_ble_eq_true rfl⟩, Nat.le_of_ble_eq_true rfl, Nat.le_of_ble_eq_true rfl, Nat.le_of_ble_eq_true rfl⟩ dX8_buys_66 (s_X8_ofOneCart (j := 2) ha) ?_
          refine px_ialdN dX8_buys_69 (by first | assumption | exact mo_a hm | exact mo_r0 hm | exact mo_r1 hm | exact mo_r2 hm | exact mo_r4 hm | exact mo_r6 hm | exact mo_r8 hm | exact mo_a1 hm | exact mo_a2 hm | exact mo_a3 hm | exact mo_a4 hm | exact mo_a5 hm | exact mo_a6 hm) (by first | rfl | exact ix_eq (by assumption)) (by first | decide | omega) ?_
          refine px_iload_2 dX8_buys_70 ?_
          refine px_iadd dX8_buys_71 ?_
          refine px_bipush (99) dX8_buys_72 rfl ?_
          refine px_icmp_le (tgt := 80) dX8_buys_74 (by decide) (fun h74 => ?_) (fun h74 => (by first | exact absurd ((Int32.not_lt.mp hd)) h74 | exact absurd h74 ((Int32.not_lt.mp hd))))
          refine px_aload_0 dX8_buys_80 ?_
          refine gf_X8_7 rfl dX8_buys_81 (by first | assumption | exact mo_a hm | exact mo_r0 hm | exact mo_r1 hm | exact mo_r2 hm | exact mo_r4 hm | exact mo_r6 hm | exact mo_r8 hm | exact mo_a1 hm | exact mo_a2 hm | exact mo_a3 hm | exact mo_a4 hm | exact mo_a5 hm | exact mo_a6 hm) (by first | assumption | exact mo_a hm | exact mo_r0 hm | exact mo_r1 hm | exact mo_r2 hm | exact mo_r4 hm | exact mo_r6 hm | exact mo_r8 hm | exact mo_a1 hm | exact mo_a2 hm | exact mo_a3 hm | exact mo_a4 hm | exact mo_a5 hm | exact mo_a6 hm) ?_
          refine px_iload_1 dX8_buys_84 ?_
          refine px_iconst (1) dX8_buys_85 rfl ?_
          refine cd_X8_128 rfl ⟨⟨Nat.le_of_ble_eq_true rfl, Nat.le_of_ble_eq_true rfl⟩, Nat.le_of_ble_eq_true rfl, Nat.le_of_ble_eq_true rfl, Nat.le_of_ble_eq_true rfl⟩ dX8_buys_86 (s_X8_ofOneCart (j := 1) ha) ?_
          refine px_dup2 dX8_buys_89 rfl rfl ?_
          refine px_ialdN dX8_buys_90 (by first | assumption | exact mo_a hm | exact mo_r0 hm | exact mo_r1 hm | exact mo_r2 hm | exact mo_r4 hm | exact mo_r6 hm | exact mo_r8 hm | exact mo_a1 hm | exact mo_a2 hm | exact mo_a3 hm | exact mo_a4 hm | exact mo_a5 hm | exact mo_a6 hm) (by first | rfl | exact ix_eq (by assumption)) (by first | decide | omega) ?_
          refine px_iload_3 dX8_buys_91 ?_
          refine px_isub dX8_buys_92 ?_
          refine px_iastN dX8_buys_93 (by first | assumption | exact mo_a hm | exact mo_r0 hm | exact mo_r1 hm | exact mo_r2 hm | exact mo_r4 hm | exact mo_r6 hm | exact mo_r8 hm | exact mo_a1 hm | exact mo_a2 hm | exact mo_a3 hm | exact mo_a4 hm | exact mo_a5 hm | exact mo_a6 hm) (by first | rfl | exact ix_eq (by assumption)) (by first | decide | omega) ?_
          refine px_aload_0 dX8_buys_94 ?_
          refine gf_X8_7 rfl dX8_buys_95 (by first | assumption | exact mo_a hm | exact mo_r0 hm | exact mo_r1 hm | exact mo_r2 hm | exact mo_r4 hm | exact mo_r6 hm | exact mo_r8 hm | exact mo_a1 hm | exact mo_a2 hm | exact mo_a3 hm | exact mo_a4 hm | exact mo_a5 hm | exact mo_a6 hm) (by first | assumption | exact mo_a hm | exact mo_r0 hm | exact mo_r1 hm | exact mo_r2 hm | exact mo_r4 hm | exact mo_r6 hm | exact mo_r8 hm | exact mo_a1 hm | exact mo_a2 hm | exact mo_a3 hm | exact mo_a4 hm | exact mo_a5 hm | exact mo_a6 hm) ?_
          refine px_iload_1 dX8_buys_98 ?_
          refine px_iconst (2) dX8_buys_99 rfl ?_
          refine cd_X8_128 rfl ⟨⟨Nat.le_of_ble_eq_true rfl, Nat.le_of_ble_eq_true rfl⟩, Nat.le_of_ble_eq_true rfl, Nat.le_of_ble_eq_true rfl, Nat.le_of_ble_eq_true rfl⟩ dX8_buys_100 (s_X8_ofOneCart (j := 2) ha) ?_
          refine px_dup2 dX8_buys_103 rfl rfl ?_
          refine px_ialdN dX8_buys_104 (by first | assumption | exact mo_a hm | exact mo_r0 hm | exact mo_r1 hm | exact mo_r2 hm | exact mo_r4 hm | exact mo_r6 hm | exact mo_r8 hm | exact mo_a1 hm | exact mo_a2 hm | exact mo_a3 hm | exact mo_a4 hm | exact mo_a5 hm | exact mo_a6 hm) (by first | rfl | exact ix_eq (by assumption)) (by first | decide | omega) ?_
          rw [px_up_nj (by omega)]
          refine px_iload_2 dX8_buys_105 ?_
          refine px_iadd dX8_buys_106 ?_
          refine px_iastN dX8_buys_107 (by first | assumption | exact mo_a hm | exact mo_r0 hm | exact mo_r1 hm | exact mo_r2 hm | exact mo_r4 hm | exact mo_r6 hm | exact mo_r8 hm | exact mo_a1 hm | exact mo_a2 hm | exact mo_a3 hm | exact mo_a4 hm | exact mo_a5 hm | exact mo_a6 hm) (by first | rfl | exact ix_eq (by assumption)) (by first | decide | omega) ?_
          refine px_aload_0 dX8_buys_108 ?_
          refine gf_X8_7 rfl dX8_buys_109 (by first | assumption | exact mo_a hm | exact mo_r0 hm | exact mo_r1 hm | exact mo_r2 hm | exact mo_r4 hm | exact mo_r6 hm | exact mo_r8 hm | exact mo_a1 hm | exact mo_a2 hm | exact mo_a3 hm | exact mo_a4 hm | exact mo_a5 hm | exact mo_a6 hm) (by first | assumption | exact mo_a hm | exact mo_r0 hm | exact mo_r1 hm | exact mo_r2 hm | exact mo_r4 hm | exact mo_r6 hm | exact mo_r8 hm | exact mo_a1 hm | exact mo_a2 hm | exact mo_a3 hm | exact mo_a4 hm | exact mo_a5 hm | exact mo_a6 hm) ?_
          refine px_iload_1 dX8_buys_112 ?_
          refine px_iconst (3) dX8_buys_113 rfl ?_
          refine cd_X8_128 rfl ⟨⟨Nat.le_of_ble_eq_true rfl, Nat.le_of_ble_eq_true rfl⟩, Nat.le_of_ble_eq_true rfl, Nat.le_of_ble_eq_true rfl, Nat.le_of_ble_eq_true rfl⟩ dX8_buys_114 (s_X8_ofOneCart (j := 3) ha) ?_
          refine px_dup2 dX8_buys_117 rfl rfl ?_
          refine px_ialdN dX8_buys_118 (by first | assumption | exact mo_a hm | exact mo_r0 hm | exact mo_r1 hm | exact mo_r2 hm | exact mo_r4 hm | exact mo_r6 hm | exact mo_r8 hm | exact mo_a1 hm | exact mo_a2 hm | exact mo_a3 hm | exact mo_a4 hm | exact mo_a5 hm | exact mo_a6 hm) (by first | rfl | exact ix_eq (by assumption)) (by first | decide | omega) ?_
          rw [px_up_nj (by omega), px_up_nj (by omega)]
          refine px_iload_3 dX8_buys_119 ?_
          refine px_iadd dX8_buys_120 ?_
          refine px_iastN dX8_buys_121 (by first | assumption | exact mo_a hm | exact mo_r0 hm | exact mo_r1 hm | exact mo_r2 hm | exact mo_r4 hm | exact mo_r6 hm | exact mo_r8 hm | exact mo_a1 hm | exact mo_a2 hm | exact mo_a3 hm | exact mo_a4 hm | exact mo_a5 hm | exact mo_a6 hm) (by first | rfl | exact ix_eq (by assumption)) (by first | decide | omega) ?_
          refine px_aload_0 dX8_buys_122 ?_
          refine gf_X8_7 rfl dX8_buys_123 (by first | assumption | exact mo_a hm | exact mo_r0 hm | exact mo_r1 hm | exact mo_r2 hm | exact mo_r4 hm | exact mo_r6 hm | exact mo_r8 hm | exact mo_a1 hm | exact mo_a2 hm | exact mo_a3 hm | exact mo_a4 hm | exact mo_a5 hm | exact mo_a6 hm) (by first | assumption | exact mo_a hm | exact mo_r0 hm | exact mo_r1 hm | exact mo_r2 hm | exact mo_r4 hm | exact mo_r6 hm | exact mo_r8 hm | exact mo_a1 hm | exact mo_a2 hm | exact mo_a3 hm | exact mo_a4 hm | exact mo_a5 hm | exact mo_a6 hm) ?_
          refine px_sipush (147) dX8_buys_126 rfl ?_
          refine px_dup2 dX8_buys_129 rfl rfl ?_
          refine px_ialdN (j := 147) dX8_buys_130 (by first | assumption | exact mo_a hm | exact mo_r0 hm | exact mo_r1 hm | exact mo_r2 hm | exact mo_r4 hm | exact mo_r6 hm | exact mo_r8 hm | exact mo_a1 hm | exact mo_a2 hm | exact mo_a3 hm | exact mo_a4 hm | exact mo_a5 hm | exact mo_a6 hm) (by first | rfl | exact ix_eq (by assumption)) (by first | decide | omega) ?_
          rw [px_up_nj (by omega), px_up_nj (by omega), px_up_nj (by omega)]
          refine px_iload_2 dX8_buys_131 ?_
          refine px_iadd dX8_buys_132 ?_
          refine px_iastN (j := 147) dX8_buys_133 (by first | assumption | exact mo_a hm | exact mo_r0 hm | exact mo_r1 hm | exact mo_r2 hm | exact mo_r4 hm | exact mo_r6 hm | exact mo_r8 hm | exact mo_a1 hm | exact mo_a2 hm | exact mo_a3 hm | exact mo_a4 hm | exact mo_a5 hm | exact mo_a6 hm) (by first | rfl | exact ix_eq (by assumption)) (by first | decide | omega) ?_
          refine px_aload_0 dX8_buys_134 ?_
          refine gf_X8_7 rfl dX8_buys_135 (by first | assumption | exact mo_a hm | exact mo_r0 hm | exact mo_r1 hm | exact mo_r2 hm | exact mo_r4 hm | exact mo_r6 hm | exact mo_r8 hm | exact mo_a1 hm | exact mo_a2 hm | exact mo_a3 hm | exact mo_a4 hm | exact mo_a5 hm | exact mo_a6 hm) (by first | assumption | exact mo_a hm | exact mo_r0 hm | exact mo_r1 hm | exact mo_r2 hm | exact mo_r4 hm | exact mo_r6 hm | exact mo_r8 hm | exact mo_a1 hm | exact mo_a2 hm | exact mo_a3 hm | exact mo_a4 hm | exact mo_a5 hm | exact mo_a6 hm) ?_
          refine px_iload_1 dX8_buys_138 ?_
          refine px_iconst (1) dX8_buys_139 rfl ?_
          refine cd_X8_128 rfl ⟨⟨Nat.le_of_ble_eq_true rfl, Nat.le_of_ble_eq_true rfl⟩, Nat.le_of_ble_eq_true rfl, Nat.le_of_ble_eq_true rfl, Nat.le_of_ble_eq_true rfl⟩ dX8_buys_140 (s_X8_ofOneCart (j := 1) ha) ?_
          refine px_ialdN dX8_buys_143 (by first | assumption | exact mo_a hm | exact mo_r0 hm | exact mo_r1 hm | exact mo_r2 hm | exact mo_r4 hm | exact mo_r6 hm | exact mo_r8 hm | exact mo_a1 hm | exact mo_a2 hm | exact mo_a3 hm | exact mo_a4 hm | exact mo_a5 hm | exact mo_a6 hm) (by first | rfl | exact ix_eq (by assumption)) (by first | decide | omega) ?_
          rw [px_up_nj (by omega), px_up_nj (by omega), px_up_nj (by omega), px_up_self]
          refine px_iret dX8_buys_144 ?_
          exact ⟨rfl, by simp only [px_up_set, px_set_self, px_set_set]⟩
    · have hf : f_buy (I (m + 1)) a b = (-2, I (m + 1)) := by clear hV ha t1; grind [f_buy]
      rw [hf, mem_id]
      refine px_aload_0 dX8_buys_0 ?_
      refine px_iload_1 dX8_buys_1 ?_
      refine cd_X8_134 rfl ⟨⟨Nat.le_of_ble_eq_true rfl, Nat.le_of_ble_eq_true rfl⟩, Nat.le_of_ble_eq_true rfl, Nat.le_of_ble_eq_true rfl, Nat.le_of_ble_eq_true rfl⟩ (by first | assumption | exact mo_a hm | exact mo_r0 hm | exact mo_r1 hm | exact mo_r2 hm | exact mo_r4 hm | exact mo_r6 hm | exact mo_r8 hm | exact mo_a1 hm | exact mo_a2 hm | exact mo_a3 hm | exact mo_a4 hm | exact mo_a5 hm | exact mo_a6 hm) dX8_buys_2 (s_X8_isCart hm) ?_
      refine px_ifb_ne (tgt := 10) dX8_buys_5 (by decide) (fun h5 => ?_) (fun h5 => (by first | exact absurd (hr) h5 | exact absurd h5 (hr)))
      refine px_iload_2 dX8_buys_10 ?_
      refine px_iconst (1) dX8_buys_11 rfl ?_
      refine px_bipush (99) dX8_buys_12 rfl ?_
      refine cd_X8_29 rfl ⟨⟨Nat.le_of_ble_eq_true rfl, Nat.le_of_ble_eq_true rfl⟩, Nat.le_of_ble_eq_true rfl, Nat.le_of_ble_eq_true rfl, Nat.le_of_ble_eq_true rfl⟩ dX8_buys_14 (s_X8_in) ?_
      refine px_ifb_ne (tgt := 23) dX8_buys_17 (by decide) (fun h17 => (by first | exact absurd h17 (hb) | exact absurd (hb) h17)) (fun h17 => ?_)
      refine px_bipush (-2) dX8_buys_20 rfl ?_
      refine px_iret dX8_buys_22 ?_
      exact ⟨rfl, rfl⟩
  · have hf : f_buy (I (m + 1)) a b = (-1, I (m + 1)) := by clear hV; grind [f_buy]
    rw [hf, mem_id]
    refine px_aload_0 dX8_buys_0 ?_
    refine px_iload_1 dX8_buys_1 ?_
    refine cd_X8_134 rfl ⟨⟨Nat.le_of_ble_eq_true rfl, Nat.le_of_ble_eq_true rfl⟩, Nat.le_of_ble_eq_true rfl, Nat.le_of_ble_eq_true rfl, Nat.le_of_ble_eq_true rfl⟩ (by first | assumption | exact mo_a hm | exact mo_r0 hm | exact mo_r1 hm | exact mo_r2 hm | exact mo_r4 hm | exact mo_r6 hm | exact mo_r8 hm | exact mo_a1 hm | exact mo_a2 hm | exact mo_a3 hm | exact mo_a4 hm | exact mo_a5 hm | exact mo_a6 hm) dX8_buys_2 (s_X8_isCart hm) ?_
    refine px_ifb_ne (tgt := 10) dX8_buys_5 (by decide) (fun h5 => (by first | exact absurd h5 (hr) | exact absurd (hr) h5)) (fun h5 => ?_)
    refine px_iconst (-1) dX8_buys_8 rfl ?_
    refine px_iret dX8_buys_9 ?_
    exact ⟨rfl, rfl⟩
theorem s_X8_sells {a b : Int32} (hm : px_mo G T R m) (hV : px_V (I (m + 1))) : px_K l G 2 mX8_sells ([.ref m, .int a, .int b]) ((T, I, J, R)) (some (.int (f_sell (I (m + 1)) a b).1)) ((T, px_set I (m + 1) (f_sell (I (m + 1)) a b).2, J, R)) := by
  refine px_met (M := mX8_sells) ([some (.ref m), some (.int a), some (.int b), none]) (by decide +kernel) rfl (Nat.le_of_ble_eq_true rfl) rfl ?_
  by_cases hr : rg a 0 (I (m + 1) 93 - 1)
  · obtain ⟨ha, hl, h6⟩ := ct_lt hV hr
    obtain ⟨t1, t2⟩ := town_lt hV hl
    by_cases hb : rg b 1 99
    · by_cases hc : I (m + 1) (94 + 8 * ix a + 2) < b
      · have hf : f_sell (I (m + 1)) a b = (-5, I (m + 1)) := by clear hV ha t1; grind [f_sell]
        rw [hf, mem_id]
        refine px_aload_0 dX8_sells_0 ?_
        refine px_iload_1 dX8_sells_1 ?_
        refine cd_X8_134 rfl ⟨⟨Nat.le_of_ble_eq_true rfl, Nat.le_of_ble_eq_true rfl⟩, Nat.le_of_ble_eq_true rfl, Nat.le_of_ble_eq_true rfl, Nat.le_of_ble_eq_true rfl⟩ (by first | assumption | exact mo_a hm | exact mo_r0 hm | exact mo_r1 hm | exact mo_r2 hm | exact mo_r4 hm | exact mo_r6 hm | exact mo_r8 hm | exact mo_a1 hm | exact mo_a2 hm | exact mo_a3 hm | exact mo_a4 hm | exact mo_a5 hm | exact mo_a6 hm) dX8_sells_2 (s_X8_isCart hm) ?_
        refine px_ifb_ne (tgt := 10) dX8_sells_5 (by decide) (fun h5 => ?_) (fun h5 => (by first | exact absurd (hr) h5 | exact absurd h5 (hr)))
        refine px_iload_2 dX8_sells_10 ?_
        refine px_iconst (1) dX8_sells_11 rfl ?_
        refine px_bipush (99) dX8_sells_12 rfl ?_
        refine cd_X8_29 rfl ⟨⟨Nat.le_of_ble_eq_true rfl, Nat.le_of_ble_eq_true rfl⟩, Nat.le_of_ble_eq_true rfl, Nat.le_of_ble_eq_true rfl, Nat.le_of_ble_eq_true rfl⟩ dX8_sells_14 (s_X8_in) ?_
        refine px_ifb_ne (tgt := 23) dX8_sells_17 (by decide) (fun h17 => ?_) (fun h17 => (by first | exact absurd (hb) h17 | exact absurd h17 (hb)))
        refine px_aload_0 dX8_sells_23 ?_
        refine gf_X8_7 rfl dX8_sells_24 (by first | assumption | exact mo_a hm | exact mo_r0 hm | exact mo_r1 hm | exact mo_r2 hm | exact mo_r4 hm | exact mo_r6 hm | exact mo_r8 hm | exact mo_a1 hm | exact mo_a2 hm | exact mo_a3 hm | exact mo_a4 hm | exact mo_a5 hm | exact mo_a6 hm) (by first | assumption | exact mo_a hm | exact mo_r0 hm | exact mo_r1 hm | exact mo_r2 hm | exact mo_r4 hm | exact mo_r6 hm | exact mo_r8 hm | exact mo_a1 hm | exact mo_a2 hm | exact mo_a3 hm | exact mo_a4 hm | exact mo_a5 hm | exact mo_a6 hm) ?_
        refine px_iload_1 dX8_sells_27 ?_
        refine px_iconst (2) dX8_sells_28 rfl ?_
        refine cd_X8_128 rfl ⟨⟨Nat.le_of_ble_eq_true rfl, Nat.le_of_ble_eq_true rfl⟩, Nat.le_of_ble_eq_true rfl, Nat.le_of_ble_eq_true rfl, Nat.le_of_ble_eq_true rfl⟩ dX8_sells_29 (s_X8_ofOneCart (j := 2) ha) ?_
        refine px_ialdN dX8_sells_32 (by first | assumption | exact mo_a hm | exact mo_r0 hm | exact mo_r1 hm | exact mo_r2 hm | exact mo_r4 hm | exact mo_r6 hm | exact mo_r8 hm | exact mo_a1 hm | exact mo_a2 hm | exact mo_a3 hm | exact mo_a4 hm | exact mo_a5 hm | exact mo_a6 hm) (by first | rfl | exact ix_eq (by assumption)) (by first | decide | omega) ?_
        refine px_iload_2 dX8_sells_33 ?_
        refine px_icmp_ge (tgt := 40) dX8_sells_34 (by decide) (fun h34 => (by first | exact absurd h34 ((Int32.not_le.mpr hc)) | exact absurd ((Int32.not_le.mpr hc)) h34)) (fun h34 => ?_)
        refine px_bipush (-5) dX8_sells_37 rfl ?_
        refine px_iret dX8_sells_39 ?_
        exact ⟨rfl, rfl⟩
      · by_cases hd : 99999 < I (m + 1) (94 + 8 * ix a + 1) + b * I (m + 1) (ix (I (m + 1) (94 + 8 * ix a + 0)))
        · have hf : f_sell (I (m + 1)) a b = (-4, I (m + 1)) := by clear hV ha t1; grind [f_sell]
          rw [hf, mem_id]
          refine px_aload_0 dX8_sells_0 ?_
          refine px_iload_1 dX8_sells_1 ?_
          refine cd_X8_134 rfl ⟨⟨Nat.le_of_ble_eq_true rfl, Nat.le_of_ble_eq_true rfl⟩, Nat.le_of_ble_eq_true rfl, Nat.le_of_ble_eq_true rfl, Nat.le_of_ble_eq_true rfl⟩ (by first | assumption | exact mo_a hm | exact mo_r0 hm | exact mo_r1 hm | exact mo_r2 hm | exact mo_r4 hm | exact mo_r6 hm | exact mo_r8 hm | exact mo_a1 hm | exact mo_a2 hm | exact mo_a3 hm | exact mo_a4 hm | exact mo_a5 hm | exact mo_a6 hm) dX8_sells_2 (s_X8_isCart hm) ?_
          refine px_ifb_ne (tgt := 10) dX8_sells_5 (by decide) (fun h5 => ?_) (fun h5 => (by first | exact absurd (hr) h5 | exact absurd h5 (hr)))
          refine px_iload_2 dX8_sells_10 ?_
          refine px_iconst (1) dX8_sells_11 rfl ?_
          refine px_bipush (99) dX8_sells_12 rfl ?_
          refine cd_X8_29 rfl ⟨⟨Nat.le_of_ble_eq_true rfl, Nat.le_of_ble_eq_true rfl⟩, Nat.le_of_ble_eq_true rfl, Nat.le_of_ble_eq_true rfl, Nat.le_of_ble_eq_true rfl⟩ dX8_sells_14 (s_X8_in) ?_
          refine px_ifb_ne (tgt := 23) dX8_sells_17 (by decide) (fun h17 => ?_) (fun h17 => (by first | exact absurd (hb) h17 | exact absurd h17 (hb)))
          refine px_aload_0 dX8_sells_23 ?_
          refine gf_X8_7 rfl dX8_sells_24 (by first | assumption | exact mo_a hm | exact mo_r0 hm | exact mo_r1 hm | exact mo_r2 hm | exact mo_r4 hm | exact mo_r6 hm | exact mo_r8 hm | exact mo_a1 hm | exact mo_a2 hm | exact mo_a3 hm | exact mo_a4 hm | exact mo_a5 hm | exact mo_a6 hm) (by first | assumption | exact mo_a hm | exact mo_r0 hm | exact mo_r1 hm | exact mo_r2 hm | exact mo_r4 hm | exact mo_r6 hm | exact mo_r8 hm | exact mo_a1 hm | exact mo_a2 hm | exact mo_a3 hm | exact mo_a4 hm | exact mo_a5 hm | exact mo_a6 hm) ?_
          refine px_iload_1 dX8_sells_27 ?_
          refine px_iconst (2) dX8_sells_28 rfl ?_
          refine cd_X8_128 rfl ⟨⟨Nat.le_of_ble_eq_true rfl, Nat.le_of_ble_eq_true rfl⟩, Nat.le_of_ble_eq_true rfl, Nat.le_of_ble_eq_true rfl, Nat.le_of_ble_eq_true rfl⟩ dX8_sells_29 (s_X8_ofOneCart (j := 2) ha) ?_
          refine px_ialdN dX8_sells_32 (by first | assumption | exact mo_a hm | exact mo_r0 hm | exact mo_r1 hm | exact mo_r2 hm | exact mo_r4 hm | exact mo_r6 hm | exact mo_r8 hm | exact mo_a1 hm | exact mo_a2 hm | exact mo_a3 hm | exact mo_a4 hm | exact mo_a5 hm | exact mo_a6 hm) (by first | rfl | exact ix_eq (by assumption)) (by first | decide | omega) ?_
          refine px_iload_2 dX8_sells_33 ?_
          refine px_icmp_ge (tgt := 40) dX8_sells_34 (by decide) (fun h34 => ?_) (fun h34 => (by first | exact absurd ((Int32.not_lt.mp hc)) h34 | exact absurd h34 ((Int32.not_lt.mp hc))))
          refine px_iload_2 dX8_sells_40 ?_
          refine px_aload_0 dX8_sells_41 ?_
          refine gf_X8_7 rfl dX8_sells_42 (by first | assumption | exact mo_a hm | exact mo_r0 hm | exact mo_r1 hm | exact mo_r2 hm | exact mo_r4 hm | exact mo_r6 hm | exact mo_r8 hm | exact mo_a1 hm | exact mo_a2 hm | exact mo_a3 hm | exact mo_a4 hm | exact mo_a5 hm | exact mo_a6 hm) (by first | assumption | exact mo_a hm | exact mo_r0 hm | exact mo_r1 hm | exact mo_r2 hm | exact mo_r4 hm | exact mo_r6 hm | exact mo_r8 hm | exact mo_a1 hm | exact mo_a2 hm | exact mo_a3 hm | exact mo_a4 hm | exact mo_a5 hm | exact mo_a6 hm) ?_
          refine px_iconst (0) dX8_sells_45 rfl ?_
          refine px_aload_0 dX8_sells_46 ?_
          refine gf_X8_7 rfl dX8_sells_47 (by first | assumption | exact mo_a hm | exact mo_r0 hm | exact mo_r1 hm | exact mo_r2 hm | exact mo_r4 hm | exact mo_r6 hm | exact mo_r8 hm | exact mo_a1 hm | exact mo_a2 hm | exact mo_a3 hm | exact mo_a4 hm | exact mo_a5 hm | exact mo_a6 hm) (by first | assumption | exact mo_a hm | exact mo_r0 hm | exact mo_r1 hm | exact mo_r2 hm | exact mo_r4 hm | exact mo_r6 hm | exact mo_r8 hm | exact mo_a1 hm | exact mo_a2 hm | exact mo_a3 hm | exact mo_a4 hm | exact mo_a5 hm | exact mo_a6 hm) ?_
          refine px_iload_1 dX8_sells_50 ?_
          refine px_iconst (0) dX8_sells_51 rfl ?_
          refine cd_X8_128 rfl ⟨⟨Nat.le_of_ble_eq_true rfl, Nat.le_of_ble_eq_true rfl⟩, Nat.le_of_ble_eq_true rfl, Nat.le_of_ble_eq_true rfl, Nat.le_of_ble_eq_true rfl⟩ dX8_sells_52 (s_X8_ofOneCart (j := 0) ha) ?_
          refine px_ialdN dX8_sells_55 (by first | assumption | exact mo_a hm | exact mo_r0 hm | exact mo_r1 hm | exact mo_r2 hm | exact mo_r4 hm | exact mo_r6 hm | exact mo_r8 hm | exact mo_a1 hm | exact mo_a2 hm | exact mo_a3 hm | exact mo_a4 hm | exact mo_a5 hm | exact mo_a6 hm) (by first | rfl | exact ix_eq (by assumption)) (by first | decide | omega) ?_
          refine px_iadd dX8_sells_56 ?_
          rw [z_add]
          refine px_ialdN dX8_sells_57 (by first | assumption | exact mo_a hm | exact mo_r0 hm | exact mo_r1 hm | exact mo_r2 hm | exact mo_r4 hm | exact mo_r6 hm | exact mo_r8 hm | exact mo_a1 hm | exact mo_a2 hm | exact mo_a3 hm | exact mo_a4 hm | exact mo_a5 hm | exact mo_a6 hm) (by exact t1) (by omega) ?_
          refine px_imul dX8_sells_58 ?_
          refine px_istore_3 dX8_sells_59 rfl ?_
          refine px_aload_0 dX8_sells_60 ?_
          refine gf_X8_7 rfl dX8_sells_61 (by first | assumption | exact mo_a hm | exact mo_r0 hm | exact mo_r1 hm | exact mo_r2 hm | exact mo_r4 hm | exact mo_r6 hm | exact mo_r8 hm | exact mo_a1 hm | exact mo_a2 hm | exact mo_a3 hm | exact mo_a4 hm | exact mo_a5 hm | exact mo_a6 hm) (by first | assumption | exact mo_a hm | exact mo_r0 hm | exact mo_r1 hm | exact mo_r2 hm | exact mo_r4 hm | exact mo_r6 hm | exact mo_r8 hm | exact mo_a1 hm | exact mo_a2 hm | exact mo_a3 hm | exact mo_a4 hm | exact mo_a5 hm | exact mo_a6 hm) ?_
          refine px_iload_1 dX8_sells_64 ?_
          refine px_iconst (1) dX8_sells_65 rfl ?_
          refine cd_X8_128 rfl ⟨⟨Nat.le_of_ble_eq_true rfl, Nat.le_of_ble_eq_true rfl⟩, Nat.le_of_ble_eq_true rfl, Nat.le_of_ble_eq_true rfl, Nat.le_of_ble_eq_true rfl⟩ dX8_sells_66 (s_X8_ofOneCart (j := 1) ha) ?_
          refine px_ialdN dX8_sells_69 (by first | assumption | exact mo_a hm | exact mo_r0 hm | exact mo_r1 hm | exact mo_r2 hm | exact mo_r4 hm | exact mo_r6 hm | exact mo_r8 hm | exact mo_a1 hm | exact mo_a2 hm | exact mo_a3 hm | exact mo_a4 hm | exact mo_a5 hm | exact mo_a6 hm) (by first | rfl | exact ix_eq (by assumption)) (by first | decide | omega) ?_
          refine px_iload_3 dX8_sells_70 ?_
          refine px_iadd dX8_sells_71 ?_
          refine px_ldc ck_X8_127 dX8_sells_72 ?_
          refine px_icmp_le (tgt := 80) dX8_sells_74 (by decide) (fun h74 => (by first | exact absurd h74 ((Int32.not_le.mpr hd)) | exact absurd ((Int32.not_le.mpr hd)) h74)) (fun h74 => ?_)
          refine px_bipush (-4) dX8_sells_77 rfl ?_
          refine px_iret dX8_sells_79 ?_
          exact ⟨rfl, rfl⟩
        · have hf : f_sell (I (m + 1)) a b = (I (m + 1) (94 + 8 * ix a + 1) + b * I (m + 1) (ix (I (m + 1) (94 + 8 * ix a + 0))), upd (upd (upd (upd (I (m + 1)) (94 + 8 * ix a + 1) (I (m + 1) (94 + 8 * ix a + 1) + b * I (m + 1) (ix (I (m + 1) (94 + 8 * ix a + 0))))) (94 + 8 * ix a + 2) (I (m + 1) (94 + 8 * ix a + 2) - b)) (94 + 8 * ix a + 4) (I (m + 1) (94 + 8 * ix a + 4) + b * I (m + 1) (ix (I (m + 1) (94 + 8 * ix a + 0))))) 148 (I (m + 1) 148 + b)) := by clear hV ha t1; grind [f_sell]
          rw [hf]
          refine px_aload_0 dX8_sells_0 ?_
          refine px_iload_1 dX8_sells_1 ?_
          refine cd_X8_134 rfl ⟨⟨Nat.le_of_ble_eq_true rfl, Nat.le_of_ble_eq_true rfl⟩, Nat.le_of_ble_eq_true rfl, Nat.le_of_ble_eq_true rfl, Nat.le_of_ble_eq_true rfl⟩ (by first | assumption | exact mo_a hm | exact mo_r0 hm | exact mo_r1 hm | exact mo_r2 hm | exact mo_r4 hm | exact mo_r6 hm | exact mo_r8 hm | exact mo_a1 hm | exact mo_a2 hm | exact mo_a3 hm | exact mo_a4 hm | exact mo_a5 hm | exact mo_a6 hm) dX8_sells_2 (s_X8_isCart hm) ?_
          refine px_ifb_ne (tgt := 10) dX8_sells_5 (by decide) (fun h5 => ?_) (fun h5 => (by first | exact absurd (hr) h5 | exact absurd h5 (hr)))
          refine px_iload_2 dX8_sells_10 ?_
          refine px_iconst (1) dX8_sells_11 rfl ?_
          refine px_bipush (99) dX8_sells_12 rfl ?_
          refine cd_X8_29 rfl ⟨⟨Nat.le_of_ble_eq_true rfl, Nat.le_of_ble_eq_true rfl⟩, Nat.le_of_ble_eq_true rfl, Nat.le_of_ble_eq_true rfl, Nat.le_of_ble_eq_true rfl⟩ dX8_sells_14 (s_X8_in) ?_
          refine px_ifb_ne (tgt := 23) dX8_sells_17 (by decide) (fun h17 => ?_) (fun h17 => (by first | exact absurd (hb) h17 | exact absurd h17 (hb)))
          refine px_aload_0 dX8_sells_23 ?_
          refine gf_X8_7 rfl dX8_sells_24 (by first | assumption | exact mo_a hm | exact mo_r0 hm | exact mo_r1 hm | exact mo_r2 hm | exact mo_r4 hm | exact mo_r6 hm | exact mo_r8 hm | exact mo_a1 hm | exact mo_a2 hm | exact mo_a3 hm | exact mo_a4 hm | exact mo_a5 hm | exact mo_a6 hm) (by first | assumption | exact mo_a hm | exact mo_r0 hm | exact mo_r1 hm | exact mo_r2 hm | exact mo_r4 hm | exact mo_r6 hm | exact mo_r8 hm | exact mo_a1 hm | exact mo_a2 hm | exact mo_a3 hm | exact mo_a4 hm | exact mo_a5 hm | exact mo_a6 hm) ?_
          refine px_iload_1 dX8_sells_27 ?_
          refine px_iconst (2) dX8_sells_28 rfl ?_
          refine cd_X8_128 rfl ⟨⟨Nat.le_of_ble_eq_true rfl, Nat.le_of_ble_eq_true rfl⟩, Nat.le_of_ble_eq_true rfl, Nat.le_of_ble_eq_true rfl, Nat.le_of_ble_eq_true rfl⟩ dX8_sells_29 (s_X8_ofOneCart (j := 2) ha) ?_
          refine px_ialdN dX8_sells_32 (by first | assumption | exact mo_a hm | exact mo_r0 hm | exact mo_r1 hm | exact mo_r2 hm | exact mo_r4 hm | exact mo_r6 hm | exact mo_r8 hm | exact mo_a1 hm | exact mo_a2 hm | exact mo_a3 hm | exact mo_a4 hm | exact mo_a5 hm | exact mo_a6 hm) (by first | rfl | exact ix_eq (by assumption)) (by first | decide | omega) ?_
          refine px_iload_2 dX8_sells_33 ?_
          refine px_icmp_ge (tgt := 40) dX8_sells_34 (by decide) (fun h34 => ?_) (fun h34 => (by first | exact absurd ((Int32.not_lt.mp hc)) h34 | exact absurd h34 ((Int32.not_lt.mp hc))))
          refine px_iload_2 dX8_sells_40 ?_
          refine px_aload_0 dX8_sells_41 ?_
          refine gf_X8_7 rfl dX8_sells_42 (by first | assumption | exact mo_a hm | exact mo_r0 hm | exact mo_r1 hm | exact mo_r2 hm | exact mo_r4 hm | exact mo_r6 hm | exact mo_r8 hm | exact mo_a1 hm | exact mo_a2 hm | exact mo_a3 hm | exact mo_a4 hm | exact mo_a5 hm | exact mo_a6 hm) (by first | assumption | exact mo_a hm | exact mo_r0 hm | exact mo_r1 hm | exact mo_r2 hm | exact mo_r4 hm | exact mo_r6 hm | exact mo_r8 hm | exact mo_a1 hm | exact mo_a2 hm | exact mo_a3 hm | exact mo_a4 hm | exact mo_a5 hm | exact mo_a6 hm) ?_
          refine px_iconst (0) dX8_sells_45 rfl ?_
          refine px_aload_0 dX8_sells_46 ?_
          refine gf_X8_7 rfl dX8_sells_47 (by first | assumption | exact mo_a hm | exact mo_r0 hm | exact mo_r1 hm | exact mo_r2 hm | exact mo_r4 hm | exact mo_r6 hm | exact mo_r8 hm | exact mo_a1 hm | exact mo_a2 hm | exact mo_a3 hm | exact mo_a4 hm | exact mo_a5 hm | exact mo_a6 hm) (by first | assumption | exact mo_a hm | exact mo_r0 hm | exact mo_r1 hm | exact mo_r2 hm | exact mo_r4 hm | exact mo_r6 hm | exact mo_r8 hm | exact mo_a1 hm | exact mo_a2 hm | exact mo_a3 hm | exact mo_a4 hm | exact mo_a5 hm | exact mo_a6 hm) ?_
          refine px_iload_1 dX8_sells_50 ?_
          refine px_iconst (0) dX8_sells_51 rfl ?_
          refine cd_X8_128 rfl ⟨⟨Nat.le_of_ble_eq_true rfl, Nat.le_of_ble_eq_true rfl⟩, Nat.le_of_ble_eq_true rfl, Nat.le_of_ble_eq_true rfl, Nat.le_of_ble_eq_true rfl⟩ dX8_sells_52 (s_X8_ofOneCart (j := 0) ha) ?_
          refine px_ialdN dX8_sells_55 (by first | assumption | exact mo_a hm | exact mo_r0 hm | exact mo_r1 hm | exact mo_r2 hm | exact mo_r4 hm | exact mo_r6 hm | exact mo_r8 hm | exact mo_a1 hm | exact mo_a2 hm | exact mo_a3 hm | exact mo_a4 hm | exact mo_a5 hm | exact mo_a6 hm) (by first | rfl | exact ix_eq (by assumption)) (by first | decide | omega) ?_
          refine px_iadd dX8_sells_56 ?_
          rw [z_add]
          refine px_ialdN dX8_sells_57 (by first | assumption | exact mo_a hm | exact mo_r0 hm | exact mo_r1 hm | exact mo_r2 hm | exact mo_r4 hm | exact mo_r6 hm | exact mo_r8 hm | exact mo_a1 hm | exact mo_a2 hm | exact mo_a3 hm | exact mo_a4 hm | exact mo_a5 hm | exact mo_a6 hm) (by exact t1) (by omega) ?_
          refine px_imul dX8_sells_58 ?_
          refine px_istore_3 dX8_sells_59 rfl ?_
          refine px_aload_0 dX8_sells_60 ?_
          refine gf_X8_7 rfl dX8_sells_61 (by first | assumption | exact mo_a hm | exact mo_r0 hm | exact mo_r1 hm | exact mo_r2 hm | exact mo_r4 hm | exact mo_r6 hm | exact mo_r8 hm | exact mo_a1 hm | exact mo_a2 hm | exact mo_a3 hm | exact mo_a4 hm | exact mo_a5 hm | exact mo_a6 hm) (by first | assumption | exact mo_a hm | exact mo_r0 hm | exact mo_r1 hm | exact mo_r2 hm | exact mo_r4 hm | exact mo_r6 hm | exact mo_r8 hm | exact mo_a1 hm | exact mo_a2 hm | exact mo_a3 hm | exact mo_a4 hm | exact mo_a5 hm | exact mo_a6 hm) ?_
          refine px_iload_1 dX8_sells_64 ?_
          refine px_iconst (1) dX8_sells_65 rfl ?_
          refine cd_X8_128 rfl ⟨⟨Nat.le_of_ble_eq_true rfl, Nat.le_of_ble_eq_true rfl⟩, Nat.le_of_ble_eq_true rfl, Nat.le_of_ble_eq_true rfl, Nat.le_of_ble_eq_true rfl⟩ dX8_sells_66 (s_X8_ofOneCart (j := 1) ha) ?_
          refine px_ialdN dX8_sells_69 (by first | assumption | exact mo_a hm | exact mo_r0 hm | exact mo_r1 hm | exact mo_r2 hm | exact mo_r4 hm | exact mo_r6 hm | exact mo_r8 hm | exact mo_a1 hm | exact mo_a2 hm | exact mo_a3 hm | exact mo_a4 hm | exact mo_a5 hm | exact mo_a6 hm) (by first | rfl | exact ix_eq (by assumption)) (by first | decide | omega) ?_
          refine px_iload_3 dX8_sells_70 ?_
          refine px_iadd dX8_sells_71 ?_
          refine px_ldc ck_X8_127 dX8_sells_72 ?_
          refine px_icmp_le (tgt := 80) dX8_sells_74 (by decide) (fun h74 => ?_) (fun h74 => (by first | exact absurd ((Int32.not_lt.mp hd)) h74 | exact absurd h74 ((Int32.not_lt.mp hd))))
          refine px_aload_0 dX8_sells_80 ?_
          refine gf_X8_7 rfl dX8_sells_81 (by first | assumption | exact mo_a hm | exact mo_r0 hm | exact mo_r1 hm | exact mo_r2 hm | exact mo_r4 hm | exact mo_r6 hm | exact mo_r8 hm | exact mo_a1 hm | exact mo_a2 hm | exact mo_a3 hm | exact mo_a4 hm | exact mo_a5 hm | exact mo_a6 hm) (by first | assumption | exact mo_a hm | exact mo_r0 hm | exact mo_r1 hm | exact mo_r2 hm | exact mo_r4 hm | exact mo_r6 hm | exact mo_r8 hm | exact mo_a1 hm | exact mo_a2 hm | exact mo_a3 hm | exact mo_a4 hm | exact mo_a5 hm | exact mo_a6 hm) ?_
          refine px_iload_1 dX8_sells_84 ?_
          refine px_iconst (1) dX8_sells_85 rfl ?_
          refine cd_X8_128 rfl ⟨⟨Nat.le_of_ble_eq_true rfl, Nat.le_of_ble_eq_true rfl⟩, Nat.le_of_ble_eq_true rfl, Nat.le_of_ble_eq_true rfl, Nat.le_of_ble_eq_true rfl⟩ dX8_sells_86 (s_X8_ofOneCart (j := 1) ha) ?_
          refine px_dup2 dX8_sells_89 rfl rfl ?_
          refine px_ialdN dX8_sells_90 (by first | assumption | exact mo_a hm | exact mo_r0 hm | exact mo_r1 hm | exact mo_r2 hm | exact mo_r4 hm | exact mo_r6 hm | exact mo_r8 hm | exact mo_a1 hm | exact mo_a2 hm | exact mo_a3 hm | exact mo_a4 hm | exact mo_a5 hm | exact mo_a6 hm) (by first | rfl | exact ix_eq (by assumption)) (by first | decide | omega) ?_
          refine px_iload_3 dX8_sells_91 ?_
          refine px_iadd dX8_sells_92 ?_
          refine px_iastN dX8_sells_93 (by first | assumption | exact mo_a hm | exact mo_r0 hm | exact mo_r1 hm | exact mo_r2 hm | exact mo_r4 hm | exact mo_r6 hm | exact mo_r8 hm | exact mo_a1 hm | exact mo_a2 hm | exact mo_a3 hm | exact mo_a4 hm | exact mo_a5 hm | exact mo_a6 hm) (by first | rfl | exact ix_eq (by assumption)) (by first | decide | omega) ?_
          refine px_aload_0 dX8_sells_94 ?_
          refine gf_X8_7 rfl dX8_sells_95 (by first | assumption | exact mo_a hm | exact mo_r0 hm | exact mo_r1 hm | exact mo_r2 hm | exact mo_r4 hm | exact mo_r6 hm | exact mo_r8 hm | exact mo_a1 hm | exact mo_a2 hm | exact mo_a3 hm | exact mo_a4 hm | exact mo_a5 hm | exact mo_a6 hm) (by first | assumption | exact mo_a hm | exact mo_r0 hm | exact mo_r1 hm | exact mo_r2 hm | exact mo_r4 hm | exact mo_r6 hm | exact mo_r8 hm | exact mo_a1 hm | exact mo_a2 hm | exact mo_a3 hm | exact mo_a4 hm | exact mo_a5 hm | exact mo_a6 hm) ?_
          refine px_iload_1 dX8_sells_98 ?_
          refine px_iconst (2) dX8_sells_99 rfl ?_
          refine cd_X8_128 rfl ⟨⟨Nat.le_of_ble_eq_true rfl, Nat.le_of_ble_eq_true rfl⟩, Nat.le_of_ble_eq_true rfl, Nat.le_of_ble_eq_true rfl, Nat.le_of_ble_eq_true rfl⟩ dX8_sells_100 (s_X8_ofOneCart (j := 2) ha) ?_
          refine px_dup2 dX8_sells_103 rfl rfl ?_
          refine px_ialdN dX8_sells_104 (by first | assumption | exact mo_a hm | exact mo_r0 hm | exact mo_r1 hm | exact mo_r2 hm | exact mo_r4 hm | exact mo_r6 hm | exact mo_r8 hm | exact mo_a1 hm | exact mo_a2 hm | exact mo_a3 hm | exact mo_a4 hm | exact mo_a5 hm | exact mo_a6 hm) (by first | rfl | exact ix_eq (by assumption)) (by first | decide | omega) ?_
          rw [px_up_nj (by omega)]
          refine px_iload_2 dX8_sells_105 ?_
          refine px_isub dX8_sells_106 ?_
          refine px_iastN dX8_sells_107 (by first | assumption | exact mo_a hm | exact mo_r0 hm | exact mo_r1 hm | exact mo_r2 hm | exact mo_r4 hm | exact mo_r6 hm | exact mo_r8 hm | exact mo_a1 hm | exact mo_a2 hm | exact mo_a3 hm | exact mo_a4 hm | exact mo_a5 hm | exact mo_a6 hm) (by first | rfl | exact ix_eq (by assumption)) (by first | decide | omega) ?_
          refine px_aload_0 dX8_sells_108 ?_
          refine gf_X8_7 rfl dX8_sells_109 (by first | assumption | exact mo_a hm | exact mo_r0 hm | exact mo_r1 hm | exact mo_r2 hm | exact mo_r4 hm | exact mo_r6 hm | exact mo_r8 hm | exact mo_a1 hm | exact mo_a2 hm | exact mo_a3 hm | exact mo_a4 hm | exact mo_a5 hm | exact mo_a6 hm) (by first | assumption | exact mo_a hm | exact mo_r0 hm | exact mo_r1 hm | exact mo_r2 hm | exact mo_r4 hm | exact mo_r6 hm | exact mo_r8 hm | exact mo_a1 hm | exact mo_a2 hm | exact mo_a3 hm | exact mo_a4 hm | exact mo_a5 hm | exact mo_a6 hm) ?_
          refine px_iload_1 dX8_sells_112 ?_
          refine px_iconst (4) dX8_sells_113 rfl ?_
          refine cd_X8_128 rfl ⟨⟨Nat.le_of_ble_eq_true rfl, Nat.le_of_ble_eq_true rfl⟩, Nat.le_of_ble_eq_true rfl, Nat.le_of_ble_eq_true rfl, Nat.le_of_ble_eq_true rfl⟩ dX8_sells_114 (s_X8_ofOneCart (j := 4) ha) ?_
          refine px_dup2 dX8_sells_117 rfl rfl ?_
          refine px_ialdN dX8_sells_118 (by first | assumption | exact mo_a hm | exact mo_r0 hm | exact mo_r1 hm | exact mo_r2 hm | exact mo_r4 hm | exact mo_r6 hm | exact mo_r8 hm | exact mo_a1 hm | exact mo_a2 hm | exact mo_a3 hm | exact mo_a4 hm | exact mo_a5 hm | exact mo_a6 hm) (by first | rfl | exact ix_eq (by assumption)) (by first | decide | omega) ?_
          rw [px_up_nj (by omega), px_up_nj (by omega)]
          refine px_iload_3 dX8_sells_119 ?_
          refine px_iadd dX8_sells_120 ?_
          refine px_iastN dX8_sells_121 (by first | assumption | exact mo_a hm | exact mo_r0 hm | exact mo_r1 hm | exact mo_r2 hm | exact mo_r4 hm | exact mo_r6 hm | exact mo_r8 hm | exact mo_a1 hm | exact mo_a2 hm | exact mo_a3 hm | exact mo_a4 hm | exact mo_a5 hm | exact mo_a6 hm) (by first | rfl | exact ix_eq (by assumption)) (by first | decide | omega) ?_
          refine px_aload_0 dX8_sells_122 ?_
          refine gf_X8_7 rfl dX8_sells_123 (by first | assumption | exact mo_a hm | exact mo_r0 hm | exact mo_r1 hm | exact mo_r2 hm | exact mo_r4 hm | exact mo_r6 hm | exact mo_r8 hm | exact mo_a1 hm | exact mo_a2 hm | exact mo_a3 hm | exact mo_a4 hm | exact mo_a5 hm | exact mo_a6 hm) (by first | assumption | exact mo_a hm | exact mo_r0 hm | exact mo_r1 hm | exact mo_r2 hm | exact mo_r4 hm | exact mo_r6 hm | exact mo_r8 hm | exact mo_a1 hm | exact mo_a2 hm | exact mo_a3 hm | exact mo_a4 hm | exact mo_a5 hm | exact mo_a6 hm) ?_
          refine px_sipush (148) dX8_sells_126 rfl ?_
          refine px_dup2 dX8_sells_129 rfl rfl ?_
          refine px_ialdN (j := 148) dX8_sells_130 (by first | assumption | exact mo_a hm | exact mo_r0 hm | exact mo_r1 hm | exact mo_r2 hm | exact mo_r4 hm | exact mo_r6 hm | exact mo_r8 hm | exact mo_a1 hm | exact mo_a2 hm | exact mo_a3 hm | exact mo_a4 hm | exact mo_a5 hm | exact mo_a6 hm) (by first | rfl | exact ix_eq (by assumption)) (by first | decide | omega) ?_
          rw [px_up_nj (by omega), px_up_nj (by omega), px_up_nj (by omega)]
          refine px_iload_2 dX8_sells_131 ?_
          refine px_iadd dX8_sells_132 ?_
          refine px_iastN (j := 148) dX8_sells_133 (by first | assumption | exact mo_a hm | exact mo_r0 hm | exact mo_r1 hm | exact mo_r2 hm | exact mo_r4 hm | exact mo_r6 hm | exact mo_r8 hm | exact mo_a1 hm | exact mo_a2 hm | exact mo_a3 hm | exact mo_a4 hm | exact mo_a5 hm | exact mo_a6 hm) (by first | rfl | exact ix_eq (by assumption)) (by first | decide | omega) ?_
          refine px_aload_0 dX8_sells_134 ?_
          refine gf_X8_7 rfl dX8_sells_135 (by first | assumption | exact mo_a hm | exact mo_r0 hm | exact mo_r1 hm | exact mo_r2 hm | exact mo_r4 hm | exact mo_r6 hm | exact mo_r8 hm | exact mo_a1 hm | exact mo_a2 hm | exact mo_a3 hm | exact mo_a4 hm | exact mo_a5 hm | exact mo_a6 hm) (by first | assumption | exact mo_a hm | exact mo_r0 hm | exact mo_r1 hm | exact mo_r2 hm | exact mo_r4 hm | exact mo_r6 hm | exact mo_r8 hm | exact mo_a1 hm | exact mo_a2 hm | exact mo_a3 hm | exact mo_a4 hm | exact mo_a5 hm | exact mo_a6 hm) ?_
          refine px_iload_1 dX8_sells_138 ?_
          refine px_iconst (1) dX8_sells_139 rfl ?_
          refine cd_X8_128 rfl ⟨⟨Nat.le_of_ble_eq_true rfl, Nat.le_of_ble_eq_true rfl⟩, Nat.le_of_ble_eq_true rfl, Nat.le_of_ble_eq_true rfl, Nat.le_of_ble_eq_true rfl⟩ dX8_sells_140 (s_X8_ofOneCart (j := 1) ha) ?_
          refine px_ialdN dX8_sells_143 (by first | assumption | exact mo_a hm | exact mo_r0 hm | exact mo_r1 hm | exact mo_r2 hm | exact mo_r4 hm | exact mo_r6 hm | exact mo_r8 hm | exact mo_a1 hm | exact mo_a2 hm | exact mo_a3 hm | exact mo_a4 hm | exact mo_a5 hm | exact mo_a6 hm) (by first | rfl | exact ix_eq (by assumption)) (by first | decide | omega) ?_
          rw [px_up_nj (by omega), px_up_nj (by omega), px_up_nj (by omega), px_up_self]
          refine px_iret dX8_sells_144 ?_
          exact ⟨rfl, by simp only [px_up_set, px_set_self, px_set_set]⟩
    · have hf : f_sell (I (m + 1)) a b = (-2, I (m + 1)) := by clear hV ha t1; grind [f_sell]
      rw [hf, mem_id]
      refine px_aload_0 dX8_sells_0 ?_
      refine px_iload_1 dX8_sells_1 ?_
      refine cd_X8_134 rfl ⟨⟨Nat.le_of_ble_eq_true rfl, Nat.le_of_ble_eq_true rfl⟩, Nat.le_of_ble_eq_true rfl, Nat.le_of_ble_eq_true rfl, Nat.le_of_ble_eq_true rfl⟩ (by first | assumption | exact mo_a hm | exact mo_r0 hm | exact mo_r1 hm | exact mo_r2 hm | exact mo_r4 hm | exact mo_r6 hm | exact mo_r8 hm | exact mo_a1 hm | exact mo_a2 hm | exact mo_a3 hm | exact mo_a4 hm | exact mo_a5 hm | exact mo_a6 hm) dX8_sells_2 (s_X8_isCart hm) ?_
      refine px_ifb_ne (tgt := 10) dX8_sells_5 (by decide) (fun h5 => ?_) (fun h5 => (by first | exact absurd (hr) h5 | exact absurd h5 (hr)))
      refine px_iload_2 dX8_sells_10 ?_
      refine px_iconst (1) dX8_sells_11 rfl ?_
      refine px_bipush (99) dX8_sells_12 rfl ?_
      refine cd_X8_29 rfl ⟨⟨Nat.le_of_ble_eq_true rfl, Nat.le_of_ble_eq_true rfl⟩, Nat.le_of_ble_eq_true rfl, Nat.le_of_ble_eq_true rfl, Nat.le_of_ble_eq_true rfl⟩ dX8_sells_14 (s_X8_in) ?_
      refine px_ifb_ne (tgt := 23) dX8_sells_17 (by decide) (fun h17 => (by first | exact absurd h17 (hb) | exact absurd (hb) h17)) (fun h17 => ?_)
      refine px_bipush (-2) dX8_sells_20 rfl ?_
      refine px_iret dX8_sells_22 ?_
      exact ⟨rfl, rfl⟩
  · have hf : f_sell (I (m + 1)) a b = (-1, I (m + 1)) := by clear hV; grind [f_sell]
    rw [hf, mem_id]
    refine px_aload_0 dX8_sells_0 ?_
    refine px_iload_1 dX8_sells_1 ?_
    refine cd_X8_134 rfl ⟨⟨Nat.le_of_ble_eq_true rfl, Nat.le_of_ble_eq_true rfl⟩, Nat.le_of_ble_eq_true rfl, Nat.le_of_ble_eq_true rfl, Nat.le_of_ble_eq_true rfl⟩ (by first | assumption | exact mo_a hm | exact mo_r0 hm | exact mo_r1 hm | exact mo_r2 hm | exact mo_r4 hm | exact mo_r6 hm | exact mo_r8 hm | exact mo_a1 hm | exact mo_a2 hm | exact mo_a3 hm | exact mo_a4 hm | exact mo_a5 hm | exact mo_a6 hm) dX8_sells_2 (s_X8_isCart hm) ?_
    refine px_ifb_ne (tgt := 10) dX8_sells_5 (by decide) (fun h5 => (by first | exact absurd h5 (hr) | exact absurd (hr) h5)) (fun h5 => ?_)
    refine px_iconst (-1) dX8_sells_8 rfl ?_
    refine px_iret dX8_sells_9 ?_
    exact ⟨rfl, rfl⟩
end MM

