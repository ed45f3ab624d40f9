section MN
variable {l : Launch} {G : px_G} {T : px_T} {I : px_I} {J : px_J} {R : px_R} {μ : px_M} {m : Nat}
theorem s_X8_endOf {a b : Int32} {c r : Nat} (hm : px_mo G T R m) (e1 : a = nI c) (hc : c < 6) (e2 : b = nI r) (hr : r < 14) : px_K l G 2 mX8_endOf ([.ref m, .int a, .int b]) ((T, I, J, R)) (some (.int (if I (m + 1) (9 + 6 * r + 0) = I (m + 1) (94 + 8 * c + 0) then 0 else if I (m + 1) (9 + 6 * r + 1) = I (m + 1) (94 + 8 * c + 0) then 1 else -6))) ((T, I, J, R)) := by
  refine px_met (M := mX8_endOf) ([some (.ref m), some (.int a), some (.int b), none]) (by decide +kernel) rfl (Nat.le_of_ble_eq_true rfl) rfl ?_
  refine px_aload_0 dX8_endOf_0 ?_
  refine gf_X8_7 rfl dX8_endOf_1 (by first | assumption | exact mo_a hm | exact mo_r0 hm | exact mo_r1 hm | exact mo_r2 hm | exact mo_r4 hm | exact mo_r6 hm | exact mo_r8 hm | exact mo_a1 hm | exact mo_a2 hm | exact mo_a3 hm | exact mo_a4 hm | exact mo_a5 hm | exact mo_a6 hm) (by first | assumption | exact mo_a hm | exact mo_r0 hm | exact mo_r1 hm | exact mo_r2 hm | exact mo_r4 hm | exact mo_r6 hm | exact mo_r8 hm | exact mo_a1 hm | exact mo_a2 hm | exact mo_a3 hm | exact mo_a4 hm | exact mo_a5 hm | exact mo_a6 hm) ?_
  refine px_iload_1 dX8_endOf_4 ?_
  refine px_iconst (0) dX8_endOf_5 rfl ?_
  refine cd_X8_128 rfl ⟨⟨Nat.le_of_ble_eq_true rfl, Nat.le_of_ble_eq_true rfl⟩, Nat.le_of_ble_eq_true rfl, Nat.le_of_ble_eq_true rfl, Nat.le_of_ble_eq_true rfl⟩ dX8_endOf_6 (s_X8_ofOneCart (j := 0) e1) ?_
  refine px_ialdN dX8_endOf_9 (by first | assumption | exact mo_a hm | exact mo_r0 hm | exact mo_r1 hm | exact mo_r2 hm | exact mo_r4 hm | exact mo_r6 hm | exact mo_r8 hm | exact mo_a1 hm | exact mo_a2 hm | exact mo_a3 hm | exact mo_a4 hm | exact mo_a5 hm | exact mo_a6 hm) (by first | rfl | exact ix_eq (by assumption)) (by first | decide | omega) ?_
  refine px_istore_3 dX8_endOf_10 rfl ?_
  refine px_aload_0 dX8_endOf_11 ?_
  refine px_iload_2 dX8_endOf_12 ?_
  refine px_iconst (0) dX8_endOf_13 rfl ?_
  refine cd_X8_48 rfl ⟨⟨Nat.le_of_ble_eq_true rfl, Nat.le_of_ble_eq_true rfl⟩, Nat.le_of_ble_eq_true rfl, Nat.le_of_ble_eq_true rfl, Nat.le_of_ble_eq_true rfl⟩ (by first | assumption | exact mo_a hm | exact mo_r0 hm | exact mo_r1 hm | exact mo_r2 hm | exact mo_r4 hm | exact mo_r6 hm | exact mo_r8 hm | exact mo_a1 hm | exact mo_a2 hm | exact mo_a3 hm | exact mo_a4 hm | exact mo_a5 hm | exact mo_a6 hm) dX8_endOf_14 (s_X8_end (k := 0) hm e2 hr rfl (by decide)) ?_
  refine px_iload_3 dX8_endOf_17 ?_
  refine px_icmp_ne (tgt := 25) dX8_endOf_18 (by decide) (fun h18 => ?_) (fun h18 => ?_)
  · skip
    refine px_aload_0 dX8_endOf_25 ?_
    refine px_iload_2 dX8_endOf_26 ?_
    refine px_iconst (1) dX8_endOf_27 rfl ?_
    refine cd_X8_48 rfl ⟨⟨Nat.le_of_ble_eq_true rfl, Nat.le_of_ble_eq_true rfl⟩, Nat.le_of_ble_eq_true rfl, Nat.le_of_ble_eq_true rfl, Nat.le_of_ble_eq_true rfl⟩ (by first | assumption | exact mo_a hm | exact mo_r0 hm | exact mo_r1 hm | exact mo_r2 hm | exact mo_r4 hm | exact mo_r6 hm | exact mo_r8 hm | exact mo_a1 hm | exact mo_a2 hm | exact mo_a3 hm | exact mo_a4 hm | exact mo_a5 hm | exact mo_a6 hm) dX8_endOf_28 (s_X8_end (k := 1) hm e2 hr rfl (by decide)) ?_
    refine px_iload_3 dX8_endOf_31 ?_
    refine px_icmp_ne (tgt := 39) dX8_endOf_32 (by decide) (fun h32 => ?_) (fun h32 => ?_)
    · skip
      refine px_bipush (-6) dX8_endOf_39 rfl ?_
      refine px_iret dX8_endOf_41 ?_
      exact ⟨by clear e1 e2; simp_all, rfl⟩
    · skip
      refine px_iconst (1) dX8_endOf_35 rfl ?_
      refine px_goto (tgt := 41) dX8_endOf_36 (by decide) ?_
      refine px_iret dX8_endOf_41 ?_
      exact ⟨by clear e1 e2; simp_all, rfl⟩
  · skip
    refine px_iconst (0) dX8_endOf_21 rfl ?_
    refine px_goto (tgt := 41) dX8_endOf_22 (by decide) ?_
    refine px_iret dX8_endOf_41 ?_
    exact ⟨by clear e1 e2; simp_all, rfl⟩
theorem s_X8_fineFor {a : Int32} {c : Nat} (hm : px_mo G T R m) (e1 : a = nI c) (hc : c < 6) : px_K l G 1 mX8_fineFor ([.ref m, .int a]) ((T, I, J, R)) (some (.int (f_fine (I (m + 1)) c))) ((T, I, J, R)) := by
  refine px_met (M := mX8_fineFor) ([some (.ref m), some (.int a), none, none]) (by decide +kernel) rfl (Nat.le_of_ble_eq_true rfl) rfl ?_
  refine px_aload_0 dX8_fineFor_0 ?_
  refine gf_X8_7 rfl dX8_fineFor_1 (by first | assumption | exact mo_a hm | exact mo_r0 hm | exact mo_r1 hm | exact mo_r2 hm | exact mo_r4 hm | exact mo_r6 hm | exact mo_r8 hm | exact mo_a1 hm | exact mo_a2 hm | exact mo_a3 hm | exact mo_a4 hm | exact mo_a5 hm | exact mo_a6 hm) (by first | assumption | exact mo_a hm | exact mo_r0 hm | exact mo_r1 hm | exact mo_r2 hm | exact mo_r4 hm | exact mo_r6 hm | exact mo_r8 hm | exact mo_a1 hm | exact mo_a2 hm | exact mo_a3 hm | exact mo_a4 hm | exact mo_a5 hm | exact mo_a6 hm) ?_
  refine px_sipush (142) dX8_fineFor_4 rfl ?_
  refine px_ialdN (j := 142) dX8_fineFor_7 (by first | assumption | exact mo_a hm | exact mo_r0 hm | exact mo_r1 hm | exact mo_r2 hm | exact mo_r4 hm | exact mo_r6 hm | exact mo_r8 hm | exact mo_a1 hm | exact mo_a2 hm | exact mo_a3 hm | exact mo_a4 hm | exact mo_a5 hm | exact mo_a6 hm) (by first | rfl | exact ix_eq (by assumption)) (by first | decide | omega) ?_
  refine px_aload_0 dX8_fineFor_8 ?_
  refine gf_X8_7 rfl dX8_fineFor_9 (by first | assumption | exact mo_a hm | exact mo_r0 hm | exact mo_r1 hm | exact mo_r2 hm | exact mo_r4 hm | exact mo_r6 hm | exact mo_r8 hm | exact mo_a1 hm | exact mo_a2 hm | exact mo_a3 hm | exact mo_a4 hm | exact mo_a5 hm | exact mo_a6 hm) (by first | assumption | exact mo_a hm | exact mo_r0 hm | exact mo_r1 hm | exact mo_r2 hm | exact mo_r4 hm | exact mo_r6 hm | exact mo_r8 hm | exact mo_a1 hm | exact mo_a2 hm | exact mo_a3 hm | exact mo_a4 hm | exact mo_a5 hm | exact mo_a6 hm) ?_
  refine px_iload_1 dX8_fineFor_12 ?_
  refine px_iconst (2) dX8_fineFor_13 rfl ?_
  refine cd_X8_128 rfl ⟨⟨Nat.le_of_ble_eq_true rfl, Nat.le_of_ble_eq_true rfl⟩, Nat.le_of_ble_eq_true rfl, Nat.le_of_ble_eq_true rfl, Nat.le_of_ble_eq_true rfl⟩ dX8_fineFor_14 (s_X8_ofOneCart (j := 2) e1) ?_
  refine px_ialdN dX8_fineFor_17 (by first | assumption | exact mo_a hm | exact mo_r0 hm | exact mo_r1 hm | exact mo_r2 hm | exact mo_r4 hm | exact mo_r6 hm | exact mo_r8 hm | exact mo_a1 hm | exact mo_a2 hm | exact mo_a3 hm | exact mo_a4 hm | exact mo_a5 hm | exact mo_a6 hm) (by first | rfl | exact ix_eq (by assumption)) (by first | decide | omega) ?_
  refine px_imul dX8_fineFor_18 ?_
  refine px_istore_2 dX8_fineFor_19 rfl ?_
  refine px_aload_0 dX8_fineFor_20 ?_
  refine gf_X8_7 rfl dX8_fineFor_21 (by first | assumption | exact mo_a hm | exact mo_r0 hm | exact mo_r1 hm | exact mo_r2 hm | exact mo_r4 hm | exact mo_r6 hm | exact mo_r8 hm | exact mo_a1 hm | exact mo_a2 hm | exact mo_a3 hm | exact mo_a4 hm | exact mo_a5 hm | exact mo_a6 hm) (by first | assumption | exact mo_a hm | exact mo_r0 hm | exact mo_r1 hm | exact mo_r2 hm | exact mo_r4 hm | exact mo_r6 hm | exact mo_r8 hm | exact mo_a1 hm | exact mo_a2 hm | exact mo_a3 hm | exact mo_a4 hm | exact mo_a5 hm | exact mo_a6 hm) ?_
  refine px_iload_1 dX8_fineFor_24 ?_
  refine px_iconst (1) dX8_fineFor_25 rfl ?_
  refine cd_X8_128 rfl ⟨⟨Nat.le_of_ble_eq_true rfl, Nat.le_of_ble_eq_true rfl⟩, Nat.le_of_ble_eq_true rfl, Nat.le_of_ble_eq_true rfl, Nat.le_of_ble_eq_true rfl⟩ dX8_fineFor_26 (s_X8_ofOneCart (j := 1) e1) ?_
  refine px_ialdN dX8_fineFor_29 (by first | assumption | exact mo_a hm | exact mo_r0 hm | exact mo_r1 hm | exact mo_r2 hm | exact mo_r4 hm | exact mo_r6 hm | exact mo_r8 hm | exact mo_a1 hm | exact mo_a2 hm | exact mo_a3 hm | exact mo_a4 hm | exact mo_a5 hm | exact mo_a6 hm) (by first | rfl | exact ix_eq (by assumption)) (by first | decide | omega) ?_
  refine px_istore_3 dX8_fineFor_30 rfl ?_
  refine px_iload_2 dX8_fineFor_31 ?_
  refine px_iload_3 dX8_fineFor_32 ?_
  refine px_icmp_ge (tgt := 40) dX8_fineFor_33 (by decide) (fun h33 => ?_) (fun h33 => ?_)
  · skip
    refine px_iload_3 dX8_fineFor_40 ?_
    refine px_iret dX8_fineFor_41 ?_
    exact ⟨by unfold f_fine f_mn; clear e1; grind, rfl⟩
  · skip
    refine px_iload_2 dX8_fineFor_36 ?_
    refine px_goto (tgt := 41) dX8_fineFor_37 (by decide) ?_
    refine px_iret dX8_fineFor_41 ?_
    exact ⟨by unfold f_fine f_mn; clear e1; grind, rfl⟩
theorem s_X8_sneaks {a b : Int32} {c r : Nat} (hm : px_mo G T R m) (e1 : a = nI c) (hc : c < 6) (e2 : b = nI r) (hr : r < 14) : px_K l G 2 mX8_sneaks ([.ref m, .int a, .int b]) ((T, I, J, R)) (some (.int (f_sneak (I (m + 1)) c r).1)) ((T, px_set I (m + 1) (f_sneak (I (m + 1)) c r).2, J, R)) := by
  refine px_met (M := mX8_sneaks) ([some (.ref m), some (.int a), some (.int b), none, none]) (by decide +kernel) rfl (Nat.le_of_ble_eq_true rfl) rfl ?_
  have hq := s_X8_chanceOf (l := l) (I := px_up I (m + 1) 146 (f_x (I (m + 1) 146))) (J := J) hm e2 hr
  have hfi := s_X8_fineFor (l := l) (I := px_up I (m + 1) 146 (f_x (I (m + 1) 146))) (J := J) hm e1 hc
  have k2 : f_cr (px_up I (m + 1) 146 (f_x (I (m + 1) 146)) (m + 1)) r = f_cr (I (m + 1)) r := by
    unfold f_cr f_ch; rw [px_up_nj (by omega), px_up_nj (by omega)]
  have f2 : f_fine (px_up I (m + 1) 146 (f_x (I (m + 1) 146)) (m + 1)) c = f_fine (I (m + 1)) c := by
    unfold f_fine; rw [px_up_nj (by omega), px_up_nj (by omega), px_up_nj (by omega)]
  rw [k2] at hq
  rw [f2] at hfi
  by_cases h : f_cr (I (m + 1)) r ≤ f_dr (f_x (I (m + 1) 146))
  · have hf : f_sneak (I (m + 1)) c r = (0, upd (I (m + 1)) 146 (f_x (I (m + 1) 146))) := by unfold f_sneak; rw [if_pos h]
    rw [hf]
    refine px_aload_0 dX8_sneaks_0 ?_
    refine gf_X8_7 rfl dX8_sneaks_1 (by first | assumption | exact mo_a hm | exact mo_r0 hm | exact mo_r1 hm | exact mo_r2 hm | exact mo_r4 hm | exact mo_r6 hm | exact mo_r8 hm | exact mo_a1 hm | exact mo_a2 hm | exact mo_a3 hm | exact mo_a4 hm | exact mo_a5 hm | exact mo_a6 hm) (by first | assumption | exact mo_a hm | exact mo_r0 hm | exact mo_r1 hm | exact mo_r2 hm | exact mo_r4 hm | exact mo_r6 hm | exact mo_r8 hm | exact mo_a1 hm | exact mo_a2 hm | exact mo_a3 hm | exact mo_a4 hm | exact mo_a5 hm | exact mo_a6 hm) ?_
    refine px_sipush (146) dX8_sneaks_4 rfl ?_
    refine px_bipush (75) dX8_sneaks_7 rfl ?_
    refine px_aload_0 dX8_sneaks_9 ?_
    refine gf_X8_7 rfl dX8_sneaks_10 (by first | assumption | exact mo_a hm | exact mo_r0 hm | exact mo_r1 hm | exact mo_r2 hm | exact mo_r4 hm | exact mo_r6 hm | exact mo_r8 hm | exact mo_a1 hm | exact mo_a2 hm | exact mo_a3 hm | exact mo_a4 hm | exact mo_a5 hm | exact mo_a6 hm) (by first | assumption | exact mo_a hm | exact mo_r0 hm | exact mo_r1 hm | exact mo_r2 hm | exact mo_r4 hm | exact mo_r6 hm | exact mo_r8 hm | exact mo_a1 hm | exact mo_a2 hm | exact mo_a3 hm | exact mo_a4 hm | exact mo_a5 hm | exact mo_a6 hm) ?_
    refine px_sipush (146) dX8_sneaks_13 rfl ?_
    refine px_ialdN (j := 146) dX8_sneaks_16 (by first | assumption | exact mo_a hm | exact mo_r0 hm | exact mo_r1 hm | exact mo_r2 hm | exact mo_r4 hm | exact mo_r6 hm | exact mo_r8 hm | exact mo_a1 hm | exact mo_a2 hm | exact mo_a3 hm | exact mo_a4 hm | exact mo_a5 hm | exact mo_a6 hm) (by first | rfl | exact ix_eq (by assumption)) (by first | decide | omega) ?_
    refine px_imul dX8_sneaks_17 ?_
    refine px_bipush (74) dX8_sneaks_18 rfl ?_
    refine px_iadd dX8_sneaks_20 ?_
    refine px_ldc ck_X8_143 dX8_sneaks_21 ?_
    refine px_irem dX8_sneaks_23 (by decide) ?_
    refine px_iastN (j := 146) dX8_sneaks_24 (by first | assumption | exact mo_a hm | exact mo_r0 hm | exact mo_r1 hm | exact mo_r2 hm | exact mo_r4 hm | exact mo_r6 hm | exact mo_r8 hm | exact mo_a1 hm | exact mo_a2 hm | exact mo_a3 hm | exact mo_a4 hm | exact mo_a5 hm | exact mo_a6 hm) (by first | rfl | exact ix_eq (by assumption)) (by first | decide | omega) ?_
    refine px_aload_0 dX8_sneaks_25 ?_
    refine gf_X8_7 rfl dX8_sneaks_26 (by first | assumption | exact mo_a hm | exact mo_r0 hm | exact mo_r1 hm | exact mo_r2 hm | exact mo_r4 hm | exact mo_r6 hm | exact mo_r8 hm | exact mo_a1 hm | exact mo_a2 hm | exact mo_a3 hm | exact mo_a4 hm | exact mo_a5 hm | exact mo_a6 hm) (by first | assumption | exact mo_a hm | exact mo_r0 hm | exact mo_r1 hm | exact mo_r2 hm | exact mo_r4 hm | exact mo_r6 hm | exact mo_r8 hm | exact mo_a1 hm | exact mo_a2 hm | exact mo_a3 hm | exact mo_a4 hm | exact mo_a5 hm | exact mo_a6 hm) ?_
    refine px_sipush (146) dX8_sneaks_29 rfl ?_
    refine px_ialdN (j := 146) dX8_sneaks_32 (by first | assumption | exact mo_a hm | exact mo_r0 hm | exact mo_r1 hm | exact mo_r2 hm | exact mo_r4 hm | exact mo_r6 hm | exact mo_r8 hm | exact mo_a1 hm | exact mo_a2 hm | exact mo_a3 hm | exact mo_a4 hm | exact mo_a5 hm | exact mo_a6 hm) (by first | rfl | exact ix_eq (by assumption)) (by first | decide | omega) ?_
    rw [px_up_self]
    refine px_iconst (4) dX8_sneaks_33 rfl ?_
    refine px_idiv dX8_sneaks_34 (by decide) ?_
    refine px_bipush (100) dX8_sneaks_35 rfl ?_
    refine px_irem dX8_sneaks_37 (by decide) ?_
    refine px_aload_0 dX8_sneaks_38 ?_
    refine px_iload_2 dX8_sneaks_39 ?_
    refine cd_X8_51 rfl ⟨⟨Nat.le_of_ble_eq_true rfl, Nat.le_of_ble_eq_true rfl⟩, Nat.le_of_ble_eq_true rfl, Nat.le_of_ble_eq_true rfl, Nat.le_of_ble_eq_true rfl⟩ (by first | assumption | exact mo_a hm | exact mo_r0 hm | exact mo_r1 hm | exact mo_r2 hm | exact mo_r4 hm | exact mo_r6 hm | exact mo_r8 hm | exact mo_a1 hm | exact mo_a2 hm | exact mo_a3 hm | exact mo_a4 hm | exact mo_a5 hm | exact mo_a6 hm) dX8_sneaks_40 (hq) ?_
    refine px_icmp_lt (tgt := 48) dX8_sneaks_43 (by decide) (fun h43 => (by first | exact absurd h43 ((Int32.not_lt.mpr h)) | exact absurd ((Int32.not_lt.mpr h)) h43)) (fun h43 => ?_)
    refine px_iconst (0) dX8_sneaks_46 rfl ?_
    refine px_iret dX8_sneaks_47 ?_
    exact ⟨rfl, rfl⟩
  · have hf : f_sneak (I (m + 1)) c r = (I (m + 1) (94 + 8 * c + 2), upd (upd (upd (upd (upd (upd (I (m + 1)) 146 (f_x (I (m + 1) 146))) (94 + 8 * c + 2) 0) (94 + 8 * c + 1) (I (m + 1) (94 + 8 * c + 1) - f_fine (I (m + 1)) c)) (94 + 8 * c + 6) (I (m + 1) (94 + 8 * c + 6) + f_fine (I (m + 1)) c)) (94 + 8 * c + 7) (I (m + 1) (94 + 8 * c + 7) + I (m + 1) (94 + 8 * c + 2))) 149 (I (m + 1) 149 + I (m + 1) (94 + 8 * c + 2))) := by unfold f_sneak; rw [if_neg h]
    rw [hf]
    refine px_aload_0 dX8_sneaks_0 ?_
    refine gf_X8_7 rfl dX8_sneaks_1 (by first | assumption | exact mo_a hm | exact mo_r0 hm | exact mo_r1 hm | exact mo_r2 hm | exact mo_r4 hm | exact mo_r6 hm | exact mo_r8 hm | exact mo_a1 hm | exact mo_a2 hm | exact mo_a3 hm | exact mo_a4 hm | exact mo_a5 hm | exact mo_a6 hm) (by first | assumption | exact mo_a hm | exact mo_r0 hm | exact mo_r1 hm | exact mo_r2 hm | exact mo_r4 hm | exact mo_r6 hm | exact mo_r8 hm | exact mo_a1 hm | exact mo_a2 hm | exact mo_a3 hm | exact mo_a4 hm | exact mo_a5 hm | exact mo_a6 hm) ?_
    refine px_sipush (146) dX8_sneaks_4 rfl ?_
    refine px_bipush (75) dX8_sneaks_7 rfl ?_
    refine px_aload_0 dX8_sneaks_9 ?_
    refine gf_X8_7 rfl dX8_sneaks_10 (by first | assumption | exact mo_a hm | exact mo_r0 hm | exact mo_r1 hm | exact mo_r2 hm | exact mo_r4 hm | exact mo_r6 hm | exact mo_r8 hm | exact mo_a1 hm | exact mo_a2 hm | exact mo_a3 hm | exact mo_a4 hm | exact mo_a5 hm | exact mo_a6 hm) (by first | assumption | exact mo_a hm | exact mo_r0 hm | exact mo_r1 hm | exact mo_r2 hm | exact mo_r4 hm | exact mo_r6 hm | exact mo_r8 hm | exact mo_a1 hm | exact mo_a2 hm | exact mo_a3 hm | exact mo_a4 hm | exact mo_a5 hm | exact mo_a6 hm) ?_
    refine px_sipush (146) dX8_sneaks_13 rfl ?_
    refine px_ialdN (j := 146) dX8_sneaks_16 (by first | assumption | exact mo_a hm | exact mo_r0 hm | exact mo_r1 hm | exact mo_r2 hm | exact mo_r4 hm | exact mo_r6 hm | exact mo_r8 hm | exact mo_a1 hm | exact mo_a2 hm | exact mo_a3 hm | exact mo_a4 hm | exact mo_a5 hm | exact mo_a6 hm) (by first | rfl | exact ix_eq (by assumption)) (by first | decide | omega) ?_
    refine px_imul dX8_sneaks_17 ?_
    refine px_bipush (74) dX8_sneaks_18 rfl ?_
    refine px_iadd dX8_sneaks_20 ?_
    refine px_ldc ck_X8_143 dX8_sneaks_21 ?_
    refine px_irem dX8_sneaks_23 (by decide) ?_
    refine px_iastN (j := 146) dX8_sneaks_24 (by first | assumption | exact mo_a hm | exact mo_r0 hm | exact mo_r1 hm | exact mo_r2 hm | exact mo_r4 hm | exact mo_r6 hm | exact mo_r8 hm | exact mo_a1 hm | exact mo_a2 hm | exact mo_a3 hm | exact mo_a4 hm | exact mo_a5 hm | exact mo_a6 hm) (by first | rfl | exact ix_eq (by assumption)) (by first | decide | omega) ?_
    refine px_aload_0 dX8_sneaks_25 ?_
    refine gf_X8_7 rfl dX8_sneaks_26 (by first | assumption | exact mo_a hm | exact mo_r0 hm | exact mo_r1 hm | exact mo_r2 hm | exact mo_r4 hm | exact mo_r6 hm | exact mo_r8 hm | exact mo_a1 hm | exact mo_a2 hm | exact mo_a3 hm | exact mo_a4 hm | exact mo_a5 hm | exact mo_a6 hm) (by first | assumption | exact mo_a hm | exact mo_r0 hm | exact mo_r1 hm | exact mo_r2 hm | exact mo_r4 hm | exact mo_r6 hm | exact mo_r8 hm | exact mo_a1 hm | exact mo_a2 hm | exact mo_a3 hm | exact mo_a4 hm | exact mo_a5 hm | exact mo_a6 hm) ?_
    refine px_sipush (146) dX8_sneaks_29 rfl ?_
    refine px_ialdN (j := 146) dX8_sneaks_32 (by first | assumption | exact mo_a hm | exact mo_r0 hm | exact mo_r1 hm | exact mo_r2 hm | exact mo_r4 hm | exact mo_r6 hm | exact mo_r8 hm | exact mo_a1 hm | exact mo_a2 hm | exact mo_a3 hm | exact mo_a4 hm | exact mo_a5 hm | exact mo_a6 hm) (by first | rfl | exact ix_eq (by assumption)) (by first | decide | omega) ?_
    rw [px_up_self]
    refine px_iconst (4) dX8_sneaks_33 rfl ?_
    refine px_idiv dX8_sneaks_34 (by decide) ?_
    refine px_bipush (100) dX8_sneaks_35 rfl ?_
    refine px_irem dX8_sneaks_37 (by decide) ?_
    refine px_aload_0 dX8_sneaks_38 ?_
    refine px_iload_2 dX8_sneaks_39 ?_
    refine cd_X8_51 rfl ⟨⟨Nat.le_of_ble_eq_true rfl, Nat.le_of_ble_eq_true rfl⟩, Nat.le_of_ble_eq_true rfl, Nat.le_of_ble_eq_true rfl, Nat.le_of_ble_eq_true rfl⟩ (by first | assumption | exact mo_a hm | exact mo_r0 hm | exact mo_r1 hm | exact mo_r2 hm | exact mo_r4 hm | exact mo_r6 hm | exact mo_r8 hm | exact mo_a1 hm | exact mo_a2 hm | exact mo_a3 hm | exact mo_a4 hm | exact mo_a5 hm | exact mo_a6 hm) dX8_sneaks_40 (hq) ?_
    refine px_icmp_lt (tgt := 48) dX8_sneaks_43 (by decide) (fun h43 => ?_) (fun h43 => (by first | exact absurd ((Int32.not_le.mp h)) h43 | exact absurd h43 ((Int32.not_le.mp h))))
    refine px_aload_0 dX8_sneaks_48 ?_
    refine gf_X8_7 rfl dX8_sneaks_49 (by first | assumption | exact mo_a hm | exact mo_r0 hm | exact mo_r1 hm | exact mo_r2 hm | exact mo_r4 hm | exact mo_r6 hm | exact mo_r8 hm | exact mo_a1 hm | exact mo_a2 hm | exact mo_a3 hm | exact mo_a4 hm | exact mo_a5 hm | exact mo_a6 hm) (by first | assumption | exact mo_a hm | exact mo_r0 hm | exact mo_r1 hm | exact mo_r2 hm | exact mo_r4 hm | exact mo_r6 hm | exact mo_r8 hm | exact mo_a1 hm | exact mo_a2 hm | exact mo_a3 hm | exact mo_a4 hm | exact mo_a5 hm | exact mo_a6 hm) ?_
    refine px_iload_1 dX8_sneaks_52 ?_
    refine px_iconst (2) dX8_sneaks_53 rfl ?_
    refine cd_X8_128 rfl ⟨⟨Nat.le_of_ble_eq_true rfl, Nat.le_of_ble_eq_true rfl⟩, Nat.le_of_ble_eq_true rfl, Nat.le_of_ble_eq_true rfl, Nat.le_of_ble_eq_true rfl⟩ dX8_sneaks_54 (s_X8_ofOneCart (j := 2) e1) ?_
    refine px_ialdN dX8_sneaks_57 (by first | assumption | exact mo_a hm | exact mo_r0 hm | exact mo_r1 hm | exact mo_r2 hm | exact mo_r4 hm | exact mo_r6 hm | exact mo_r8 hm | exact mo_a1 hm | exact mo_a2 hm | exact mo_a3 hm | exact mo_a4 hm | exact mo_a5 hm | exact mo_a6 hm) (by first | rfl | exact ix_eq (by assumption)) (by first | decide | omega) ?_
    rw [px_up_nj (by omega)]
    refine px_istore_3 dX8_sneaks_58 rfl ?_
    refine px_aload_0 dX8_sneaks_59 ?_
    refine px_iload_1 dX8_sneaks_60 ?_
    refine cd_X8_144 rfl ⟨⟨Nat.le_of_ble_eq_true rfl, Nat.le_of_ble_eq_true rfl⟩, Nat.le_of_ble_eq_true rfl, Nat.le_of_ble_eq_true rfl, Nat.le_of_ble_eq_true rfl⟩ (by first | assumption | exact mo_a hm | exact mo_r0 hm | exact mo_r1 hm | exact mo_r2 hm | exact mo_r4 hm | exact mo_r6 hm | exact mo_r8 hm | exact mo_a1 hm | exact mo_a2 hm | exact mo_a3 hm | exact mo_a4 hm | exact mo_a5 hm | exact mo_a6 hm) dX8_sneaks_61 (hfi) ?_
    refine px_istore_4 dX8_sneaks_64 rfl ?_
    refine px_aload_0 dX8_sneaks_66 ?_
    refine gf_X8_7 rfl dX8_sneaks_67 (by first | assumption | exact mo_a hm | exact mo_r0 hm | exact mo_r1 hm | exact mo_r2 hm | exact mo_r4 hm | exact mo_r6 hm | exact mo_r8 hm | exact mo_a1 hm | exact mo_a2 hm | exact mo_a3 hm | exact mo_a4 hm | exact mo_a5 hm | exact mo_a6 hm) (by first | assumption | exact mo_a hm | exact mo_r0 hm | exact mo_r1 hm | exact mo_r2 hm | exact mo_r4 hm | exact mo_r6 hm | exact mo_r8 hm | exact mo_a1 hm | exact mo_a2 hm | exact mo_a3 hm | exact mo_a4 hm | exact mo_a5 hm | exact mo_a6 hm) ?_
    refine px_iload_1 dX8_sneaks_70 ?_
    refine px_iconst (2) dX8_sneaks_71 rfl ?_
    refine cd_X8_128 rfl ⟨⟨Nat.le_of_ble_eq_true rfl, Nat.le_of_ble_eq_true rfl⟩, Nat.le_of_ble_eq_true rfl, Nat.le_of_ble_eq_true rfl, Nat.le_of_ble_eq_true rfl⟩ dX8_sneaks_72 (s_X8_ofOneCart (j := 2) e1) ?_
    refine px_iconst (0) dX8_sneaks_75 rfl ?_
    refine px_iastN dX8_sneaks_76 (by first | assumption | exact mo_a hm | exact mo_r0 hm | exact mo_r1 hm | exact mo_r2 hm | exact mo_r4 hm | exact mo_r6 hm | exact mo_r8 hm | exact mo_a1 hm | exact mo_a2 hm | exact mo_a3 hm | exact mo_a4 hm | exact mo_a5 hm | exact mo_a6 hm) (by first | rfl | exact ix_eq (by assumption)) (by first | decide | omega) ?_
    refine px_aload_0 dX8_sneaks_77 ?_
    refine gf_X8_7 rfl dX8_sneaks_78 (by first | assumption | exact mo_a hm | exact mo_r0 hm | exact mo_r1 hm | exact mo_r2 hm | exact mo_r4 hm | exact mo_r6 hm | exact mo_r8 hm | exact mo_a1 hm | exact mo_a2 hm | exact mo_a3 hm | exact mo_a4 hm | exact mo_a5 hm | exact mo_a6 hm) (by first | assumption | exact mo_a hm | exact mo_r0 hm | exact mo_r1 hm | exact mo_r2 hm | exact mo_r4 hm | exact mo_r6 hm | exact mo_r8 hm | exact mo_a1 hm | exact mo_a2 hm | exact mo_a3 hm | exact mo_a4 hm | exact mo_a5 hm | exact mo_a6 hm) ?_
    refine px_iload_1 dX8_sneaks_81 ?_
    refine px_iconst (1) dX8_sneaks_82 rfl ?_
    refine cd_X8_128 rfl ⟨⟨Nat.le_of_ble_eq_true rfl, Nat.le_of_ble_eq_true rfl⟩, Nat.le_of_ble_eq_true rfl, Nat.le_of_ble_eq_true rfl, Nat.le_of_ble_eq_true rfl⟩ dX8_sneaks_83 (s_X8_ofOneCart (j := 1) e1) ?_
    refine px_dup2 dX8_sneaks_86 rfl rfl ?_
    refine px_ialdN dX8_sneaks_87 (by first | assumption | exact mo_a hm | exact mo_r0 hm | exact mo_r1 hm | exact mo_r2 hm | exact mo_r4 hm | exact mo_r6 hm | exact mo_r8 hm | exact mo_a1 hm | exact mo_a2 hm | exact mo_a3 hm | exact mo_a4 hm | exact mo_a5 hm | exact mo_a6 hm) (by first | rfl | exact ix_eq (by assumption)) (by first | decide | omega) ?_
    rw [px_up_nj (by omega), px_up_nj (by omega)]
    refine px_iload_4 dX8_sneaks_88 ?_
    refine px_isub dX8_sneaks_90 ?_
    refine px_iastN dX8_sneaks_91 (by first | assumption | exact mo_a hm | exact mo_r0 hm | exact mo_r1 hm | exact mo_r2 hm | exact mo_r4 hm | exact mo_r6 hm | exact mo_r8 hm | exact mo_a1 hm | exact mo_a2 hm | exact mo_a3 hm | exact mo_a4 hm | exact mo_a5 hm | exact mo_a6 hm) (by first | rfl | exact ix_eq (by assumption)) (by first | decide | omega) ?_
    refine px_aload_0 dX8_sneaks_92 ?_
    refine gf_X8_7 rfl dX8_sneaks_93 (by first | assumption | exact mo_a hm | exact mo_r0 hm | exact mo_r1 hm | exact mo_r2 hm | exact mo_r4 hm | exact mo_r6 hm | exact mo_r8 hm | exact mo_a1 hm | exact mo_a2 hm | exact mo_a3 hm | exact mo_a4 hm | exact mo_a5 hm | exact mo_a6 hm) (by first | assumption | exact mo_a hm | exact mo_r0 hm | exact mo_r1 hm | exact mo_r2 hm | exact mo_r4 hm | exact mo_r6 hm | exact mo_r8 hm | exact mo_a1 hm | exact mo_a2 hm | exact mo_a3 hm | exact mo_a4 hm | exact mo_a5 hm | exact mo_a6 hm) ?_
    refine px_iload_1 dX8_sneaks_96 ?_
    refine px_bipush (6) dX8_sneaks_97 rfl ?_
    refine cd_X8_128 rfl ⟨⟨Nat.le_of_ble_eq_true rfl, Nat.le_of_ble_eq_true rfl⟩, Nat.le_of_ble_eq_true rfl, Nat.le_of_ble_eq_true rfl, Nat.le_of_ble_eq_true rfl⟩ dX8_sneaks_99 (s_X8_ofOneCart (j := 6) e1) ?_
    refine px_dup2 dX8_sneaks_102 rfl rfl ?_
    refine px_ialdN dX8_sneaks_103 (by first | assumption | exact mo_a hm | exact mo_r0 hm | exact mo_r1 hm | exact mo_r2 hm | exact mo_r4 hm | exact mo_r6 hm | exact mo_r8 hm | exact mo_a1 hm | exact mo_a2 hm | exact mo_a3 hm | exact mo_a4 hm | exact mo_a5 hm | exact mo_a6 hm) (by first | rfl | exact ix_eq (by assumption)) (by first | decide | omega) ?_
    rw [px_up_nj (by omega), px_up_nj (by omega), px_up_nj (by omega)]
    refine px_iload_4 dX8_sneaks_104 ?_
    refine px_iadd dX8_sneaks_106 ?_
    refine px_iastN dX8_sneaks_107 (by first | assumption | exact mo_a hm | exact mo_r0 hm | exact mo_r1 hm | exact mo_r2 hm | exact mo_r4 hm | exact mo_r6 hm | exact mo_r8 hm | exact mo_a1 hm | exact mo_a2 hm | exact mo_a3 hm | exact mo_a4 hm | exact mo_a5 hm | exact mo_a6 hm) (by first | rfl | exact ix_eq (by assumption)) (by first | decide | omega) ?_
    refine px_aload_0 dX8_sneaks_108 ?_
    refine gf_X8_7 rfl dX8_sneaks_109 (by first | assumption | exact mo_a hm | exact mo_r0 hm | exact mo_r1 hm | exact mo_r2 hm | exact mo_r4 hm | exact mo_r6 hm | exact mo_r8 hm | exact mo_a1 hm | exact mo_a2 hm | exact mo_a3 hm | exact mo_a4 hm | exact mo_a5 hm | exact mo_a6 hm) (by first | assumption | exact mo_a hm | exact mo_r0 hm | exact mo_r1 hm | exact mo_r2 hm | exact mo_r4 hm | exact mo_r6 hm | exact mo_r8 hm | exact mo_a1 hm | exact mo_a2 hm | exact mo_a3 hm | exact mo_a4 hm | exact mo_a5 hm | exact mo_a6 hm) ?_
    refine px_iload_1 dX8_sneaks_112 ?_
    refine px_bipush (7) dX8_sneaks_113 rfl ?_
    refine cd_X8_128 rfl ⟨⟨Nat.le_of_ble_eq_true rfl, Nat.le_of_ble_eq_true rfl⟩, Nat.le_of_ble_eq_true rfl, Nat.le_of_ble_eq_true rfl, Nat.le_of_ble_eq_true rfl⟩ dX8_sneaks_115 (s_X8_ofOneCart (j := 7) e1) ?_
    refine px_dup2 dX8_sneaks_118 rfl rfl ?_
    refine px_ialdN dX8_sneaks_119 (by first | assumption | exact mo_a hm | exact mo_r0 hm | exact mo_r1 hm | exact mo_r2 hm | exact mo_r4 hm | exact mo_r6 hm | exact mo_r8 hm | exact mo_a1 hm | exact mo_a2 hm | exact mo_a3 hm | exact mo_a4 hm | exact mo_a5 hm | exact mo_a6 hm) (by first | rfl | exact ix_eq (by assumption)) (by first | decide | omega) ?_
    rw [px_up_nj (by omega), px_up_nj (by omega), px_up_nj (by omega), px_up_nj (by omega)]
    refine px_iload_3 dX8_sneaks_120 ?_
    refine px_iadd dX8_sneaks_121 ?_
    refine px_iastN dX8_sneaks_122 (by first | assumption | exact mo_a hm | exact mo_r0 hm | exact mo_r1 hm | exact mo_r2 hm | exact mo_r4 hm | exact mo_r6 hm | exact mo_r8 hm | exact mo_a1 hm | exact mo_a2 hm | exact mo_a3 hm | exact mo_a4 hm | exact mo_a5 hm | exact mo_a6 hm) (by first | rfl | exact ix_eq (by assumption)) (by first | decide | omega) ?_
    refine px_aload_0 dX8_sneaks_123 ?_
    refine gf_X8_7 rfl dX8_sneaks_124 (by first | assumption | exact mo_a hm | exact mo_r0 hm | exact mo_r1 hm | exact mo_r2 hm | exact mo_r4 hm | exact mo_r6 hm | exact mo_r8 hm | exact mo_a1 hm | exact mo_a2 hm | exact mo_a3 hm | exact mo_a4 hm | exact mo_a5 hm | exact mo_a6 hm) (by first | assumption | exact mo_a hm | exact mo_r0 hm | exact mo_r1 hm | exact mo_r2 hm | exact mo_r4 hm | exact mo_r6 hm | exact mo_r8 hm | exact mo_a1 hm | exact mo_a2 hm | exact mo_a3 hm | exact mo_a4 hm | exact mo_a5 hm | exact mo_a6 hm) ?_
    refine px_sipush (149) dX8_sneaks_127 rfl ?_
    refine px_dup2 dX8_sneaks_130 rfl rfl ?_
    refine px_ialdN (j := 149) dX8_sneaks_131 (by first | assumption | exact mo_a hm | exact mo_r0 hm | exact mo_r1 hm | exact mo_r2 hm | exact mo_r4 hm | exact mo_r6 hm | exact mo_r8 hm | exact mo_a1 hm | exact mo_a2 hm | exact mo_a3 hm | exact mo_a4 hm | exact mo_a5 hm | exact mo_a6 hm) (by first | rfl | exact ix_eq (by assumption)) (by first | decide | omega) ?_
    rw [px_up_nj (by omega), px_up_nj (by omega), px_up_nj (by omega), px_up_nj (by omega), px_up_nj (by omega)]
    refine px_iload_3 dX8_sneaks_132 ?_
    refine px_iadd dX8_sneaks_133 ?_
    refine px_iastN (j := 149) dX8_sneaks_134 (by first | assumption | exact mo_a hm | exact mo_r0 hm | exact mo_r1 hm | exact mo_r2 hm | exact mo_r4 hm | exact mo_r6 hm | exact mo_r8 hm | exact mo_a1 hm | exact mo_a2 hm | exact mo_a3 hm | exact mo_a4 hm | exact mo_a5 hm | exact mo_a6 hm) (by first | rfl | exact ix_eq (by assumption)) (by first | decide | omega) ?_
    refine px_iload_3 dX8_sneaks_135 ?_
    refine px_iret dX8_sneaks_136 ?_
    exact ⟨rfl, by simp only [px_up_set, px_set_self, px_set_set]⟩
theorem s_X8_setAt0 {t : Int32} (hm : px_mo G T R m) (hV : px_V (I (m + 1))) : px_K l G 2 mX8_setAt ([.ref m, .int t, .int 0]) ((T, I, J, R)) (some (.int (f_ra (I (m + 1)) t))) ((T, I, J, R)) := by
  have hn := hV.1.1
  have hn14 := hV.1.2.1
  have e93 := hV.1.2.2.1
  generalize hσ : I (m + 1) = σ at hn hn14 e93 ⊢
  refine px_met (M := mX8_setAt) ([some (.ref m), some (.int t), some (.int 0), none, none]) (by decide +kernel) rfl (Nat.le_of_ble_eq_true rfl) rfl ?_
  generalize hQ : (fun v m => v = some (Value.int (f_ra σ t)) ∧ m = (T, I, J, R) : Option Value → px_M → Prop) = Q
  have L2 : ∀ v : Int32, v = f_ra σ t → (px_W l G yX8_setAt cX8_setAt 5 (some .int) (px_rm 2 0 0) (px_Fn G Q 0 0) 63 [some (.ref m), some (.int t), some (.int 0), some (.int v), some (.int 0)] [] 0 0 (T, I, J, R)) := by
    intro v hv
    by_cases h0 : σ 93 ≤ 0
    · skip
      refine px_iload_4 dX8_setAt_63 ?_
      refine px_aload_0 dX8_setAt_65 ?_
      refine gf_X8_7 rfl dX8_setAt_66 (by first | assumption | exact mo_a hm | exact mo_r0 hm | exact mo_r1 hm | exact mo_r2 hm | exact mo_r4 hm | exact mo_r6 hm | exact mo_r8 hm | exact mo_a1 hm | exact mo_a2 hm | exact mo_a3 hm | exact mo_a4 hm | exact mo_a5 hm | exact mo_a6 hm) (by first | assumption | exact mo_a hm | exact mo_r0 hm | exact mo_r1 hm | exact mo_r2 hm | exact mo_r4 hm | exact mo_r6 hm | exact mo_r8 hm | exact mo_a1 hm | exact mo_a2 hm | exact mo_a3 hm | exact mo_a4 hm | exact mo_a5 hm | exact mo_a6 hm) ?_
      refine px_bipush (93) dX8_setAt_69 rfl ?_
      refine px_ialdN (j := 93) dX8_setAt_71 (by first | assumption | exact mo_a hm | exact mo_r0 hm | exact mo_r1 hm | exact mo_r2 hm | exact mo_r4 hm | exact mo_r6 hm | exact mo_r8 hm | exact mo_a1 hm | exact mo_a2 hm | exact mo_a3 hm | exact mo_a4 hm | exact mo_a5 hm | exact mo_a6 hm) (by first | rfl | exact ix_eq (by assumption)) (by first | decide | omega) ?_
      rw [hσ]
      refine px_icmp_ge (tgt := 112) dX8_setAt_72 (by decide) (fun h72 => ?_) (fun h72 => (by first | exact absurd (h0) h72 | exact absurd h72 (h0)))
      refine px_iload_3 dX8_setAt_112 ?_
      refine px_iret dX8_setAt_113 ?_
      subst hQ; exact ⟨by rw [hv], rfl⟩
    · skip
      refine px_iload_4 dX8_setAt_63 ?_
      refine px_aload_0 dX8_setAt_65 ?_
      refine gf_X8_7 rfl dX8_setAt_66 (by first | assumption | exact mo_a hm | exact mo_r0 hm | exact mo_r1 hm | exact mo_r2 hm | exact mo_r4 hm | exact mo_r6 hm | exact mo_r8 hm | exact mo_a1 hm | exact mo_a2 hm | exact mo_a3 hm | exact mo_a4 hm | exact mo_a5 hm | exact mo_a6 hm) (by first | assumption | exact mo_a hm | exact mo_r0 hm | exact mo_r1 hm | exact mo_r2 hm | exact mo_r4 hm | exact mo_r6 hm | exact mo_r8 hm | exact mo_a1 hm | exact mo_a2 hm | exact mo_a3 hm | exact mo_a4 hm | exact mo_a5 hm | exact mo_a6 hm) ?_
      refine px_bipush (93) dX8_setAt_69 rfl ?_
      refine px_ialdN (j := 93) dX8_setAt_71 (by first | assumption | exact mo_a hm | exact mo_r0 hm | exact mo_r1 hm | exact mo_r2 hm | exact mo_r4 hm | exact mo_r6 hm | exact mo_r8 hm | exact mo_a1 hm | exact mo_a2 hm | exact mo_a3 hm | exact mo_a4 hm | exact mo_a5 hm | exact mo_a6 hm) (by first | rfl | exact ix_eq (by assumption)) (by first | decide | omega) ?_
      rw [hσ]
      refine px_icmp_ge (tgt := 112) dX8_setAt_72 (by decide) (fun h72 => (by first | exact absurd h72 (h0) | exact absurd (h0) h72)) (fun h72 => ?_)
      refine px_iload_2 dX8_setAt_75 ?_
      refine px_iconst (1) dX8_setAt_76 rfl ?_
      refine px_icmp_ne (tgt := 112) dX8_setAt_77 (by decide) (fun h77 => ?_) (fun h77 => (by first | exact absurd ((by decide)) h77 | exact absurd h77 ((by decide))))
      refine px_iload_3 dX8_setAt_112 ?_
      refine px_iret dX8_setAt_113 ?_
      subst hQ; exact ⟨by rw [hv], rfl⟩
  have L : ∀ n i, i + n = f_nr σ → (px_W l G yX8_setAt cX8_setAt 5 (some .int) (px_rm 2 0 0) (px_Fn G Q 0 0) 5 [some (.ref m), some (.int t), some (.int 0), some (.int (f_mk (fun r => decide (f_at σ r t)) i)), some (.int (nI i))] [] 0 0 (T, I, J, R)) := by
    intro n
    induction n with
    | zero =>
      intro i hi
      refine px_iload_4 dX8_setAt_5 ?_
      refine px_aload_0 dX8_setAt_7 ?_
      refine gf_X8_7 rfl dX8_setAt_8 (by first | assumption | exact mo_a hm | exact mo_r0 hm | exact mo_r1 hm | exact mo_r2 hm | exact mo_r4 hm | exact mo_r6 hm | exact mo_r8 hm | exact mo_a1 hm | exact mo_a2 hm | exact mo_a3 hm | exact mo_a4 hm | exact mo_a5 hm | exact mo_a6 hm) (by first | assumption | exact mo_a hm | exact mo_r0 hm | exact mo_r1 hm | exact mo_r2 hm | exact mo_r4 hm | exact mo_r6 hm | exact mo_r8 hm | exact mo_a1 hm | exact mo_a2 hm | exact mo_a3 hm | exact mo_a4 hm | exact mo_a5 hm | exact mo_a6 hm) ?_
      refine px_bipush (8) dX8_setAt_11 rfl ?_
      refine px_ialdN (j := 8) dX8_setAt_13 (by first | assumption | exact mo_a hm | exact mo_r0 hm | exact mo_r1 hm | exact mo_r2 hm | exact mo_r4 hm | exact mo_r6 hm | exact mo_r8 hm | exact mo_a1 hm | exact mo_a2 hm | exact mo_a3 hm | exact mo_a4 hm | exact mo_a5 hm | exact mo_a6 hm) (by first | rfl | exact ix_eq (by assumption)) (by first | decide | omega) ?_
      rw [hσ]
      refine px_icmp_ge (tgt := 60) dX8_setAt_14 (by decide) (fun h14 => ?_) (fun h14 => (by first | exact absurd (le_nI hn (by omega) (by omega)) h14 | exact absurd h14 (le_nI hn (by omega) (by omega))))
      refine px_iconst (0) dX8_setAt_60 rfl ?_
      refine px_istore_4 dX8_setAt_61 rfl ?_
      exact L2 _ (by rw [f_ra, show i = f_nr σ by omega])
    | succ n ih =>
      intro i hi
      have ih2 := ih (i + 1) (by omega)
      rw [f_mk] at ih2
      by_cases q0 : σ (9 + 6 * i + 0) = t
      · rw [if_pos (decide_eq_true (Or.inl q0))] at ih2
        refine px_iload_4 dX8_setAt_5 ?_
        refine px_aload_0 dX8_setAt_7 ?_
        refine gf_X8_7 rfl dX8_setAt_8 (by first | assumption | exact mo_a hm | exact mo_r0 hm | exact mo_r1 hm | exact mo_r2 hm | exact mo_r4 hm | exact mo_r6 hm | exact mo_r8 hm | exact mo_a1 hm | exact mo_a2 hm | exact mo_a3 hm | exact mo_a4 hm | exact mo_a5 hm | exact mo_a6 hm) (by first | assumption | exact mo_a hm | exact mo_r0 hm | exact mo_r1 hm | exact mo_r2 hm | exact mo_r4 hm | exact mo_r6 hm | exact mo_r8 hm | exact mo_a1 hm | exact mo_a2 hm | exact mo_a3 hm | exact mo_a4 hm | exact mo_a5 hm | exact mo_a6 hm) ?_
        refine px_bipush (8) dX8_setAt_11 rfl ?_
        refine px_ialdN (j := 8) dX8_setAt_13 (by first | assumption | exact mo_a hm | exact mo_r0 hm | exact mo_r1 hm | exact mo_r2 hm | exact mo_r4 hm | exact mo_r6 hm | exact mo_r8 hm | exact mo_a1 hm | exact mo_a2 hm | exact mo_a3 hm | exact mo_a4 hm | exact mo_a5 hm | exact mo_a6 hm) (by first | rfl | exact ix_eq (by assumption)) (by first | decide | omega) ?_
        rw [hσ]
        refine px_icmp_ge (tgt := 60) dX8_setAt_14 (by decide) (fun h14 => (by first | exact absurd h14 (lt_nle hn (by omega) (by omega)) | exact absurd (lt_nle hn (by omega) (by omega)) h14)) (fun h14 => ?_)
        refine px_iload_2 dX8_setAt_17 ?_
        refine px_if_ne (tgt := 60) dX8_setAt_18 (by decide) (fun h18 => (by first | exact absurd h18 (rfl) | exact absurd (rfl) h18)) (fun h18 => ?_)
        refine px_iload_3 dX8_setAt_21 ?_
        refine px_aload_0 dX8_setAt_22 ?_
        refine px_iload_4 dX8_setAt_23 ?_
        refine px_iconst (0) dX8_setAt_25 rfl ?_
        refine cd_X8_48 rfl ⟨⟨Nat.le_of_ble_eq_true rfl, Nat.le_of_ble_eq_true rfl⟩, Nat.le_of_ble_eq_true rfl, Nat.le_of_ble_eq_true rfl, Nat.le_of_ble_eq_true rfl⟩ (by first | assumption | exact mo_a hm | exact mo_r0 hm | exact mo_r1 hm | exact mo_r2 hm | exact mo_r4 hm | exact mo_r6 hm | exact mo_r8 hm | exact mo_a1 hm | exact mo_a2 hm | exact mo_a3 hm | exact mo_a4 hm | exact mo_a5 hm | exact mo_a6 hm) dX8_setAt_26 (s_X8_end (k := 0) (r := i) hm rfl (by omega) rfl (by decide)) ?_
        rw [hσ]
        refine px_iload_1 dX8_setAt_29 ?_
        refine px_icmp_eq (tgt := 44) dX8_setAt_30 (by decide) (fun h30 => ?_) (fun h30 => (by first | exact absurd (q0) h30 | exact absurd h30 (q0)))
        refine px_iconst (1) dX8_setAt_44 rfl ?_
        refine px_iload_4 dX8_setAt_45 ?_
        refine px_ishl dX8_setAt_47 ?_
        refine px_goto (tgt := 52) dX8_setAt_48 (by decide) ?_
        refine px_ior dX8_setAt_52 ?_
        refine px_istore_3 dX8_setAt_53 rfl ?_
        refine px_iinc_4 dX8_setAt_54 rfl ?_
        refine px_goto (tgt := 5) dX8_setAt_57 (by decide) ?_
        rw [inc_nI]; exact ih2
      · by_cases q1 : σ (9 + 6 * i + 1) = t
        · rw [if_pos (decide_eq_true (Or.inr q1))] at ih2
          refine px_iload_4 dX8_setAt_5 ?_
          refine px_aload_0 dX8_setAt_7 ?_
          refine gf_X8_7 rfl dX8_setAt_8 (by first | assumption | exact mo_a hm | exact mo_r0 hm | exact mo_r1 hm | exact mo_r2 hm | exact mo_r4 hm | exact mo_r6 hm | exact mo_r8 hm | exact mo_a1 hm | exact mo_a2 hm | exact mo_a3 hm | exact mo_a4 hm | exact mo_a5 hm | exact mo_a6 hm) (by first | assumption | exact mo_a hm | exact mo_r0 hm | exact mo_r1 hm | exact mo_r2 hm | exact mo_r4 hm | exact mo_r6 hm | exact mo_r8 hm | exact mo_a1 hm | exact mo_a2 hm | exact mo_a3 hm | exact mo_a4 hm | exact mo_a5 hm | exact mo_a6 hm) ?_
          refine px_bipush (8) dX8_setAt_11 rfl ?_
          refine px_ialdN (j := 8) dX8_setAt_13 (by first | assumption | exact mo_a hm | exact mo_r0 hm | exact mo_r1 hm | exact mo_r2 hm | exact mo_r4 hm | exact mo_r6 hm | exact mo_r8 hm | exact mo_a1 hm | exact mo_a2 hm | exact mo_a3 hm | exact mo_a4 hm | exact mo_a5 hm | exact mo_a6 hm) (by first | rfl | exact ix_eq (by assumption)) (by first | decide | omega) ?_
          rw [hσ]
          refine px_icmp_ge (tgt := 60) dX8_setAt_14 (by decide) (fun h14 => (by first | exact absurd h14 (lt_nle hn (by omega) (by omega)) | exact absurd (lt_nle hn (by omega) (by omega)) h14)) (fun h14 => ?_)
          refine px_iload_2 dX8_setAt_17 ?_
          refine px_if_ne (tgt := 60) dX8_setAt_18 (by decide) (fun h18 => (by first | exact absurd h18 (rfl) | exact absurd (rfl) h18)) (fun h18 => ?_)
          refine px_iload_3 dX8_setAt_21 ?_
          refine px_aload_0 dX8_setAt_22 ?_
          refine px_iload_4 dX8_setAt_23 ?_
          refine px_iconst (0) dX8_setAt_25 rfl ?_
          refine cd_X8_48 rfl ⟨⟨Nat.le_of_ble_eq_true rfl, Nat.le_of_ble_eq_true rfl⟩, Nat.le_of_ble_eq_true rfl, Nat.le_of_ble_eq_true rfl, Nat.le_of_ble_eq_true rfl⟩ (by first | assumption | exact mo_a hm | exact mo_r0 hm | exact mo_r1 hm | exact mo_r2 hm | exact mo_r4 hm | exact mo_r6 hm | exact mo_r8 hm | exact mo_a1 hm | exact mo_a2 hm | exact mo_a3 hm | exact mo_a4 hm | exact mo_a5 hm | exact mo_a6 hm) dX8_setAt_26 (s_X8_end (k := 0) (r := i) hm rfl (by omega) rfl (by decide)) ?_
          rw [hσ]
          refine px_iload_1 dX8_setAt_29 ?_
          refine px_icmp_eq (tgt := 44) dX8_setAt_30 (by decide) (fun h30 => (by first | exact absurd h30 (q0) | exact absurd (q0) h30)) (fun h30 => ?_)
          refine px_aload_0 dX8_setAt_33 ?_
          refine px_iload_4 dX8_setAt_34 ?_
          refine px_iconst (1) dX8_setAt_36 rfl ?_
          refine cd_X8_48 rfl ⟨⟨Nat.le_of_ble_eq_true rfl, Nat.le_of_ble_eq_true rfl⟩, Nat.le_of_ble_eq_true rfl, Nat.le_of_ble_eq_true rfl, Nat.le_of_ble_eq_true rfl⟩ (by first | assumption | exact mo_a hm | exact mo_r0 hm | exact mo_r1 hm | exact mo_r2 hm | exact mo_r4 hm | exact mo_r6 hm | exact mo_r8 hm | exact mo_a1 hm | exact mo_a2 hm | exact mo_a3 hm | exact mo_a4 hm | exact mo_a5 hm | exact mo_a6 hm) dX8_setAt_37 (s_X8_end (k := 1) (r := i) hm rfl (by omega) rfl (by decide)) ?_
          rw [hσ]
          refine px_iload_1 dX8_setAt_40 ?_
          refine px_icmp_ne (tgt := 51) dX8_setAt_41 (by decide) (fun h41 => (by first | exact absurd h41 (q1) | exact absurd (q1) h41)) (fun h41 => ?_)
          refine px_iconst (1) dX8_setAt_44 rfl ?_
          refine px_iload_4 dX8_setAt_45 ?_
          refine px_ishl dX8_setAt_47 ?_
          refine px_goto (tgt := 52) dX8_setAt_48 (by decide) ?_
          refine px_ior dX8_setAt_52 ?_
          refine px_istore_3 dX8_setAt_53 rfl ?_
          refine px_iinc_4 dX8_setAt_54 rfl ?_
          refine px_goto (tgt := 5) dX8_setAt_57 (by decide) ?_
          rw [inc_nI]; exact ih2
        · rw [if_neg (fun z => (of_decide_eq_true z).elim q0 q1)] at ih2
          refine px_iload_4 dX8_setAt_5 ?_
          refine px_aload_0 dX8_setAt_7 ?_
          refine gf_X8_7 rfl dX8_setAt_8 (by first | assumption | exact mo_a hm | exact mo_r0 hm | exact mo_r1 hm | exact mo_r2 hm | exact mo_r4 hm | exact mo_r6 hm | exact mo_r8 hm | exact mo_a1 hm | exact mo_a2 hm | exact mo_a3 hm | exact mo_a4 hm | exact mo_a5 hm | exact mo_a6 hm) (by first | assumption | exact mo_a hm | exact mo_r0 hm | exact mo_r1 hm | exact mo_r2 hm | exact mo_r4 hm | exact mo_r6 hm | exact mo_r8 hm | exact mo_a1 hm | exact mo_a2 hm | exact mo_a3 hm | exact mo_a4 hm | exact mo_a5 hm | exact mo_a6 hm) ?_
          refine px_bipush (8) dX8_setAt_11 rfl ?_
          refine px_ialdN (j := 8) dX8_setAt_13 (by first | assumption | exact mo_a hm | exact mo_r0 hm | exact mo_r1 hm | exact mo_r2 hm | exact mo_r4 hm | exact mo_r6 hm | exact mo_r8 hm | exact mo_a1 hm | exact mo_a2 hm | exact mo_a3 hm | exact mo_a4 hm | exact mo_a5 hm | exact mo_a6 hm) (by first | rfl | exact ix_eq (by assumption)) (by first | decide | omega) ?_
          rw [hσ]
          refine px_icmp_ge (tgt := 60) dX8_setAt_14 (by decide) (fun h14 => (by first | exact absurd h14 (lt_nle hn (by omega) (by omega)) | exact absurd (lt_nle hn (by omega) (by omega)) h14)) (fun h14 => ?_)
          refine px_iload_2 dX8_setAt_17 ?_
          refine px_if_ne (tgt := 60) dX8_setAt_18 (by decide) (fun h18 => (by first | exact absurd h18 (rfl) | exact absurd (rfl) h18)) (fun h18 => ?_)
          refine px_iload_3 dX8_setAt_21 ?_
          refine px_aload_0 dX8_setAt_22 ?_
          refine px_iload_4 dX8_setAt_23 ?_
          refine px_iconst (0) dX8_setAt_25 rfl ?_
          refine cd_X8_48 rfl ⟨⟨Nat.le_of_ble_eq_true rfl, Nat.le_of_ble_eq_true rfl⟩, Nat.le_of_ble_eq_true rfl, Nat.le_of_ble_eq_true rfl, Nat.le_of_ble_eq_true rfl⟩ (by first | assumption | exact mo_a hm | exact mo_r0 hm | exact mo_r1 hm | exact mo_r2 hm | exact mo_r4 hm | exact mo_r6 hm | exact mo_r8 hm | exact mo_a1 hm | exact mo_a2 hm | exact mo_a3 hm | exact mo_a4 hm | exact mo_a5 hm | exact mo_a6 hm) dX8_setAt_26 (s_X8_end (k := 0) (r := i) hm rfl (by omega) rfl (by decide)) ?_
          rw [hσ]
          refine px_iload_1 dX8_setAt_29 ?_
          refine px_icmp_eq (tgt := 44) dX8_setAt_30 (by decide) (fun h30 => (by first | exact absurd h30 (q0) | exact absurd (q0) h30)) (fun h30 => ?_)
          refine px_aload_0 dX8_setAt_33 ?_
          refine px_iload_4 dX8_setAt_34 ?_
          refine px_iconst (1) dX8_setAt_36 rfl ?_
          refine cd_X8_48 rfl ⟨⟨Nat.le_of_ble_eq_true rfl, Nat.le_of_ble_eq_true rfl⟩, Nat.le_of_ble_eq_true rfl, Nat.le_of_ble_eq_true rfl, Nat.le_of_ble_eq_true rfl⟩ (by first | assumption | exact mo_a hm | exact mo_r0 hm | exact mo_r1 hm | exact mo_r2 hm | exact mo_r4 hm | exact mo_r6 hm | exact mo_r8 hm | exact mo_a1 hm | exact mo_a2 hm | exact mo_a3 hm | exact mo_a4 hm | exact mo_a5 hm | exact mo_a6 hm) dX8_setAt_37 (s_X8_end (k := 1) (r := i) hm rfl (by omega) rfl (by decide)) ?_
          rw [hσ]
          refine px_iload_1 dX8_setAt_40 ?_
          refine px_icmp_ne (tgt := 51) dX8_setAt_41 (by decide) (fun h41 => ?_) (fun h41 => (by first | exact absurd (q1) h41 | exact absurd h41 (q1)))
          refine px_iconst (0) dX8_setAt_51 rfl ?_
          refine px_ior dX8_setAt_52 ?_
          refine px_istore_3 dX8_setAt_53 rfl ?_
          refine px_iinc_4 dX8_setAt_54 rfl ?_
          refine px_goto (tgt := 5) dX8_setAt_57 (by decide) ?_
          rw [inc_nI]; exact ih2
  refine px_iconst (0) dX8_setAt_0 rfl ?_
  refine px_istore_3 dX8_setAt_1 rfl ?_
  refine px_iconst (0) dX8_setAt_2 rfl ?_
  refine px_istore_4 dX8_setAt_3 rfl ?_
  exact L _ 0 (Nat.zero_add _)
theorem s_X8_setAt1 {t : Int32} (hm : px_mo G T R m) (hV : px_V (I (m + 1))) : px_K l G 2 mX8_setAt ([.ref m, .int t, .int 1]) ((T, I, J, R)) (some (.int (f_ca (I (m + 1)) t))) ((T, I, J, R)) := by
  have hn := hV.1.2.2.1
  have hn6 := hV.1.2.2.2
  generalize hσ : I (m + 1) = σ at hn hn6 ⊢
  refine px_met (M := mX8_setAt) ([some (.ref m), some (.int t), some (.int 1), none, none]) (by decide +kernel) rfl (Nat.le_of_ble_eq_true rfl) rfl ?_
  generalize hQ : (fun v m => v = some (Value.int (f_ca σ t)) ∧ m = (T, I, J, R) : Option Value → px_M → Prop) = Q
  have L : ∀ n i, i + n = f_nc σ → (px_W l G yX8_setAt cX8_setAt 5 (some .int) (px_rm 2 0 0) (px_Fn G Q 0 0) 63 [some (.ref m), some (.int t), some (.int 1), some (.int (f_mk (fun c => decide (σ (94 + 8 * c + 0) = t)) i)), some (.int (nI i))] [] 0 0 (T, I, J, R)) := by
    intro n
    induction n with
    | zero =>
      intro i hi
      refine px_iload_4 dX8_setAt_63 ?_
      refine px_aload_0 dX8_setAt_65 ?_
      refine gf_X8_7 rfl dX8_setAt_66 (by first | assumption | exact mo_a hm | exact mo_r0 hm | exact mo_r1 hm | exact mo_r2 hm | exact mo_r4 hm | exact mo_r6 hm | exact mo_r8 hm | exact mo_a1 hm | exact mo_a2 hm | exact mo_a3 hm | exact mo_a4 hm | exact mo_a5 hm | exact mo_a6 hm) (by first | assumption | exact mo_a hm | exact mo_r0 hm | exact mo_r1 hm | exact mo_r2 hm | exact mo_r4 hm | exact mo_r6 hm | exact mo_r8 hm | exact mo_a1 hm | exact mo_a2 hm | exact mo_a3 hm | exact mo_a4 hm | exact mo_a5 hm | exact mo_a6 hm) ?_
      refine px_bipush (93) dX8_setAt_69 rfl ?_
      refine px_ialdN (j := 93) dX8_setAt_71 (by first | assumption | exact mo_a hm | exact mo_r0 hm | exact mo_r1 hm | exact mo_r2 hm | exact mo_r4 hm | exact mo_r6 hm | exact mo_r8 hm | exact mo_a1 hm | exact mo_a2 hm | exact mo_a3 hm | exact mo_a4 hm | exact mo_a5 hm | exact mo_a6 hm) (by first | rfl | exact ix_eq (by assumption)) (by first | decide | omega) ?_
      rw [hσ]
      refine px_icmp_ge (tgt := 112) dX8_setAt_72 (by decide) (fun h72 => ?_) (fun h72 => (by first | exact absurd (le_nI hn (by omega) (by omega)) h72 | exact absurd h72 (le_nI hn (by omega) (by omega))))
      refine px_iload_3 dX8_setAt_112 ?_
      refine px_iret dX8_setAt_113 ?_
      subst hQ; exact ⟨by rw [f_ca, show i = f_nc σ by omega], rfl⟩
    | succ n ih =>
      intro i hi
      have ih2 := ih (i + 1) (by omega)
      rw [f_mk] at ih2
      by_cases q0 : σ (94 + 8 * i + 0) = t
      · rw [if_pos (decide_eq_true q0)] at ih2
        refine px_iload_4 dX8_setAt_63 ?_
        refine px_aload_0 dX8_setAt_65 ?_
        refine gf_X8_7 rfl dX8_setAt_66 (by first | assumption | exact mo_a hm | exact mo_r0 hm | exact mo_r1 hm | exact mo_r2 hm | exact mo_r4 hm | exact mo_r6 hm | exact mo_r8 hm | exact mo_a1 hm | exact mo_a2 hm | exact mo_a3 hm | exact mo_a4 hm | exact mo_a5 hm | exact mo_a6 hm) (by first | assumption | exact mo_a hm | exact mo_r0 hm | exact mo_r1 hm | exact mo_r2 hm | exact mo_r4 hm | exact mo_r6 hm | exact mo_r8 hm | exact mo_a1 hm | exact mo_a2 hm | exact mo_a3 hm | exact mo_a4 hm | exact mo_a5 hm | exact mo_a6 hm) ?_
        refine px_bipush (93) dX8_setAt_69 rfl ?_
        refine px_ialdN (j := 93) dX8_setAt_71 (by first | assumption | exact mo_a hm | exact mo_r0 hm | exact mo_r1 hm | exact mo_r2 hm | exact mo_r4 hm | exact mo_r6 hm | exact mo_r8 hm | exact mo_a1 hm | exact mo_a2 hm | exact mo_a3 hm | exact mo_a4 hm | exact mo_a5 hm | exact mo_a6 hm) (by first | rfl | exact ix_eq (by assumption)) (by first | decide | omega) ?_
        rw [hσ]
        refine px_icmp_ge (tgt := 112) dX8_setAt_72 (by decide) (fun h72 => (by first | exact absurd h72 (lt_nle hn (by omega) (by omega)) | exact absurd (lt_nle hn (by omega) (by omega)) h72)) (fun h72 => ?_)
        refine px_iload_2 dX8_setAt_75 ?_
        refine px_iconst (1) dX8_setAt_76 rfl ?_
        refine px_icmp_ne (tgt := 112) dX8_setAt_77 (by decide) (fun h77 => (by first | exact absurd h77 (rfl) | exact absurd (rfl) h77)) (fun h77 => ?_)
        refine px_iload_3 dX8_setAt_80 ?_
        refine px_aload_0 dX8_setAt_81 ?_
        refine gf_X8_7 rfl dX8_setAt_82 (by first | assumption | exact mo_a hm | exact mo_r0 hm | exact mo_r1 hm | exact mo_r2 hm | exact mo_r4 hm | exact mo_r6 hm | exact mo_r8 hm | exact mo_a1 hm | exact mo_a2 hm | exact mo_a3 hm | exact mo_a4 hm | exact mo_a5 hm | exact mo_a6 hm) (by first | assumption | exact mo_a hm | exact mo_r0 hm | exact mo_r1 hm | exact mo_r2 hm | exact mo_r4 hm | exact mo_r6 hm | exact mo_r8 hm | exact mo_a1 hm | exact mo_a2 hm | exact mo_a3 hm | exact mo_a4 hm | exact mo_a5 hm | exact mo_a6 hm) ?_
        refine px_iload_4 dX8_setAt_85 ?_
        refine px_iconst (0) dX8_setAt_87 rfl ?_
        refine cd_X8_128 rfl ⟨⟨Nat.le_of_ble_eq_true rfl, Nat.le_of_ble_eq_true rfl⟩, Nat.le_of_ble_eq_true rfl, Nat.le_of_ble_eq_true rfl, Nat.le_of_ble_eq_true rfl⟩ dX8_setAt_88 (s_X8_ofOneCart (j := 0) (r := i) rfl) ?_
        refine px_ialdN dX8_setAt_91 (by first | assumption | exact mo_a hm | exact mo_r0 hm | exact mo_r1 hm | exact mo_r2 hm | exact mo_r4 hm | exact mo_r6 hm | exact mo_r8 hm | exact mo_a1 hm | exact mo_a2 hm | exact mo_a3 hm | exact mo_a4 hm | exact mo_a5 hm | exact mo_a6 hm) (by first | rfl | exact ix_eq (by assumption)) (by first | decide | omega) ?_
        rw [hσ]
        refine px_iload_1 dX8_setAt_92 ?_
        refine px_icmp_ne (tgt := 103) dX8_setAt_93 (by decide) (fun h93 => (by first | exact absurd h93 (q0) | exact absurd (q0) h93)) (fun h93 => ?_)
        refine px_iconst (1) dX8_setAt_96 rfl ?_
        refine px_iload_4 dX8_setAt_97 ?_
        refine px_ishl dX8_setAt_99 ?_
        refine px_goto (tgt := 104) dX8_setAt_100 (by decide) ?_
        refine px_ior dX8_setAt_104 ?_
        refine px_istore_3 dX8_setAt_105 rfl ?_
        refine px_iinc_4 dX8_setAt_106 rfl ?_
        refine px_goto (tgt := 63) dX8_setAt_109 (by decide) ?_
        rw [inc_nI]; exact ih2
      · rw [if_neg (fun z => q0 (of_decide_eq_true z))] at ih2
        refine px_iload_4 dX8_setAt_63 ?_
        refine px_aload_0 dX8_setAt_65 ?_
        refine gf_X8_7 rfl dX8_setAt_66 (by first | assumption | exact mo_a hm | exact mo_r0 hm | exact mo_r1 hm | exact mo_r2 hm | exact mo_r4 hm | exact mo_r6 hm | exact mo_r8 hm | exact mo_a1 hm | exact mo_a2 hm | exact mo_a3 hm | exact mo_a4 hm | exact mo_a5 hm | exact mo_a6 hm) (by first | assumption | exact mo_a hm | exact mo_r0 hm | exact mo_r1 hm | exact mo_r2 hm | exact mo_r4 hm | exact mo_r6 hm | exact mo_r8 hm | exact mo_a1 hm | exact mo_a2 hm | exact mo_a3 hm | exact mo_a4 hm | exact mo_a5 hm | exact mo_a6 hm) ?_
        refine px_bipush (93) dX8_setAt_69 rfl ?_
        refine px_ialdN (j := 93) dX8_setAt_71 (by first | assumption | exact mo_a hm | exact mo_r0 hm | exact mo_r1 hm | exact mo_r2 hm | exact mo_r4 hm | exact mo_r6 hm | exact mo_r8 hm | exact mo_a1 hm | exact mo_a2 hm | exact mo_a3 hm | exact mo_a4 hm | exact mo_a5 hm | exact mo_a6 hm) (by first | rfl | exact ix_eq (by assumption)) (by first | decide | omega) ?_
        rw [hσ]
        refine px_icmp_ge (tgt := 112) dX8_setAt_72 (by decide) (fun h72 => (by first | exact absurd h72 (lt_nle hn (by omega) (by omega)) | exact absurd (lt_nle hn (by omega) (by omega)) h72)) (fun h72 => ?_)
        refine px_iload_2 dX8_setAt_75 ?_
        refine px_iconst (1) dX8_setAt_76 rfl ?_
        refine px_icmp_ne (tgt := 112) dX8_setAt_77 (by decide) (fun h77 => (by first | exact absurd h77 (rfl) | exact absurd (rfl) h77)) (fun h77 => ?_)
        refine px_iload_3 dX8_setAt_80 ?_
        refine px_aload_0 dX8_setAt_81 ?_
        refine gf_X8_7 rfl dX8_setAt_82 (by first | assumption | exact mo_a hm | exact mo_r0 hm | exact mo_r1 hm | exact mo_r2 hm | exact mo_r4 hm | exact mo_r6 hm | exact mo_r8 hm | exact mo_a1 hm | exact mo_a2 hm | exact mo_a3 hm | exact mo_a4 hm | exact mo_a5 hm | exact mo_a6 hm) (by first | assumption | exact mo_a hm | exact mo_r0 hm | exact mo_r1 hm | exact mo_r2 hm | exact mo_r4 hm | exact mo_r6 hm | exact mo_r8 hm | exact mo_a1 hm | exact mo_a2 hm | exact mo_a3 hm | exact mo_a4 hm | exact mo_a5 hm | exact mo_a6 hm) ?_
        refine px_iload_4 dX8_setAt_85 ?_
        refine px_iconst (0) dX8_setAt_87 rfl ?_
        refine cd_X8_128 rfl ⟨⟨Nat.le_of_ble_eq_true rfl, Nat.le_of_ble_eq_true rfl⟩, Nat.le_of_ble_eq_true rfl, Nat.le_of_ble_eq_true rfl, Nat.le_of_ble_eq_true rfl⟩ dX8_setAt_88 (s_X8_ofOneCart (j := 0) (r := i) rfl) ?_
        refine px_ialdN dX8_setAt_91 (by first | assumption | exact mo_a hm | exact mo_r0 hm | exact mo_r1 hm | exact mo_r2 hm | exact mo_r4 hm | exact mo_r6 hm | exact mo_r8 hm | exact mo_a1 hm | exact mo_a2 hm | exact mo_a3 hm | exact mo_a4 hm | exact mo_a5 hm | exact mo_a6 hm) (by first | rfl | exact ix_eq (by assumption)) (by first | decide | omega) ?_
        rw [hσ]
        refine px_iload_1 dX8_setAt_92 ?_
        refine px_icmp_ne (tgt := 103) dX8_setAt_93 (by decide) (fun h93 => ?_) (fun h93 => (by first | exact absurd (q0) h93 | exact absurd h93 (q0)))
        refine px_iconst (0) dX8_setAt_103 rfl ?_
        refine px_ior dX8_setAt_104 ?_
        refine px_istore_3 dX8_setAt_105 rfl ?_
        refine px_iinc_4 dX8_setAt_106 rfl ?_
        refine px_goto (tgt := 63) dX8_setAt_109 (by decide) ?_
        rw [inc_nI]; exact ih2
  by_cases h0 : σ 8 ≤ 0
  · skip
    refine px_iconst (0) dX8_setAt_0 rfl ?_
    refine px_istore_3 dX8_setAt_1 rfl ?_
    refine px_iconst (0) dX8_setAt_2 rfl ?_
    refine px_istore_4 dX8_setAt_3 rfl ?_
    refine px_iload_4 dX8_setAt_5 ?_
    refine px_aload_0 dX8_setAt_7 ?_
    refine gf_X8_7 rfl dX8_setAt_8 (by first | assumption | exact mo_a hm | exact mo_r0 hm | exact mo_r1 hm | exact mo_r2 hm | exact mo_r4 hm | exact mo_r6 hm | exact mo_r8 hm | exact mo_a1 hm | exact mo_a2 hm | exact mo_a3 hm | exact mo_a4 hm | exact mo_a5 hm | exact mo_a6 hm) (by first | assumption | exact mo_a hm | exact mo_r0 hm | exact mo_r1 hm | exact mo_r2 hm | exact mo_r4 hm | exact mo_r6 hm | exact mo_r8 hm | exact mo_a1 hm | exact mo_a2 hm | exact mo_a3 hm | exact mo_a4 hm | exact mo_a5 hm | exact mo_a6 hm) ?_
    refine px_bipush (8) dX8_setAt_11 rfl ?_
    refine px_ialdN (j := 8) dX8_setAt_13 (by first | assumption | exact mo_a hm | exact mo_r0 hm | exact mo_r1 hm | exact mo_r2 hm | exact mo_r4 hm | exact mo_r6 hm | exact mo_r8 hm | exact mo_a1 hm | exact mo_a2 hm | exact mo_a3 hm | exact mo_a4 hm | exact mo_a5 hm | exact mo_a6 hm) (by first | rfl | exact ix_eq (by assumption)) (by first | decide | omega) ?_
    rw [hσ]
    refine px_icmp_ge (tgt := 60) dX8_setAt_14 (by decide) (fun h14 => ?_) (fun h14 => (by first | exact absurd (h0) h14 | exact absurd h14 (h0)))
    refine px_iconst (0) dX8_setAt_60 rfl ?_
    refine px_istore_4 dX8_setAt_61 rfl ?_
    exact L _ 0 (Nat.zero_add _)
  · skip
    refine px_iconst (0) dX8_setAt_0 rfl ?_
    refine px_istore_3 dX8_setAt_1 rfl ?_
    refine px_iconst (0) dX8_setAt_2 rfl ?_
    refine px_istore_4 dX8_setAt_3 rfl ?_
    refine px_iload_4 dX8_setAt_5 ?_
    refine px_aload_0 dX8_setAt_7 ?_
    refine gf_X8_7 rfl dX8_setAt_8 (by first | assumption | exact mo_a hm | exact mo_r0 hm | exact mo_r1 hm | exact mo_r2 hm | exact mo_r4 hm | exact mo_r6 hm | exact mo_r8 hm | exact mo_a1 hm | exact mo_a2 hm | exact mo_a3 hm | exact mo_a4 hm | exact mo_a5 hm | exact mo_a6 hm) (by first | assumption | exact mo_a hm | exact mo_r0 hm | exact mo_r1 hm | exact mo_r2 hm | exact mo_r4 hm | exact mo_r6 hm | exact mo_r8 hm | exact mo_a1 hm | exact mo_a2 hm | exact mo_a3 hm | exact mo_a4 hm | exact mo_a5 hm | exact mo_a6 hm) ?_
    refine px_bipush (8) dX8_setAt_11 rfl ?_
    refine px_ialdN (j := 8) dX8_setAt_13 (by first | assumption | exact mo_a hm | exact mo_r0 hm | exact mo_r1 hm | exact mo_r2 hm | exact mo_r4 hm | exact mo_r6 hm | exact mo_r8 hm | exact mo_a1 hm | exact mo_a2 hm | exact mo_a3 hm | exact mo_a4 hm | exact mo_a5 hm | exact mo_a6 hm) (by first | rfl | exact ix_eq (by assumption)) (by first | decide | omega) ?_
    rw [hσ]
    refine px_icmp_ge (tgt := 60) dX8_setAt_14 (by decide) (fun h14 => (by first | exact absurd h14 (h0) | exact absurd (h0) h14)) (fun h14 => ?_)
    refine px_iload_2 dX8_setAt_17 ?_
    refine px_if_ne (tgt := 60) dX8_setAt_18 (by decide) (fun h18 => ?_) (fun h18 => (by first | exact absurd ((by decide)) h18 | exact absurd h18 ((by decide))))
    refine px_iconst (0) dX8_setAt_60 rfl ?_
    refine px_istore_4 dX8_setAt_61 rfl ?_
    exact L _ 0 (Nat.zero_add _)
theorem px_up_sub0 {a k : Nat} : px_up I a k (I a k - 0) = I := by
  funext c j
  rw [px_up_at]
  by_cases h : c = a ∧ j = k
  · rw [if_pos h, h.1, h.2]; simp
  · rw [if_neg h]
theorem px_up_add0 {a k : Nat} : px_up I a k (I a k + 0) = I := by
  funext c j
  rw [px_up_at]
  by_cases h : c = a ∧ j = k
  · rw [if_pos h, h.1, h.2]; simp
  · rw [if_neg h]
theorem s_X8_goes {a b h : Int32} (hm : px_mo G T R m) (hV : px_V (I (m + 1))) (hcoin : ∀ c, c < f_nc (I (m + 1)) → 0 ≤ I (m + 1) (94 + 8 * c + 1)) : px_K l G 3 mX8_goes ([.ref m, .int a, .int b, .int h]) ((T, I, J, R)) (some (.int (f_go (I (m + 1)) a b h).1)) ((T, px_set I (m + 1) (f_go (I (m + 1)) a b h).2, J, R)) := by
  refine px_met (M := mX8_goes) ([some (.ref m), some (.int a), some (.int b), some (.int h), none, none, none]) (by decide +kernel) rfl (Nat.le_of_ble_eq_true rfl) rfl ?_
  by_cases hr : rg a 0 (I (m + 1) 93 - 1)
  · by_cases hr2 : rg b 0 (I (m + 1) 8 - 1)
    · by_cases hr3 : rg h 0 1
      · obtain ⟨ha, hl, h6⟩ := ct_lt hV hr
        obtain ⟨hb, hl2, h14⟩ := rd_lt hV hr2
        have hs := (hV.2.2.2.1 _ hl).2
        have heo := s_X8_endOf (l := l) (I := I) (J := J) hm ha (show ix a < 6 by omega) hb (show ix b < 14 by omega)
        generalize hσ : I (m + 1) = σ at *
        clear hV
        by_cases hat : f_at σ (ix b) (σ (94 + 8 * ix a + 0))
        · obtain ⟨k, hk, ek, ef⟩ : ∃ k, k < 2 ∧ (if σ (9 + 6 * ix b + 0) = σ (94 + 8 * ix a + 0) then 0 else if σ (9 + 6 * ix b + 1) = σ (94 + 8 * ix a + 0) then 1 else -6 : Int32) = nI k ∧ f_far σ (ix b) (σ (94 + 8 * ix a + 0)) = σ (9 + 6 * ix b + (1 - k)) := by
            by_cases q : σ (9 + 6 * ix b + 0) = σ (94 + 8 * ix a + 0)
            · exact ⟨0, by decide, by rw [if_pos q]; rfl, by rw [f_far, if_pos q]⟩
            · exact ⟨1, by decide, by rw [if_neg q, if_pos (hat.resolve_left q)]; rfl, by rw [f_far, if_neg q]⟩
          rw [ek] at heo
          have k6 : ¬ nI k = -6 := by rcases (by omega : k = 0 ∨ k = 1) with rfl | rfl <;> decide
          have k1 : (1 : Int32) - nI k = nI (1 - k) := pk_sub (a := 1) (by omega)
          rcases rg01 hr3 with h0 | h1
          · have h01 : ¬ h = 1 := by rw [h0]; decide
            have e4 : (4 : Int32) + h = nI 4 := by rw [h0]; rfl
            by_cases hp : σ (94 + 8 * ix a + 1) < σ (9 + 6 * ix b + 2) * σ (94 + 8 * ix a + 2)
            · have hf : f_go σ a b h = (-5, σ) := by clear ha hb hσ heo ek ef; grind [f_go]
              rw [hf, ← hσ, mem_id]
              refine px_aload_0 dX8_goes_0 ?_
              refine px_iload_1 dX8_goes_1 ?_
              refine cd_X8_134 rfl ⟨⟨Nat.le_of_ble_eq_true rfl, Nat.le_of_ble_eq_true rfl⟩, Nat.le_of_ble_eq_true rfl, Nat.le_of_ble_eq_true rfl, Nat.le_of_ble_eq_true rfl⟩ (by first | assumption | exact mo_a hm | exact mo_r0 hm | exact mo_r1 hm | exact mo_r2 hm | exact mo_r4 hm | exact mo_r6 hm | exact mo_r8 hm | exact mo_a1 hm | exact mo_a2 hm | exact mo_a3 hm | exact mo_a4 hm | exact mo_a5 hm | exact mo_a6 hm) dX8_goes_2 (s_X8_isCart hm) ?_
              rw [hσ]
              refine px_ifb_eq (tgt := 16) dX8_goes_5 (by decide) (fun h5 => (by first | exact absurd h5 (hr) | exact absurd (hr) h5)) (fun h5 => ?_)
              refine px_aload_0 dX8_goes_8 ?_
              refine px_iload_2 dX8_goes_9 ?_
              refine cd_X8_118 rfl ⟨⟨Nat.le_of_ble_eq_true rfl, Nat.le_of_ble_eq_true rfl⟩, Nat.le_of_ble_eq_true rfl, Nat.le_of_ble_eq_true rfl, Nat.le_of_ble_eq_true rfl⟩ (by first | assumption | exact mo_a hm | exact mo_r0 hm | exact mo_r1 hm | exact mo_r2 hm | exact mo_r4 hm | exact mo_r6 hm | exact mo_r8 hm | exact mo_a1 hm | exact mo_a2 hm | exact mo_a3 hm | exact mo_a4 hm | exact mo_a5 hm | exact mo_a6 hm) dX8_goes_10 (s_X8_isRoad hm) ?_
              rw [hσ]
              refine px_ifb_ne (tgt := 18) dX8_goes_13 (by decide) (fun h13 => ?_) (fun h13 => (by first | exact absurd (hr2) h13 | exact absurd h13 (hr2)))
              refine px_iload_3 dX8_goes_18 ?_
              refine px_iconst (0) dX8_goes_19 rfl ?_
              refine px_iconst (1) dX8_goes_20 rfl ?_
              refine cd_X8_29 rfl ⟨⟨Nat.le_of_ble_eq_true rfl, Nat.le_of_ble_eq_true rfl⟩, Nat.le_of_ble_eq_true rfl, Nat.le_of_ble_eq_true rfl, Nat.le_of_ble_eq_true rfl⟩ dX8_goes_21 (s_X8_in) ?_
              refine px_ifb_ne (tgt := 30) dX8_goes_24 (by decide) (fun h24 => ?_) (fun h24 => (by first | exact absurd (hr3) h24 | exact absurd h24 (hr3)))
              refine px_aload_0 dX8_goes_30 ?_
              refine px_iload_1 dX8_goes_31 ?_
              refine px_iload_2 dX8_goes_32 ?_
              refine cd_X8_147 rfl ⟨⟨Nat.le_of_ble_eq_true rfl, Nat.le_of_ble_eq_true rfl⟩, Nat.le_of_ble_eq_true rfl, Nat.le_of_ble_eq_true rfl, Nat.le_of_ble_eq_true rfl⟩ (by first | assumption | exact mo_a hm | exact mo_r0 hm | exact mo_r1 hm | exact mo_r2 hm | exact mo_r4 hm | exact mo_r6 hm | exact mo_r8 hm | exact mo_a1 hm | exact mo_a2 hm | exact mo_a3 hm | exact mo_a4 hm | exact mo_a5 hm | exact mo_a6 hm) dX8_goes_33 (heo) ?_
              refine px_istore_4 dX8_goes_36 rfl ?_
              refine px_iload_3 dX8_goes_38 ?_
              refine px_iconst (1) dX8_goes_39 rfl ?_
              refine px_icmp_ne (tgt := 47) dX8_goes_40 (by decide) (fun h40 => ?_) (fun h40 => (by first | exact absurd (h01) h40 | exact absurd h40 (h01)))
              refine px_aload_0 dX8_goes_47 ?_
              refine gf_X8_7 rfl dX8_goes_48 (by first | assumption | exact mo_a hm | exact mo_r0 hm | exact mo_r1 hm | exact mo_r2 hm | exact mo_r4 hm | exact mo_r6 hm | exact mo_r8 hm | exact mo_a1 hm | exact mo_a2 hm | exact mo_a3 hm | exact mo_a4 hm | exact mo_a5 hm | exact mo_a6 hm) (by first | assumption | exact mo_a hm | exact mo_r0 hm | exact mo_r1 hm | exact mo_r2 hm | exact mo_r4 hm | exact mo_r6 hm | exact mo_r8 hm | exact mo_a1 hm | exact mo_a2 hm | exact mo_a3 hm | exact mo_a4 hm | exact mo_a5 hm | exact mo_a6 hm) ?_
              refine px_iload_2 dX8_goes_51 ?_
              refine px_iconst (2) dX8_goes_52 rfl ?_
              refine cd_X8_40 rfl ⟨⟨Nat.le_of_ble_eq_true rfl, Nat.le_of_ble_eq_true rfl⟩, Nat.le_of_ble_eq_true rfl, Nat.le_of_ble_eq_true rfl, Nat.le_of_ble_eq_true rfl⟩ dX8_goes_53 (s_X8_ofOneRoad (j := 2) hb) ?_
              refine px_ialdN dX8_goes_56 (by first | assumption | exact mo_a hm | exact mo_r0 hm | exact mo_r1 hm | exact mo_r2 hm | exact mo_r4 hm | exact mo_r6 hm | exact mo_r8 hm | exact mo_a1 hm | exact mo_a2 hm | exact mo_a3 hm | exact mo_a4 hm | exact mo_a5 hm | exact mo_a6 hm) (by first | rfl | exact ix_eq (by assumption)) (by first | decide | omega) ?_
              rw [hσ]
              refine px_aload_0 dX8_goes_57 ?_
              refine gf_X8_7 rfl dX8_goes_58 (by first | assumption | exact mo_a hm | exact mo_r0 hm | exact mo_r1 hm | exact mo_r2 hm | exact mo_r4 hm | exact mo_r6 hm | exact mo_r8 hm | exact mo_a1 hm | exact mo_a2 hm | exact mo_a3 hm | exact mo_a4 hm | exact mo_a5 hm | exact mo_a6 hm) (by first | assumption | exact mo_a hm | exact mo_r0 hm | exact mo_r1 hm | exact mo_r2 hm | exact mo_r4 hm | exact mo_r6 hm | exact mo_r8 hm | exact mo_a1 hm | exact mo_a2 hm | exact mo_a3 hm | exact mo_a4 hm | exact mo_a5 hm | exact mo_a6 hm) ?_
              refine px_iload_1 dX8_goes_61 ?_
              refine px_iconst (2) dX8_goes_62 rfl ?_
              refine cd_X8_128 rfl ⟨⟨Nat.le_of_ble_eq_true rfl, Nat.le_of_ble_eq_true rfl⟩, Nat.le_of_ble_eq_true rfl, Nat.le_of_ble_eq_true rfl, Nat.le_of_ble_eq_true rfl⟩ dX8_goes_63 (s_X8_ofOneCart (j := 2) ha) ?_
              refine px_ialdN dX8_goes_66 (by first | assumption | exact mo_a hm | exact mo_r0 hm | exact mo_r1 hm | exact mo_r2 hm | exact mo_r4 hm | exact mo_r6 hm | exact mo_r8 hm | exact mo_a1 hm | exact mo_a2 hm | exact mo_a3 hm | exact mo_a4 hm | exact mo_a5 hm | exact mo_a6 hm) (by first | rfl | exact ix_eq (by assumption)) (by first | decide | omega) ?_
              rw [hσ]
              refine px_imul dX8_goes_67 ?_
              refine px_istore_5 dX8_goes_68 rfl ?_
              refine px_iload_4 dX8_goes_70 ?_
              refine px_bipush (-6) dX8_goes_72 rfl ?_
              refine px_icmp_eq (tgt := 92) dX8_goes_74 (by decide) (fun h74 => (by first | exact absurd h74 (k6) | exact absurd (k6) h74)) (fun h74 => ?_)
              refine px_iload_5 dX8_goes_77 ?_
              refine px_aload_0 dX8_goes_79 ?_
              refine gf_X8_7 rfl dX8_goes_80 (by first | assumption | exact mo_a hm | exact mo_r0 hm | exact mo_r1 hm | exact mo_r2 hm | exact mo_r4 hm | exact mo_r6 hm | exact mo_r8 hm | exact mo_a1 hm | exact mo_a2 hm | exact mo_a3 hm | exact mo_a4 hm | exact mo_a5 hm | exact mo_a6 hm) (by first | assumption | exact mo_a hm | exact mo_r0 hm | exact mo_r1 hm | exact mo_r2 hm | exact mo_r4 hm | exact mo_r6 hm | exact mo_r8 hm | exact mo_a1 hm | exact mo_a2 hm | exact mo_a3 hm | exact mo_a4 hm | exact mo_a5 hm | exact mo_a6 hm) ?_
              refine px_iload_1 dX8_goes_83 ?_
              refine px_iconst (1) dX8_goes_84 rfl ?_
              refine cd_X8_128 rfl ⟨⟨Nat.le_of_ble_eq_true rfl, Nat.le_of_ble_eq_true rfl⟩, Nat.le_of_ble_eq_true rfl, Nat.le_of_ble_eq_true rfl, Nat.le_of_ble_eq_true rfl⟩ dX8_goes_85 (s_X8_ofOneCart (j := 1) ha) ?_
              refine px_ialdN dX8_goes_88 (by first | assumption | exact mo_a hm | exact mo_r0 hm | exact mo_r1 hm | exact mo_r2 hm | exact mo_r4 hm | exact mo_r6 hm | exact mo_r8 hm | exact mo_a1 hm | exact mo_a2 hm | exact mo_a3 hm | exact mo_a4 hm | exact mo_a5 hm | exact mo_a6 hm) (by first | rfl | exact ix_eq (by assumption)) (by first | decide | omega) ?_
              rw [hσ]
              refine px_icmp_le (tgt := 95) dX8_goes_89 (by decide) (fun h89 => (by first | exact absurd h89 ((Int32.not_le.mpr hp)) | exact absurd ((Int32.not_le.mpr hp)) h89)) (fun h89 => ?_)
              refine px_bipush (-5) dX8_goes_92 rfl ?_
              refine px_iret dX8_goes_94 ?_
              exact ⟨rfl, rfl⟩
            · have hf : f_go σ a b h = (0, upd (upd (upd (upd σ (94 + 8 * ix a + 1) (σ (94 + 8 * ix a + 1) - σ (9 + 6 * ix b + 2) * σ (94 + 8 * ix a + 2))) (94 + 8 * ix a + 5) (σ (94 + 8 * ix a + 5) + σ (9 + 6 * ix b + 2) * σ (94 + 8 * ix a + 2))) (94 + 8 * ix a + 0) (σ (9 + 6 * ix b + (1 - k)))) (9 + 6 * ix b + 4) (σ (9 + 6 * ix b + 4) + 1)) := by clear ha hb hσ heo ek; grind [f_go]
              rw [hf]
              refine px_aload_0 dX8_goes_0 ?_
              refine px_iload_1 dX8_goes_1 ?_
              refine cd_X8_134 rfl ⟨⟨Nat.le_of_ble_eq_true rfl, Nat.le_of_ble_eq_true rfl⟩, Nat.le_of_ble_eq_true rfl, Nat.le_of_ble_eq_true rfl, Nat.le_of_ble_eq_true rfl⟩ (by first | assumption | exact mo_a hm | exact mo_r0 hm | exact mo_r1 hm | exact mo_r2 hm | exact mo_r4 hm | exact mo_r6 hm | exact mo_r8 hm | exact mo_a1 hm | exact mo_a2 hm | exact mo_a3 hm | exact mo_a4 hm | exact mo_a5 hm | exact mo_a6 hm) dX8_goes_2 (s_X8_isCart hm) ?_
              rw [hσ]
              refine px_ifb_eq (tgt := 16) dX8_goes_5 (by decide) (fun h5 => (by first | exact absurd h5 (hr) | exact absurd (hr) h5)) (fun h5 => ?_)
              refine px_aload_0 dX8_goes_8 ?_
              refine px_iload_2 dX8_goes_9 ?_
              refine cd_X8_118 rfl ⟨⟨Nat.le_of_ble_eq_true rfl, Nat.le_of_ble_eq_true rfl⟩, Nat.le_of_ble_eq_true rfl, Nat.le_of_ble_eq_true rfl, Nat.le_of_ble_eq_true rfl⟩ (by first | assumption | exact mo_a hm | exact mo_r0 hm | exact mo_r1 hm | exact mo_r2 hm | exact mo_r4 hm | exact mo_r6 hm | exact mo_r8 hm | exact mo_a1 hm | exact mo_a2 hm | exact mo_a3 hm | exact mo_a4 hm | exact mo_a5 hm | exact mo_a6 hm) dX8_goes_10 (s_X8_isRoad hm) ?_
              rw [hσ]
              refine px_ifb_ne (tgt := 18) dX8_goes_13 (by decide) (fun h13 => ?_) (fun h13 => (by first | exact absurd (hr2) h13 | exact absurd h13 (hr2)))
              refine px_iload_3 dX8_goes_18 ?_
              refine px_iconst (0) dX8_goes_19 rfl ?_
              refine px_iconst (1) dX8_goes_20 rfl ?_
              refine cd_X8_29 rfl ⟨⟨Nat.le_of_ble_eq_true rfl, Nat.le_of_ble_eq_true rfl⟩, Nat.le_of_ble_eq_true rfl, Nat.le_of_ble_eq_true rfl, Nat.le_of_ble_eq_true rfl⟩ dX8_goes_21 (s_X8_in) ?_
              refine px_ifb_ne (tgt := 30) dX8_goes_24 (by decide) (fun h24 => ?_) (fun h24 => (by first | exact absurd (hr3) h24 | exact absurd h24 (hr3)))
              refine px_aload_0 dX8_goes_30 ?_
              refine px_iload_1 dX8_goes_31 ?_
              refine px_iload_2 dX8_goes_32 ?_
              refine cd_X8_147 rfl ⟨⟨Nat.le_of_ble_eq_true rfl, Nat.le_of_ble_eq_true rfl⟩, Nat.le_of_ble_eq_true rfl, Nat.le_of_ble_eq_true rfl, Nat.le_of_ble_eq_true rfl⟩ (by first | assumption | exact mo_a hm | exact mo_r0 hm | exact mo_r1 hm | exact mo_r2 hm | exact mo_r4 hm | exact mo_r6 hm | exact mo_r8 hm | exact mo_a1 hm | exact mo_a2 hm | exact mo_a3 hm | exact mo_a4 hm | exact mo_a5 hm | exact mo_a6 hm) dX8_goes_33 (heo) ?_
              refine px_istore_4 dX8_goes_36 rfl ?_
              refine px_iload_3 dX8_goes_38 ?_
              refine px_iconst (1) dX8_goes_39 rfl ?_
              refine px_icmp_ne (tgt := 47) dX8_goes_40 (by decide) (fun h40 => ?_) (fun h40 => (by first | exact absurd (h01) h40 | exact absurd h40 (h01)))
              refine px_aload_0 dX8_goes_47 ?_
              refine gf_X8_7 rfl dX8_goes_48 (by first | assumption | exact mo_a hm | exact mo_r0 hm | exact mo_r1 hm | exact mo_r2 hm | exact mo_r4 hm | exact mo_r6 hm | exact mo_r8 hm | exact mo_a1 hm | exact mo_a2 hm | exact mo_a3 hm | exact mo_a4 hm | exact mo_a5 hm | exact mo_a6 hm) (by first | assumption | exact mo_a hm | exact mo_r0 hm | exact mo_r1 hm | exact mo_r2 hm | exact mo_r4 hm | exact mo_r6 hm | exact mo_r8 hm | exact mo_a1 hm | exact mo_a2 hm | exact mo_a3 hm | exact mo_a4 hm | exact mo_a5 hm | exact mo_a6 hm) ?_
              refine px_iload_2 dX8_goes_51 ?_
              refine px_iconst (2) dX8_goes_52 rfl ?_
              refine cd_X8_40 rfl ⟨⟨Nat.le_of_ble_eq_true rfl, Nat.le_of_ble_eq_true rfl⟩, Nat.le_of_ble_eq_true rfl, Nat.le_of_ble_eq_true rfl, Nat.le_of_ble_eq_true rfl⟩ dX8_goes_53 (s_X8_ofOneRoad (j := 2) hb) ?_
              refine px_ialdN dX8_goes_56 (by first | assumption | exact mo_a hm | exact mo_r0 hm | exact mo_r1 hm | exact mo_r2 hm | exact mo_r4 hm | exact mo_r6 hm | exact mo_r8 hm | exact mo_a1 hm | exact mo_a2 hm | exact mo_a3 hm | exact mo_a4 hm | exact mo_a5 hm | exact mo_a6 hm) (by first | rfl | exact ix_eq (by assumption)) (by first | decide | omega) ?_
              rw [hσ]
              refine px_aload_0 dX8_goes_57 ?_
              refine gf_X8_7 rfl dX8_goes_58 (by first | assumption | exact mo_a hm | exact mo_r0 hm | exact mo_r1 hm | exact mo_r2 hm | exact mo_r4 hm | exact mo_r6 hm | exact mo_r8 hm | exact mo_a1 hm | exact mo_a2 hm | exact mo_a3 hm | exact mo_a4 hm | exact mo_a5 hm | exact mo_a6 hm) (by first | assumption | exact mo_a hm | exact mo_r0 hm | exact mo_r1 hm | exact mo_r2 hm | exact mo_r4 hm | exact mo_r6 hm | exact mo_r8 hm | exact mo_a1 hm | exact mo_a2 hm | exact mo_a3 hm | exact mo_a4 hm | exact mo_a5 hm | exact mo_a6 hm) ?_
              refine px_iload_1 dX8_goes_61 ?_
              refine px_iconst (2) dX8_goes_62 rfl ?_
              refine cd_X8_128 rfl ⟨⟨Nat.le_of_ble_eq_true rfl, Nat.le_of_ble_eq_true rfl⟩, Nat.le_of_ble_eq_true rfl, Nat.le_of_ble_eq_true rfl, Nat.le_of_ble_eq_true rfl⟩ dX8_goes_63 (s_X8_ofOneCart (j := 2) ha) ?_
              refine px_ialdN dX8_goes_66 (by first | assumption | exact mo_a hm | exact mo_r0 hm | exact mo_r1 hm | exact mo_r2 hm | exact mo_r4 hm | exact mo_r6 hm | exact mo_r8 hm | exact mo_a1 hm | exact mo_a2 hm | exact mo_a3 hm | exact mo_a4 hm | exact mo_a5 hm | exact mo_a6 hm) (by first | rfl | exact ix_eq (by assumption)) (by first | decide | omega) ?_
              rw [hσ]
              refine px_imul dX8_goes_67 ?_
              refine px_istore_5 dX8_goes_68 rfl ?_
              refine px_iload_4 dX8_goes_70 ?_
              refine px_bipush (-6) dX8_goes_72 rfl ?_
              refine px_icmp_eq (tgt := 92) dX8_goes_74 (by decide) (fun h74 => (by first | exact absurd h74 (k6) | exact absurd (k6) h74)) (fun h74 => ?_)
              refine px_iload_5 dX8_goes_77 ?_
              refine px_aload_0 dX8_goes_79 ?_
              refine gf_X8_7 rfl dX8_goes_80 (by first | assumption | exact mo_a hm | exact mo_r0 hm | exact mo_r1 hm | exact mo_r2 hm | exact mo_r4 hm | exact mo_r6 hm | exact mo_r8 hm | exact mo_a1 hm | exact mo_a2 hm | exact mo_a3 hm | exact mo_a4 hm | exact mo_a5 hm | exact mo_a6 hm) (by first | assumption | exact mo_a hm | exact mo_r0 hm | exact mo_r1 hm | exact mo_r2 hm | exact mo_r4 hm | exact mo_r6 hm | exact mo_r8 hm | exact mo_a1 hm | exact mo_a2 hm | exact mo_a3 hm | exact mo_a4 hm | exact mo_a5 hm | exact mo_a6 hm) ?_
              refine px_iload_1 dX8_goes_83 ?_
              refine px_iconst (1) dX8_goes_84 rfl ?_
              refine cd_X8_128 rfl ⟨⟨Nat.le_of_ble_eq_true rfl, Nat.le_of_ble_eq_true rfl⟩, Nat.le_of_ble_eq_true rfl, Nat.le_of_ble_eq_true rfl, Nat.le_of_ble_eq_true rfl⟩ dX8_goes_85 (s_X8_ofOneCart (j := 1) ha) ?_
              refine px_ialdN dX8_goes_88 (by first | assumption | exact mo_a hm | exact mo_r0 hm | exact mo_r1 hm | exact mo_r2 hm | exact mo_r4 hm | exact mo_r6 hm | exact mo_r8 hm | exact mo_a1 hm | exact mo_a2 hm | exact mo_a3 hm | exact mo_a4 hm | exact mo_a5 hm | exact mo_a6 hm) (by first | rfl | exact ix_eq (by assumption)) (by first | decide | omega) ?_
              rw [hσ]
              refine px_icmp_le (tgt := 95) dX8_goes_89 (by decide) (fun h89 => ?_) (fun h89 => (by first | exact absurd ((Int32.not_lt.mp hp)) h89 | exact absurd h89 ((Int32.not_lt.mp hp))))
              refine px_aload_0 dX8_goes_95 ?_
              refine gf_X8_7 rfl dX8_goes_96 (by first | assumption | exact mo_a hm | exact mo_r0 hm | exact mo_r1 hm | exact mo_r2 hm | exact mo_r4 hm | exact mo_r6 hm | exact mo_r8 hm | exact mo_a1 hm | exact mo_a2 hm | exact mo_a3 hm | exact mo_a4 hm | exact mo_a5 hm | exact mo_a6 hm) (by first | assumption | exact mo_a hm | exact mo_r0 hm | exact mo_r1 hm | exact mo_r2 hm | exact mo_r4 hm | exact mo_r6 hm | exact mo_r8 hm | exact mo_a1 hm | exact mo_a2 hm | exact mo_a3 hm | exact mo_a4 hm | exact mo_a5 hm | exact mo_a6 hm) ?_
              refine px_iload_1 dX8_goes_99 ?_
              refine px_iconst (1) dX8_goes_100 rfl ?_
              refine cd_X8_128 rfl ⟨⟨Nat.le_of_ble_eq_true rfl, Nat.le_of_ble_eq_true rfl⟩, Nat.le_of_ble_eq_true rfl, Nat.le_of_ble_eq_true rfl, Nat.le_of_ble_eq_true rfl⟩ dX8_goes_101 (s_X8_ofOneCart (j := 1) ha) ?_
              refine px_dup2 dX8_goes_104 rfl rfl ?_
              refine px_ialdN dX8_goes_105 (by first | assumption | exact mo_a hm | exact mo_r0 hm | exact mo_r1 hm | exact mo_r2 hm | exact mo_r4 hm | exact mo_r6 hm | exact mo_r8 hm | exact mo_a1 hm | exact mo_a2 hm | exact mo_a3 hm | exact mo_a4 hm | exact mo_a5 hm | exact mo_a6 hm) (by first | rfl | exact ix_eq (by assumption)) (by first | decide | omega) ?_
              rw [hσ]
              refine px_iload_5 dX8_goes_106 ?_
              refine px_isub dX8_goes_108 ?_
              refine px_iastN dX8_goes_109 (by first | assumption | exact mo_a hm | exact mo_r0 hm | exact mo_r1 hm | exact mo_r2 hm | exact mo_r4 hm | exact mo_r6 hm | exact mo_r8 hm | exact mo_a1 hm | exact mo_a2 hm | exact mo_a3 hm | exact mo_a4 hm | exact mo_a5 hm | exact mo_a6 hm) (by first | rfl | exact ix_eq (by assumption)) (by first | decide | omega) ?_
              refine px_aload_0 dX8_goes_110 ?_
              refine gf_X8_7 rfl dX8_goes_111 (by first | assumption | exact mo_a hm | exact mo_r0 hm | exact mo_r1 hm | exact mo_r2 hm | exact mo_r4 hm | exact mo_r6 hm | exact mo_r8 hm | exact mo_a1 hm | exact mo_a2 hm | exact mo_a3 hm | exact mo_a4 hm | exact mo_a5 hm | exact mo_a6 hm) (by first | assumption | exact mo_a hm | exact mo_r0 hm | exact mo_r1 hm | exact mo_r2 hm | exact mo_r4 hm | exact mo_r6 hm | exact mo_r8 hm | exact mo_a1 hm | exact mo_a2 hm | exact mo_a3 hm | exact mo_a4 hm | exact mo_a5 hm | exact mo_a6 hm) ?_
              refine px_iload_1 dX8_goes_114 ?_
              refine px_iconst (5) dX8_goes_115 rfl ?_
              refine cd_X8_128 rfl ⟨⟨Nat.le_of_ble_eq_true rfl, Nat.le_of_ble_eq_true rfl⟩, Nat.le_of_ble_eq_true rfl, Nat.le_of_ble_eq_true rfl, Nat.le_of_ble_eq_true rfl⟩ dX8_goes_116 (s_X8_ofOneCart (j := 5) ha) ?_
              refine px_dup2 dX8_goes_119 rfl rfl ?_
              refine px_ialdN dX8_goes_120 (by first | assumption | exact mo_a hm | exact mo_r0 hm | exact mo_r1 hm | exact mo_r2 hm | exact mo_r4 hm | exact mo_r6 hm | exact mo_r8 hm | exact mo_a1 hm | exact mo_a2 hm | exact mo_a3 hm | exact mo_a4 hm | exact mo_a5 hm | exact mo_a6 hm) (by first | rfl | exact ix_eq (by assumption)) (by first | decide | omega) ?_
              rw [px_up_nj (by omega), hσ]
              refine px_iload_5 dX8_goes_121 ?_
              refine px_iadd dX8_goes_123 ?_
              refine px_iastN dX8_goes_124 (by first | assumption | exact mo_a hm | exact mo_r0 hm | exact mo_r1 hm | exact mo_r2 hm | exact mo_r4 hm | exact mo_r6 hm | exact mo_r8 hm | exact mo_a1 hm | exact mo_a2 hm | exact mo_a3 hm | exact mo_a4 hm | exact mo_a5 hm | exact mo_a6 hm) (by first | rfl | exact ix_eq (by assumption)) (by first | decide | omega) ?_
              refine px_iload_3 dX8_goes_125 ?_
              refine px_iconst (1) dX8_goes_126 rfl ?_
              refine px_icmp_ne (tgt := 152) dX8_goes_127 (by decide) (fun h127 => ?_) (fun h127 => (by first | exact absurd (h01) h127 | exact absurd h127 (h01)))
              refine px_iconst (0) dX8_goes_152 rfl ?_
              refine px_istore_6 dX8_goes_153 rfl ?_
              refine px_aload_0 dX8_goes_155 ?_
              refine gf_X8_7 rfl dX8_goes_156 (by first | assumption | exact mo_a hm | exact mo_r0 hm | exact mo_r1 hm | exact mo_r2 hm | exact mo_r4 hm | exact mo_r6 hm | exact mo_r8 hm | exact mo_a1 hm | exact mo_a2 hm | exact mo_a3 hm | exact mo_a4 hm | exact mo_a5 hm | exact mo_a6 hm) (by first | assumption | exact mo_a hm | exact mo_r0 hm | exact mo_r1 hm | exact mo_r2 hm | exact mo_r4 hm | exact mo_r6 hm | exact mo_r8 hm | exact mo_a1 hm | exact mo_a2 hm | exact mo_a3 hm | exact mo_a4 hm | exact mo_a5 hm | exact mo_a6 hm) ?_
              refine px_iload_1 dX8_goes_159 ?_
              refine px_iconst (0) dX8_goes_160 rfl ?_
              refine cd_X8_128 rfl ⟨⟨Nat.le_of_ble_eq_true rfl, Nat.le_of_ble_eq_true rfl⟩, Nat.le_of_ble_eq_true rfl, Nat.le_of_ble_eq_true rfl, Nat.le_of_ble_eq_true rfl⟩ dX8_goes_161 (s_X8_ofOneCart (j := 0) ha) ?_
              refine px_aload_0 dX8_goes_164 ?_
              refine px_iload_2 dX8_goes_165 ?_
              refine px_iconst (1) dX8_goes_166 rfl ?_
              refine px_iload_4 dX8_goes_167 ?_
              refine px_isub dX8_goes_169 ?_
              refine cd_X8_48 rfl ⟨⟨Nat.le_of_ble_eq_true rfl, Nat.le_of_ble_eq_true rfl⟩, Nat.le_of_ble_eq_true rfl, Nat.le_of_ble_eq_true rfl, Nat.le_of_ble_eq_true rfl⟩ (by first | assumption | exact mo_a hm | exact mo_r0 hm | exact mo_r1 hm | exact mo_r2 hm | exact mo_r4 hm | exact mo_r6 hm | exact mo_r8 hm | exact mo_a1 hm | exact mo_a2 hm | exact mo_a3 hm | exact mo_a4 hm | exact mo_a5 hm | exact mo_a6 hm) dX8_goes_170 (s_X8_end (k := 1 - k) hm hb (by omega) k1 (by omega)) ?_
              rw [px_up_nj (by omega), px_up_nj (by omega), hσ]
              refine px_iastN dX8_goes_173 (by first | assumption | exact mo_a hm | exact mo_r0 hm | exact mo_r1 hm | exact mo_r2 hm | exact mo_r4 hm | exact mo_r6 hm | exact mo_r8 hm | exact mo_a1 hm | exact mo_a2 hm | exact mo_a3 hm | exact mo_a4 hm | exact mo_a5 hm | exact mo_a6 hm) (by first | rfl | exact ix_eq (by assumption)) (by first | decide | omega) ?_
              refine px_aload_0 dX8_goes_174 ?_
              refine gf_X8_7 rfl dX8_goes_175 (by first | assumption | exact mo_a hm | exact mo_r0 hm | exact mo_r1 hm | exact mo_r2 hm | exact mo_r4 hm | exact mo_r6 hm | exact mo_r8 hm | exact mo_a1 hm | exact mo_a2 hm | exact mo_a3 hm | exact mo_a4 hm | exact mo_a5 hm | exact mo_a6 hm) (by first | assumption | exact mo_a hm | exact mo_r0 hm | exact mo_r1 hm | exact mo_r2 hm | exact mo_r4 hm | exact mo_r6 hm | exact mo_r8 hm | exact mo_a1 hm | exact mo_a2 hm | exact mo_a3 hm | exact mo_a4 hm | exact mo_a5 hm | exact mo_a6 hm) ?_
              refine px_iload_2 dX8_goes_178 ?_
              refine px_iconst (4) dX8_goes_179 rfl ?_
              refine px_iload_3 dX8_goes_180 ?_
              refine px_iadd dX8_goes_181 ?_
              rw [e4]
              refine cd_X8_40 rfl ⟨⟨Nat.le_of_ble_eq_true rfl, Nat.le_of_ble_eq_true rfl⟩, Nat.le_of_ble_eq_true rfl, Nat.le_of_ble_eq_true rfl, Nat.le_of_ble_eq_true rfl⟩ dX8_goes_182 (s_X8_ofOneRoad (j := 4) hb) ?_
              refine px_dup2 dX8_goes_185 rfl rfl ?_
              refine px_ialdN dX8_goes_186 (by first | assumption | exact mo_a hm | exact mo_r0 hm | exact mo_r1 hm | exact mo_r2 hm | exact mo_r4 hm | exact mo_r6 hm | exact mo_r8 hm | exact mo_a1 hm | exact mo_a2 hm | exact mo_a3 hm | exact mo_a4 hm | exact mo_a5 hm | exact mo_a6 hm) (by first | rfl | exact ix_eq (by assumption)) (by first | decide | omega) ?_
              rw [px_up_nj (by omega), px_up_nj (by omega), px_up_nj (by omega), hσ]
              refine px_iconst (1) dX8_goes_187 rfl ?_
              refine px_iadd dX8_goes_188 ?_
              refine px_iastN dX8_goes_189 (by first | assumption | exact mo_a hm | exact mo_r0 hm | exact mo_r1 hm | exact mo_r2 hm | exact mo_r4 hm | exact mo_r6 hm | exact mo_r8 hm | exact mo_a1 hm | exact mo_a2 hm | exact mo_a3 hm | exact mo_a4 hm | exact mo_a5 hm | exact mo_a6 hm) (by first | rfl | exact ix_eq (by assumption)) (by first | decide | omega) ?_
              refine px_iload_6 dX8_goes_190 ?_
              refine px_iret dX8_goes_192 ?_
              exact ⟨rfl, by simp only [px_up_set, px_set_self, px_set_set, hσ]⟩
          · have h10 : ¬ h = 0 := by rw [h1]; decide
            have e4 : (4 : Int32) + h = nI 5 := by rw [h1]; rfl
            have p0 : ¬ σ (94 + 8 * ix a + 1) < 0 → (0 : Int32) ≤ σ (94 + 8 * ix a + 1) := Int32.not_lt.mp
            have hc0 : (0 : Int32) ≤ σ (94 + 8 * ix a + 1) := hcoin _ hl
            by_cases hp : 0 < σ (94 + 8 * ix a + 2)
            · have hsn := s_X8_sneaks (l := l) (I := I) (J := J) hm ha (show ix a < 6 by omega) hb (show ix b < 14 by omega)
              rw [hσ] at hsn
              have g5 : ∀ j, j < 6 → (f_sneak σ (ix a) (ix b)).2 (9 + 6 * ix b + j) = σ (9 + 6 * ix b + j) := fun j hj => by
                unfold f_sneak
                split <;> simp only [upd] <;> (repeat (first | rw [if_pos (by omega)] | rw [if_neg (by omega)] | rw [if_pos (by simp; done)] | rw [if_neg (by simp; done)]))
              have hf : f_go σ a b h = ((f_sneak σ (ix a) (ix b)).1, upd (upd (f_sneak σ (ix a) (ix b)).2 (94 + 8 * ix a + 0) (σ (9 + 6 * ix b + (1 - k)))) (9 + 6 * ix b + 5) (σ (9 + 6 * ix b + 5) + 1)) := by clear ha hb hσ heo ek hsn g5; grind [f_go]
              rw [hf]
              refine px_aload_0 dX8_goes_0 ?_
              refine px_iload_1 dX8_goes_1 ?_
              refine cd_X8_134 rfl ⟨⟨Nat.le_of_ble_eq_true rfl, Nat.le_of_ble_eq_true rfl⟩, Nat.le_of_ble_eq_true rfl, Nat.le_of_ble_eq_true rfl, Nat.le_of_ble_eq_true rfl⟩ (by first | assumption | exact mo_a hm | exact mo_r0 hm | exact mo_r1 hm | exact mo_r2 hm | exact mo_r4 hm | exact mo_r6 hm | exact mo_r8 hm | exact mo_a1 hm | exact mo_a2 hm | exact mo_a3 hm | exact mo_a4 hm | exact mo_a5 hm | exact mo_a6 hm) dX8_goes_2 (s_X8_isCart hm) ?_
              rw [hσ]
              refine px_ifb_eq (tgt := 16) dX8_goes_5 (by decide) (fun h5 => (by first | exact absurd h5 (hr) | exact absurd (hr) h5)) (fun h5 => ?_)
              refine px_aload_0 dX8_goes_8 ?_
              refine px_iload_2 dX8_goes_9 ?_
              refine cd_X8_118 rfl ⟨⟨Nat.le_of_ble_eq_true rfl, Nat.le_of_ble_eq_true rfl⟩, Nat.le_of_ble_eq_true rfl, Nat.le_of_ble_eq_true rfl, Nat.le_of_ble_eq_true rfl⟩ (by first | assumption | exact mo_a hm | exact mo_r0 hm | exact mo_r1 hm | exact mo_r2 hm | exact mo_r4 hm | exact mo_r6 hm | exact mo_r8 hm | exact mo_a1 hm | exact mo_a2 hm | exact mo_a3 hm | exact mo_a4 hm | exact mo_a5 hm | exact mo_a6 hm) dX8_goes_10 (s_X8_isRoad hm) ?_
              rw [hσ]
              refine px_ifb_ne (tgt := 18) dX8_goes_13 (by decide) (fun h13 => ?_) (fun h13 => (by first | exact absurd (hr2) h13 | exact absurd h13 (hr2)))
              refine px_iload_3 dX8_goes_18 ?_
              refine px_iconst (0) dX8_goes_19 rfl ?_
              refine px_iconst (1) dX8_goes_20 rfl ?_
              refine cd_X8_29 rfl ⟨⟨Nat.le_of_ble_eq_true rfl, Nat.le_of_ble_eq_true rfl⟩, Nat.le_of_ble_eq_true rfl, Nat.le_of_ble_eq_true rfl, Nat.le_of_ble_eq_true rfl⟩ dX8_goes_21 (s_X8_in) ?_
              refine px_ifb_ne (tgt := 30) dX8_goes_24 (by decide) (fun h24 => ?_) (fun h24 => (by first | exact absurd (hr3) h24 | exact absurd h24 (hr3)))
              refine px_aload_0 dX8_goes_30 ?_
              refine px_iload_1 dX8_goes_31 ?_
              refine px_iload_2 dX8_goes_32 ?_
              refine cd_X8_147 rfl ⟨⟨Nat.le_of_ble_eq_true rfl, Nat.le_of_ble_eq_true rfl⟩, Nat.le_of_ble_eq_true rfl, Nat.le_of_ble_eq_true rfl, Nat.le_of_ble_eq_true rfl⟩ (by first | assumption | exact mo_a hm | exact mo_r0 hm | exact mo_r1 hm | exact mo_r2 hm | exact mo_r4 hm | exact mo_r6 hm | exact mo_r8 hm | exact mo_a1 hm | exact mo_a2 hm | exact mo_a3 hm | exact mo_a4 hm | exact mo_a5 hm | exact mo_a6 hm) dX8_goes_33 (heo) ?_
              refine px_istore_4 dX8_goes_36 rfl ?_
              refine px_iload_3 dX8_goes_38 ?_
              refine px_iconst (1) dX8_goes_39 rfl ?_
              refine px_icmp_ne (tgt := 47) dX8_goes_40 (by decide) (fun h40 => (by first | exact absurd h40 (h1) | exact absurd (h1) h40)) (fun h40 => ?_)
              refine px_iconst (0) dX8_goes_43 rfl ?_
              refine px_goto (tgt := 68) dX8_goes_44 (by decide) ?_
              refine px_istore_5 dX8_goes_68 rfl ?_
              refine px_iload_4 dX8_goes_70 ?_
              refine px_bipush (-6) dX8_goes_72 rfl ?_
              refine px_icmp_eq (tgt := 92) dX8_goes_74 (by decide) (fun h74 => (by first | exact absurd h74 (k6) | exact absurd (k6) h74)) (fun h74 => ?_)
              refine px_iload_5 dX8_goes_77 ?_
              refine px_aload_0 dX8_goes_79 ?_
              refine gf_X8_7 rfl dX8_goes_80 (by first | assumption | exact mo_a hm | exact mo_r0 hm | exact mo_r1 hm | exact mo_r2 hm | exact mo_r4 hm | exact mo_r6 hm | exact mo_r8 hm | exact mo_a1 hm | exact mo_a2 hm | exact mo_a3 hm | exact mo_a4 hm | exact mo_a5 hm | exact mo_a6 hm) (by first | assumption | exact mo_a hm | exact mo_r0 hm | exact mo_r1 hm | exact mo_r2 hm | exact mo_r4 hm | exact mo_r6 hm | exact mo_r8 hm | exact mo_a1 hm | exact mo_a2 hm | exact mo_a3 hm | exact mo_a4 hm | exact mo_a5 hm | exact mo_a6 hm) ?_
              refine px_iload_1 dX8_goes_83 ?_
              refine px_iconst (1) dX8_goes_84 rfl ?_
              refine cd_X8_128 rfl ⟨⟨Nat.le_of_ble_eq_true rfl, Nat.le_of_ble_eq_true rfl⟩, Nat.le_of_ble_eq_true rfl, Nat.le_of_ble_eq_true rfl, Nat.le_of_ble_eq_true rfl⟩ dX8_goes_85 (s_X8_ofOneCart (j := 1) ha) ?_
              refine px_ialdN dX8_goes_88 (by first | assumption | exact mo_a hm | exact mo_r0 hm | exact mo_r1 hm | exact mo_r2 hm | exact mo_r4 hm | exact mo_r6 hm | exact mo_r8 hm | exact mo_a1 hm | exact mo_a2 hm | exact mo_a3 hm | exact mo_a4 hm | exact mo_a5 hm | exact mo_a6 hm) (by first | rfl | exact ix_eq (by assumption)) (by first | decide | omega) ?_
              rw [hσ]
              refine px_icmp_le (tgt := 95) dX8_goes_89 (by decide) (fun h89 => ?_) (fun h89 => (by first | exact absurd (hc0) h89 | exact absurd h89 (hc0)))
              refine px_aload_0 dX8_goes_95 ?_
              refine gf_X8_7 rfl dX8_goes_96 (by first | assumption | exact mo_a hm | exact mo_r0 hm | exact mo_r1 hm | exact mo_r2 hm | exact mo_r4 hm | exact mo_r6 hm | exact mo_r8 hm | exact mo_a1 hm | exact mo_a2 hm | exact mo_a3 hm | exact mo_a4 hm | exact mo_a5 hm | exact mo_a6 hm) (by first | assumption | exact mo_a hm | exact mo_r0 hm | exact mo_r1 hm | exact mo_r2 hm | exact mo_r4 hm | exact mo_r6 hm | exact mo_r8 hm | exact mo_a1 hm | exact mo_a2 hm | exact mo_a3 hm | exact mo_a4 hm | exact mo_a5 hm | exact mo_a6 hm) ?_
              refine px_iload_1 dX8_goes_99 ?_
              refine px_iconst (1) dX8_goes_100 rfl ?_
              refine cd_X8_128 rfl ⟨⟨Nat.le_of_ble_eq_true rfl, Nat.le_of_ble_eq_true rfl⟩, Nat.le_of_ble_eq_true rfl, Nat.le_of_ble_eq_true rfl, Nat.le_of_ble_eq_true rfl⟩ dX8_goes_101 (s_X8_ofOneCart (j := 1) ha) ?_
              refine px_dup2 dX8_goes_104 rfl rfl ?_
              refine px_ialdN dX8_goes_105 (by first | assumption | exact mo_a hm | exact mo_r0 hm | exact mo_r1 hm | exact mo_r2 hm | exact mo_r4 hm | exact mo_r6 hm | exact mo_r8 hm | exact mo_a1 hm | exact mo_a2 hm | exact mo_a3 hm | exact mo_a4 hm | exact mo_a5 hm | exact mo_a6 hm) (by first | rfl | exact ix_eq (by assumption)) (by first | decide | omega) ?_
              refine px_iload_5 dX8_goes_106 ?_
              refine px_isub dX8_goes_108 ?_
              refine px_iastN dX8_goes_109 (by first | assumption | exact mo_a hm | exact mo_r0 hm | exact mo_r1 hm | exact mo_r2 hm | exact mo_r4 hm | exact mo_r6 hm | exact mo_r8 hm | exact mo_a1 hm | exact mo_a2 hm | exact mo_a3 hm | exact mo_a4 hm | exact mo_a5 hm | exact mo_a6 hm) (by first | rfl | exact ix_eq (by assumption)) (by first | decide | omega) ?_
              rw [px_up_sub0]
              refine px_aload_0 dX8_goes_110 ?_
              refine gf_X8_7 rfl dX8_goes_111 (by first | assumption | exact mo_a hm | exact mo_r0 hm | exact mo_r1 hm | exact mo_r2 hm | exact mo_r4 hm | exact mo_r6 hm | exact mo_r8 hm | exact mo_a1 hm | exact mo_a2 hm | exact mo_a3 hm | exact mo_a4 hm | exact mo_a5 hm | exact mo_a6 hm) (by first | assumption | exact mo_a hm | exact mo_r0 hm | exact mo_r1 hm | exact mo_r2 hm | exact mo_r4 hm | exact mo_r6 hm | exact mo_r8 hm | exact mo_a1 hm | exact mo_a2 hm | exact mo_a3 hm | exact mo_a4 hm | exact mo_a5 hm | exact mo_a6 hm) ?_
              refine px_iload_1 dX8_goes_114 ?_
              refine px_iconst (5) dX8_goes_115 rfl ?_
              refine cd_X8_128 rfl ⟨⟨Nat.le_of_ble_eq_true rfl, Nat.le_of_ble_eq_true rfl⟩, Nat.le_of_ble_eq_true rfl, Nat.le_of_ble_eq_true rfl, Nat.le_of_ble_eq_true rfl⟩ dX8_goes_116 (s_X8_ofOneCart (j := 5) ha) ?_
              refine px_dup2 dX8_goes_119 rfl rfl ?_
              refine px_ialdN dX8_goes_120 (by first | assumption | exact mo_a hm | exact mo_r0 hm | exact mo_r1 hm | exact mo_r2 hm | exact mo_r4 hm | exact mo_r6 hm | exact mo_r8 hm | exact mo_a1 hm | exact mo_a2 hm | exact mo_a3 hm | exact mo_a4 hm | exact mo_a5 hm | exact mo_a6 hm) (by first | rfl | exact ix_eq (by assumption)) (by first | decide | omega) ?_
              refine px_iload_5 dX8_goes_121 ?_
              refine px_iadd dX8_goes_123 ?_
              refine px_iastN dX8_goes_124 (by first | assumption | exact mo_a hm | exact mo_r0 hm | exact mo_r1 hm | exact mo_r2 hm | exact mo_r4 hm | exact mo_r6 hm | exact mo_r8 hm | exact mo_a1 hm | exact mo_a2 hm | exact mo_a3 hm | exact mo_a4 hm | exact mo_a5 hm | exact mo_a6 hm) (by first | rfl | exact ix_eq (by assumption)) (by first | decide | omega) ?_
              rw [px_up_add0]
              refine px_iload_3 dX8_goes_125 ?_
              refine px_iconst (1) dX8_goes_126 rfl ?_
              refine px_icmp_ne (tgt := 152) dX8_goes_127 (by decide) (fun h127 => (by first | exact absurd h127 (h1) | exact absurd (h1) h127)) (fun h127 => ?_)
              refine px_aload_0 dX8_goes_130 ?_
              refine gf_X8_7 rfl dX8_goes_131 (by first | assumption | exact mo_a hm | exact mo_r0 hm | exact mo_r1 hm | exact mo_r2 hm | exact mo_r4 hm | exact mo_r6 hm | exact mo_r8 hm | exact mo_a1 hm | exact mo_a2 hm | exact mo_a3 hm | exact mo_a4 hm | exact mo_a5 hm | exact mo_a6 hm) (by first | assumption | exact mo_a hm | exact mo_r0 hm | exact mo_r1 hm | exact mo_r2 hm | exact mo_r4 hm | exact mo_r6 hm | exact mo_r8 hm | exact mo_a1 hm | exact mo_a2 hm | exact mo_a3 hm | exact mo_a4 hm | exact mo_a5 hm | exact mo_a6 hm) ?_
              refine px_iload_1 dX8_goes_134 ?_
              refine px_iconst (2) dX8_goes_135 rfl ?_
              refine cd_X8_128 rfl ⟨⟨Nat.le_of_ble_eq_true rfl, Nat.le_of_ble_eq_true rfl⟩, Nat.le_of_ble_eq_true rfl, Nat.le_of_ble_eq_true rfl, Nat.le_of_ble_eq_true rfl⟩ dX8_goes_136 (s_X8_ofOneCart (j := 2) ha) ?_
              refine px_ialdN dX8_goes_139 (by first | assumption | exact mo_a hm | exact mo_r0 hm | exact mo_r1 hm | exact mo_r2 hm | exact mo_r4 hm | exact mo_r6 hm | exact mo_r8 hm | exact mo_a1 hm | exact mo_a2 hm | exact mo_a3 hm | exact mo_a4 hm | exact mo_a5 hm | exact mo_a6 hm) (by first | rfl | exact ix_eq (by assumption)) (by first | decide | omega) ?_
              rw [hσ]
              refine px_if_le (tgt := 152) dX8_goes_140 (by decide) (fun h140 => (by first | exact absurd h140 ((Int32.not_le.mpr hp)) | exact absurd ((Int32.not_le.mpr hp)) h140)) (fun h140 => ?_)
              refine px_aload_0 dX8_goes_143 ?_
              refine px_iload_1 dX8_goes_144 ?_
              refine px_iload_2 dX8_goes_145 ?_
              refine cd_X8_150 rfl ⟨⟨Nat.le_of_ble_eq_true rfl, Nat.le_of_ble_eq_true rfl⟩, Nat.le_of_ble_eq_true rfl, Nat.le_of_ble_eq_true rfl, Nat.le_of_ble_eq_true rfl⟩ (by first | assumption | exact mo_a hm | exact mo_r0 hm | exact mo_r1 hm | exact mo_r2 hm | exact mo_r4 hm | exact mo_r6 hm | exact mo_r8 hm | exact mo_a1 hm | exact mo_a2 hm | exact mo_a3 hm | exact mo_a4 hm | exact mo_a5 hm | exact mo_a6 hm) dX8_goes_146 (hsn) ?_
              refine px_goto (tgt := 153) dX8_goes_149 (by decide) ?_
              refine px_istore_6 dX8_goes_153 rfl ?_
              refine px_aload_0 dX8_goes_155 ?_
              refine gf_X8_7 rfl dX8_goes_156 (by first | assumption | exact mo_a hm | exact mo_r0 hm | exact mo_r1 hm | exact mo_r2 hm | exact mo_r4 hm | exact mo_r6 hm | exact mo_r8 hm | exact mo_a1 hm | exact mo_a2 hm | exact mo_a3 hm | exact mo_a4 hm | exact mo_a5 hm | exact mo_a6 hm) (by first | assumption | exact mo_a hm | exact mo_r0 hm | exact mo_r1 hm | exact mo_r2 hm | exact mo_r4 hm | exact mo_r6 hm | exact mo_r8 hm | exact mo_a1 hm | exact mo_a2 hm | exact mo_a3 hm | exact mo_a4 hm | exact mo_a5 hm | exact mo_a6 hm) ?_
              refine px_iload_1 dX8_goes_159 ?_
              refine px_iconst (0) dX8_goes_160 rfl ?_
              refine cd_X8_128 rfl ⟨⟨Nat.le_of_ble_eq_true rfl, Nat.le_of_ble_eq_true rfl⟩, Nat.le_of_ble_eq_true rfl, Nat.le_of_ble_eq_true rfl, Nat.le_of_ble_eq_true rfl⟩ dX8_goes_161 (s_X8_ofOneCart (j := 0) ha) ?_
              refine px_aload_0 dX8_goes_164 ?_
              refine px_iload_2 dX8_goes_165 ?_
              refine px_iconst (1) dX8_goes_166 rfl ?_
              refine px_iload_4 dX8_goes_167 ?_
              refine px_isub dX8_goes_169 ?_
              refine cd_X8_48 rfl ⟨⟨Nat.le_of_ble_eq_true rfl, Nat.le_of_ble_eq_true rfl⟩, Nat.le_of_ble_eq_true rfl, Nat.le_of_ble_eq_true rfl, Nat.le_of_ble_eq_true rfl⟩ (by first | assumption | exact mo_a hm | exact mo_r0 hm | exact mo_r1 hm | exact mo_r2 hm | exact mo_r4 hm | exact mo_r6 hm | exact mo_r8 hm | exact mo_a1 hm | exact mo_a2 hm | exact mo_a3 hm | exact mo_a4 hm | exact mo_a5 hm | exact mo_a6 hm) dX8_goes_170 (s_X8_end (k := 1 - k) hm hb (by omega) k1 (by omega)) ?_
              rw [px_set_self, g5 _ (by omega)]
              refine px_iastN dX8_goes_173 (by first | assumption | exact mo_a hm | exact mo_r0 hm | exact mo_r1 hm | exact mo_r2 hm | exact mo_r4 hm | exact mo_r6 hm | exact mo_r8 hm | exact mo_a1 hm | exact mo_a2 hm | exact mo_a3 hm | exact mo_a4 hm | exact mo_a5 hm | exact mo_a6 hm) (by first | rfl | exact ix_eq (by assumption)) (by first | decide | omega) ?_
              refine px_aload_0 dX8_goes_174 ?_
              refine gf_X8_7 rfl dX8_goes_175 (by first | assumption | exact mo_a hm | exact mo_r0 hm | exact mo_r1 hm | exact mo_r2 hm | exact mo_r4 hm | exact mo_r6 hm | exact mo_r8 hm | exact mo_a1 hm | exact mo_a2 hm | exact mo_a3 hm | exact mo_a4 hm | exact mo_a5 hm | exact mo_a6 hm) (by first | assumption | exact mo_a hm | exact mo_r0 hm | exact mo_r1 hm | exact mo_r2 hm | exact mo_r4 hm | exact mo_r6 hm | exact mo_r8 hm | exact mo_a1 hm | exact mo_a2 hm | exact mo_a3 hm | exact mo_a4 hm | exact mo_a5 hm | exact mo_a6 hm) ?_
              refine px_iload_2 dX8_goes_178 ?_
              refine px_iconst (4) dX8_goes_179 rfl ?_
              refine px_iload_3 dX8_goes_180 ?_
              refine px_iadd dX8_goes_181 ?_
              rw [e4]
              refine cd_X8_40 rfl ⟨⟨Nat.le_of_ble_eq_true rfl, Nat.le_of_ble_eq_true rfl⟩, Nat.le_of_ble_eq_true rfl, Nat.le_of_ble_eq_true rfl, Nat.le_of_ble_eq_true rfl⟩ dX8_goes_182 (s_X8_ofOneRoad (j := 5) hb) ?_
              refine px_dup2 dX8_goes_185 rfl rfl ?_
              refine px_ialdN dX8_goes_186 (by first | assumption | exact mo_a hm | exact mo_r0 hm | exact mo_r1 hm | exact mo_r2 hm | exact mo_r4 hm | exact mo_r6 hm | exact mo_r8 hm | exact mo_a1 hm | exact mo_a2 hm | exact mo_a3 hm | exact mo_a4 hm | exact mo_a5 hm | exact mo_a6 hm) (by first | rfl | exact ix_eq (by assumption)) (by first | decide | omega) ?_
              rw [px_up_nj (by omega), px_set_self, g5 _ (by omega)]
              refine px_iconst (1) dX8_goes_187 rfl ?_
              refine px_iadd dX8_goes_188 ?_
              refine px_iastN dX8_goes_189 (by first | assumption | exact mo_a hm | exact mo_r0 hm | exact mo_r1 hm | exact mo_r2 hm | exact mo_r4 hm | exact mo_r6 hm | exact mo_r8 hm | exact mo_a1 hm | exact mo_a2 hm | exact mo_a3 hm | exact mo_a4 hm | exact mo_a5 hm | exact mo_a6 hm) (by first | rfl | exact ix_eq (by assumption)) (by first | decide | omega) ?_
              refine px_iload_6 dX8_goes_190 ?_
              refine px_iret dX8_goes_192 ?_
              exact ⟨rfl, by simp only [px_up_set, px_set_self, px_set_set]⟩
            · have hf : f_go σ a b h = (0, upd (upd σ (94 + 8 * ix a + 0) (σ (9 + 6 * ix b + (1 - k)))) (9 + 6 * ix b + 5) (σ (9 + 6 * ix b + 5) + 1)) := by clear ha hb hσ heo ek; grind [f_go]
              rw [hf]
              refine px_aload_0 dX8_goes_0 ?_
              refine px_iload_1 dX8_goes_1 ?_
              refine cd_X8_134 rfl ⟨⟨Nat.le_of_ble_eq_true rfl, Nat.le_of_ble_eq_true rfl⟩, Nat.le_of_ble_eq_true rfl, Nat.le_of_ble_eq_true rfl, Nat.le_of_ble_eq_true rfl⟩ (by first | assumption | exact mo_a hm | exact mo_r0 hm | exact mo_r1 hm | exact mo_r2 hm | exact mo_r4 hm | exact mo_r6 hm | exact mo_r8 hm | exact mo_a1 hm | exact mo_a2 hm | exact mo_a3 hm | exact mo_a4 hm | exact mo_a5 hm | exact mo_a6 hm) dX8_goes_2 (s_X8_isCart hm) ?_
              rw [hσ]
              refine px_ifb_eq (tgt := 16) dX8_goes_5 (by decide) (fun h5 => (by first | exact absurd h5 (hr) | exact absurd (hr) h5)) (fun h5 => ?_)
              refine px_aload_0 dX8_goes_8 ?_
              refine px_iload_2 dX8_goes_9 ?_
              refine cd_X8_118 rfl ⟨⟨Nat.le_of_ble_eq_true rfl, Nat.le_of_ble_eq_true rfl⟩, Nat.le_of_ble_eq_true rfl, Nat.le_of_ble_eq_true rfl, Nat.le_of_ble_eq_true rfl⟩ (by first | assumption | exact mo_a hm | exact mo_r0 hm | exact mo_r1 hm | exact mo_r2 hm | exact mo_r4 hm | exact mo_r6 hm | exact mo_r8 hm | exact mo_a1 hm | exact mo_a2 hm | exact mo_a3 hm | exact mo_a4 hm | exact mo_a5 hm | exact mo_a6 hm) dX8_goes_10 (s_X8_isRoad hm) ?_
              rw [hσ]
              refine px_ifb_ne (tgt := 18) dX8_goes_13 (by decide) (fun h13 => ?_) (fun h13 => (by first | exact absurd (hr2) h13 | exact absurd h13 (hr2)))
              refine px_iload_3 dX8_goes_18 ?_
              refine px_iconst (0) dX8_goes_19 rfl ?_
              refine px_iconst (1) dX8_goes_20 rfl ?_
              refine cd_X8_29 rfl ⟨⟨Nat.le_of_ble_eq_true rfl, Nat.le_of_ble_eq_true rfl⟩, Nat.le_of_ble_eq_true rfl, Nat.le_of_ble_eq_true rfl, Nat.le_of_ble_eq_true rfl⟩ dX8_goes_21 (s_X8_in) ?_
              refine px_ifb_ne (tgt := 30) dX8_goes_24 (by decide) (fun h24 => ?_) (fun h24 => (by first | exact absurd (hr3) h24 | exact absurd h24 (hr3)))
              refine px_aload_0 dX8_goes_30 ?_
              refine px_iload_1 dX8_goes_31 ?_
              refine px_iload_2 dX8_goes_32 ?_
              refine cd_X8_147 rfl ⟨⟨Nat.le_of_ble_eq_true rfl, Nat.le_of_ble_eq_true rfl⟩, Nat.le_of_ble_eq_true rfl, Nat.le_of_ble_eq_true rfl, Nat.le_of_ble_eq_true rfl⟩ (by first | assumption | exact mo_a hm | exact mo_r0 hm | exact mo_r1 hm | exact mo_r2 hm | exact mo_r4 hm | exact mo_r6 hm | exact mo_r8 hm | exact mo_a1 hm | exact mo_a2 hm | exact mo_a3 hm | exact mo_a4 hm | exact mo_a5 hm | exact mo_a6 hm) dX8_goes_33 (heo) ?_
              refine px_istore_4 dX8_goes_36 rfl ?_
              refine px_iload_3 dX8_goes_38 ?_
              refine px_iconst (1) dX8_goes_39 rfl ?_
              refine px_icmp_ne (tgt := 47) dX8_goes_40 (by decide) (fun h40 => (by first | exact absurd h40 (h1) | exact absurd (h1) h40)) (fun h40 => ?_)
              refine px_iconst (0) dX8_goes_43 rfl ?_
              refine px_goto (tgt := 68) dX8_goes_44 (by decide) ?_
              refine px_istore_5 dX8_goes_68 rfl ?_
              refine px_iload_4 dX8_goes_70 ?_
              refine px_bipush (-6) dX8_goes_72 rfl ?_
              refine px_icmp_eq (tgt := 92) dX8_goes_74 (by decide) (fun h74 => (by first | exact absurd h74 (k6) | exact absurd (k6) h74)) (fun h74 => ?_)
              refine px_iload_5 dX8_goes_77 ?_
              refine px_aload_0 dX8_goes_79 ?_
              refine gf_X8_7 rfl dX8_goes_80 (by first | assumption | exact mo_a hm | exact mo_r0 hm | exact mo_r1 hm | exact mo_r2 hm | exact mo_r4 hm | exact mo_r6 hm | exact mo_r8 hm | exact mo_a1 hm | exact mo_a2 hm | exact mo_a3 hm | exact mo_a4 hm | exact mo_a5 hm | exact mo_a6 hm) (by first | assumption | exact mo_a hm | exact mo_r0 hm | exact mo_r1 hm | exact mo_r2 hm | exact mo_r4 hm | exact mo_r6 hm | exact mo_r8 hm | exact mo_a1 hm | exact mo_a2 hm | exact mo_a3 hm | exact mo_a4 hm | exact mo_a5 hm | exact mo_a6 hm) ?_
              refine px_iload_1 dX8_goes_83 ?_
              refine px_iconst (1) dX8_goes_84 rfl ?_
              refine cd_X8_128 rfl ⟨⟨Nat.le_of_ble_eq_true rfl, Nat.le_of_ble_eq_true rfl⟩, Nat.le_of_ble_eq_true rfl, Nat.le_of_ble_eq_true rfl, Nat.le_of_ble_eq_true rfl⟩ dX8_goes_85 (s_X8_ofOneCart (j := 1) ha) ?_
              refine px_ialdN dX8_goes_88 (by first | assumption | exact mo_a hm | exact mo_r0 hm | exact mo_r1 hm | exact mo_r2 hm | exact mo_r4 hm | exact mo_r6 hm | exact mo_r8 hm | exact mo_a1 hm | exact mo_a2 hm | exact mo_a3 hm | exact mo_a4 hm | exact mo_a5 hm | exact mo_a6 hm) (by first | rfl | exact ix_eq (by assumption)) (by first | decide | omega) ?_
              rw [hσ]
              refine px_icmp_le (tgt := 95) dX8_goes_89 (by decide) (fun h89 => ?_) (fun h89 => (by first | exact absurd (hc0) h89 | exact absurd h89 (hc0)))
              refine px_aload_0 dX8_goes_95 ?_
              refine gf_X8_7 rfl dX8_goes_96 (by first | assumption | exact mo_a hm | exact mo_r0 hm | exact mo_r1 hm | exact mo_r2 hm | exact mo_r4 hm | exact mo_r6 hm | exact mo_r8 hm | exact mo_a1 hm | exact mo_a2 hm | exact mo_a3 hm | exact mo_a4 hm | exact mo_a5 hm | exact mo_a6 hm) (by first | assumption | exact mo_a hm | exact mo_r0 hm | exact mo_r1 hm | exact mo_r2 hm | exact mo_r4 hm | exact mo_r6 hm | exact mo_r8 hm | exact mo_a1 hm | exact mo_a2 hm | exact mo_a3 hm | exact mo_a4 hm | exact mo_a5 hm | exact mo_a6 hm) ?_
              refine px_iload_1 dX8_goes_99 ?_
              refine px_iconst (1) dX8_goes_100 rfl ?_
              refine cd_X8_128 rfl ⟨⟨Nat.le_of_ble_eq_true rfl, Nat.le_of_ble_eq_true rfl⟩, Nat.le_of_ble_eq_true rfl, Nat.le_of_ble_eq_true rfl, Nat.le_of_ble_eq_true rfl⟩ dX8_goes_101 (s_X8_ofOneCart (j := 1) ha) ?_
              refine px_dup2 dX8_goes_104 rfl rfl ?_
              refine px_ialdN dX8_goes_105 (by first | assumption | exact mo_a hm | exact mo_r0 hm | exact mo_r1 hm | exact mo_r2 hm | exact mo_r4 hm | exact mo_r6 hm | exact mo_r8 hm | exact mo_a1 hm | exact mo_a2 hm | exact mo_a3 hm | exact mo_a4 hm | exact mo_a5 hm | exact mo_a6 hm) (by first | rfl | exact ix_eq (by assumption)) (by first | decide | omega) ?_
              refine px_iload_5 dX8_goes_106 ?_
              refine px_isub dX8_goes_108 ?_
              refine px_iastN dX8_goes_109 (by first | assumption | exact mo_a hm | exact mo_r0 hm | exact mo_r1 hm | exact mo_r2 hm | exact mo_r4 hm | exact mo_r6 hm | exact mo_r8 hm | exact mo_a1 hm | exact mo_a2 hm | exact mo_a3 hm | exact mo_a4 hm | exact mo_a5 hm | exact mo_a6 hm) (by first | rfl | exact ix_eq (by assumption)) (by first | decide | omega) ?_
              rw [px_up_sub0]
              refine px_aload_0 dX8_goes_110 ?_
              refine gf_X8_7 rfl dX8_goes_111 (by first | assumption | exact mo_a hm | exact mo_r0 hm | exact mo_r1 hm | exact mo_r2 hm | exact mo_r4 hm | exact mo_r6 hm | exact mo_r8 hm | exact mo_a1 hm | exact mo_a2 hm | exact mo_a3 hm | exact mo_a4 hm | exact mo_a5 hm | exact mo_a6 hm) (by first | assumption | exact mo_a hm | exact mo_r0 hm | exact mo_r1 hm | exact mo_r2 hm | exact mo_r4 hm | exact mo_r6 hm | exact mo_r8 hm | exact mo_a1 hm | exact mo_a2 hm | exact mo_a3 hm | exact mo_a4 hm | exact mo_a5 hm | exact mo_a6 hm) ?_
              refine px_iload_1 dX8_goes_114 ?_
              refine px_iconst (5) dX8_goes_115 rfl ?_
              refine cd_X8_128 rfl ⟨⟨Nat.le_of_ble_eq_true rfl, Nat.le_of_ble_eq_true rfl⟩, Nat.le_of_ble_eq_true rfl, Nat.le_of_ble_eq_true rfl, Nat.le_of_ble_eq_true rfl⟩ dX8_goes_116 (s_X8_ofOneCart (j := 5) ha) ?_
              refine px_dup2 dX8_goes_119 rfl rfl ?_
              refine px_ialdN dX8_goes_120 (by first | assumption | exact mo_a hm | exact mo_r0 hm | exact mo_r1 hm | exact mo_r2 hm | exact mo_r4 hm | exact mo_r6 hm | exact mo_r8 hm | exact mo_a1 hm | exact mo_a2 hm | exact mo_a3 hm | exact mo_a4 hm | exact mo_a5 hm | exact mo_a6 hm) (by first | rfl | exact ix_eq (by assumption)) (by first | decide | omega) ?_
              refine px_iload_5 dX8_goes_121 ?_
              refine px_iadd dX8_goes_123 ?_
              refine px_iastN dX8_goes_124 (by first | assumption | exact mo_a hm | exact mo_r0 hm | exact mo_r1 hm | exact mo_r2 hm | exact mo_r4 hm | exact mo_r6 hm | exact mo_r8 hm | exact mo_a1 hm | exact mo_a2 hm | exact mo_a3 hm | exact mo_a4 hm | exact mo_a5 hm | exact mo_a6 hm) (by first | rfl | exact ix_eq (by assumption)) (by first | decide | omega) ?_
              rw [px_up_add0]
              refine px_iload_3 dX8_goes_125 ?_
              refine px_iconst (1) dX8_goes_126 rfl ?_
              refine px_icmp_ne (tgt := 152) dX8_goes_127 (by decide) (fun h127 => (by first | exact absurd h127 (h1) | exact absurd (h1) h127)) (fun h127 => ?_)
              refine px_aload_0 dX8_goes_130 ?_
              refine gf_X8_7 rfl dX8_goes_131 (by first | assumption | exact mo_a hm | exact mo_r0 hm | exact mo_r1 hm | exact mo_r2 hm | exact mo_r4 hm | exact mo_r6 hm | exact mo_r8 hm | exact mo_a1 hm | exact mo_a2 hm | exact mo_a3 hm | exact mo_a4 hm | exact mo_a5 hm | exact mo_a6 hm) (by first | assumption | exact mo_a hm | exact mo_r0 hm | exact mo_r1 hm | exact mo_r2 hm | exact mo_r4 hm | exact mo_r6 hm | exact mo_r8 hm | exact mo_a1 hm | exact mo_a2 hm | exact mo_a3 hm | exact mo_a4 hm | exact mo_a5 hm | exact mo_a6 hm) ?_
              refine px_iload_1 dX8_goes_134 ?_
              refine px_iconst (2) dX8_goes_135 rfl ?_
              refine cd_X8_128 rfl ⟨⟨Nat.le_of_ble_eq_true rfl, Nat.le_of_ble_eq_true rfl⟩, Nat.le_of_ble_eq_true rfl, Nat.le_of_ble_eq_true rfl, Nat.le_of_ble_eq_true rfl⟩ dX8_goes_136 (s_X8_ofOneCart (j := 2) ha) ?_
              refine px_ialdN dX8_goes_139 (by first | assumption | exact mo_a hm | exact mo_r0 hm | exact mo_r1 hm | exact mo_r2 hm | exact mo_r4 hm | exact mo_r6 hm | exact mo_r8 hm | exact mo_a1 hm | exact mo_a2 hm | exact mo_a3 hm | exact mo_a4 hm | exact mo_a5 hm | exact mo_a6 hm) (by first | rfl | exact ix_eq (by assumption)) (by first | decide | omega) ?_
              rw [hσ]
              refine px_if_le (tgt := 152) dX8_goes_140 (by decide) (fun h140 => ?_) (fun h140 => (by first | exact absurd ((Int32.not_lt.mp hp)) h140 | exact absurd h140 ((Int32.not_lt.mp hp))))
              refine px_iconst (0) dX8_goes_152 rfl ?_
              refine px_istore_6 dX8_goes_153 rfl ?_
              refine px_aload_0 dX8_goes_155 ?_
              refine gf_X8_7 rfl dX8_goes_156 (by first | assumption | exact mo_a hm | exact mo_r0 hm | exact mo_r1 hm | exact mo_r2 hm | exact mo_r4 hm | exact mo_r6 hm | exact mo_r8 hm | exact mo_a1 hm | exact mo_a2 hm | exact mo_a3 hm | exact mo_a4 hm | exact mo_a5 hm | exact mo_a6 hm) (by first | assumption | exact mo_a hm | exact mo_r0 hm | exact mo_r1 hm | exact mo_r2 hm | exact mo_r4 hm | exact mo_r6 hm | exact mo_r8 hm | exact mo_a1 hm | exact mo_a2 hm | exact mo_a3 hm | exact mo_a4 hm | exact mo_a5 hm | exact mo_a6 hm) ?_
              refine px_iload_1 dX8_goes_159 ?_
              refine px_iconst (0) dX8_goes_160 rfl ?_
              refine cd_X8_128 rfl ⟨⟨Nat.le_of_ble_eq_true rfl, Nat.le_of_ble_eq_true rfl⟩, Nat.le_of_ble_eq_true rfl, Nat.le_of_ble_eq_true rfl, Nat.le_of_ble_eq_true rfl⟩ dX8_goes_161 (s_X8_ofOneCart (j := 0) ha) ?_
              refine px_aload_0 dX8_goes_164 ?_
              refine px_iload_2 dX8_goes_165 ?_
              refine px_iconst (1) dX8_goes_166 rfl ?_
              refine px_iload_4 dX8_goes_167 ?_
              refine px_isub dX8_goes_169 ?_
              refine cd_X8_48 rfl ⟨⟨Nat.le_of_ble_eq_true rfl, Nat.le_of_ble_eq_true rfl⟩, Nat.le_of_ble_eq_true rfl, Nat.le_of_ble_eq_true rfl, Nat.le_of_ble_eq_true rfl⟩ (by first | assumption | exact mo_a hm | exact mo_r0 hm | exact mo_r1 hm | exact mo_r2 hm | exact mo_r4 hm | exact mo_r6 hm | exact mo_r8 hm | exact mo_a1 hm | exact mo_a2 hm | exact mo_a3 hm | exact mo_a4 hm | exact mo_a5 hm | exact mo_a6 hm) dX8_goes_170 (s_X8_end (k := 1 - k) hm hb (by omega) k1 (by omega)) ?_
              rw [hσ]
              refine px_iastN dX8_goes_173 (by first | assumption | exact mo_a hm | exact mo_r0 hm | exact mo_r1 hm | exact mo_r2 hm | exact mo_r4 hm | exact mo_r6 hm | exact mo_r8 hm | exact mo_a1 hm | exact mo_a2 hm | exact mo_a3 hm | exact mo_a4 hm | exact mo_a5 hm | exact mo_a6 hm) (by first | rfl | exact ix_eq (by assumption)) (by first | decide | omega) ?_
              refine px_aload_0 dX8_goes_174 ?_
              refine gf_X8_7 rfl dX8_goes_175 (by first | assumption | exact mo_a hm | exact mo_r0 hm | exact mo_r1 hm | exact mo_r2 hm | exact mo_r4 hm | exact mo_r6 hm | exact mo_r8 hm | exact mo_a1 hm | exact mo_a2 hm | exact mo_a3 hm | exact mo_a4 hm | exact mo_a5 hm | exact mo_a6 hm) (by first | assumption | exact mo_a hm | exact mo_r0 hm | exact mo_r1 hm | exact mo_r2 hm | exact mo_r4 hm | exact mo_r6 hm | exact mo_r8 hm | exact mo_a1 hm | exact mo_a2 hm | exact mo_a3 hm | exact mo_a4 hm | exact mo_a5 hm | exact mo_a6 hm) ?_
              refine px_iload_2 dX8_goes_178 ?_
              refine px_iconst (4) dX8_goes_179 rfl ?_
              refine px_iload_3 dX8_goes_180 ?_
              refine px_iadd dX8_goes_181 ?_
              rw [e4]
              refine cd_X8_40 rfl ⟨⟨Nat.le_of_ble_eq_true rfl, Nat.le_of_ble_eq_true rfl⟩, Nat.le_of_ble_eq_true rfl, Nat.le_of_ble_eq_true rfl, Nat.le_of_ble_eq_true rfl⟩ dX8_goes_182 (s_X8_ofOneRoad (j := 5) hb) ?_
              refine px_dup2 dX8_goes_185 rfl rfl ?_
              refine px_ialdN dX8_goes_186 (by first | assumption | exact mo_a hm | exact mo_r0 hm | exact mo_r1 hm | exact mo_r2 hm | exact mo_r4 hm | exact mo_r6 hm | exact mo_r8 hm | exact mo_a1 hm | exact mo_a2 hm | exact mo_a3 hm | exact mo_a4 hm | exact mo_a5 hm | exact mo_a6 hm) (by first | rfl | exact ix_eq (by assumption)) (by first | decide | omega) ?_
              rw [px_up_nj (by omega), hσ]
              refine px_iconst (1) dX8_goes_187 rfl ?_
              refine px_iadd dX8_goes_188 ?_
              refine px_iastN dX8_goes_189 (by first | assumption | exact mo_a hm | exact mo_r0 hm | exact mo_r1 hm | exact mo_r2 hm | exact mo_r4 hm | exact mo_r6 hm | exact mo_r8 hm | exact mo_a1 hm | exact mo_a2 hm | exact mo_a3 hm | exact mo_a4 hm | exact mo_a5 hm | exact mo_a6 hm) (by first | rfl | exact ix_eq (by assumption)) (by first | decide | omega) ?_
              refine px_iload_6 dX8_goes_190 ?_
              refine px_iret dX8_goes_192 ?_
              exact ⟨rfl, by simp only [px_up_set, px_set_self, px_set_set, hσ]⟩
        · have ek : (if σ (9 + 6 * ix b + 0) = σ (94 + 8 * ix a + 0) then 0 else if σ (9 + 6 * ix b + 1) = σ (94 + 8 * ix a + 0) then 1 else -6 : Int32) = -6 := by rw [if_neg (fun q => hat (Or.inl q)), if_neg (fun q => hat (Or.inr q))]
          rw [ek] at heo
          have hf : f_go σ a b h = (-5, σ) := by clear ha hb hσ heo ek; grind [f_go]
          rw [hf, ← hσ, mem_id]
          refine px_aload_0 dX8_goes_0 ?_
          refine px_iload_1 dX8_goes_1 ?_
          refine cd_X8_134 rfl ⟨⟨Nat.le_of_ble_eq_true rfl, Nat.le_of_ble_eq_true rfl⟩, Nat.le_of_ble_eq_true rfl, Nat.le_of_ble_eq_true rfl, Nat.le_of_ble_eq_true rfl⟩ (by first | assumption | exact mo_a hm | exact mo_r0 hm | exact mo_r1 hm | exact mo_r2 hm | exact mo_r4 hm | exact mo_r6 hm | exact mo_r8 hm | exact mo_a1 hm | exact mo_a2 hm | exact mo_a3 hm | exact mo_a4 hm | exact mo_a5 hm | exact mo_a6 hm) dX8_goes_2 (s_X8_isCart hm) ?_
          rw [hσ]
          refine px_ifb_eq (tgt := 16) dX8_goes_5 (by decide) (fun h5 => (by first | exact absurd h5 (hr) | exact absurd (hr) h5)) (fun h5 => ?_)
          refine px_aload_0 dX8_goes_8 ?_
          refine px_iload_2 dX8_goes_9 ?_
          refine cd_X8_118 rfl ⟨⟨Nat.le_of_ble_eq_true rfl, Nat.le_of_ble_eq_true rfl⟩, Nat.le_of_ble_eq_true rfl, Nat.le_of_ble_eq_true rfl, Nat.le_of_ble_eq_true rfl⟩ (by first | assumption | exact mo_a hm | exact mo_r0 hm | exact mo_r1 hm | exact mo_r2 hm | exact mo_r4 hm | exact mo_r6 hm | exact mo_r8 hm | exact mo_a1 hm | exact mo_a2 hm | exact mo_a3 hm | exact mo_a4 hm | exact mo_a5 hm | exact mo_a6 hm) dX8_goes_10 (s_X8_isRoad hm) ?_
          rw [hσ]
          refine px_ifb_ne (tgt := 18) dX8_goes_13 (by decide) (fun h13 => ?_) (fun h13 => (by first | exact absurd (hr2) h13 | exact absurd h13 (hr2)))
          refine px_iload_3 dX8_goes_18 ?_
          refine px_iconst (0) dX8_goes_19 rfl ?_
          refine px_iconst (1) dX8_goes_20 rfl ?_
          refine cd_X8_29 rfl ⟨⟨Nat.le_of_ble_eq_true rfl, Nat.le_of_ble_eq_true rfl⟩, Nat.le_of_ble_eq_true rfl, Nat.le_of_ble_eq_true rfl, Nat.le_of_ble_eq_true rfl⟩ dX8_goes_21 (s_X8_in) ?_
          refine px_ifb_ne (tgt := 30) dX8_goes_24 (by decide) (fun h24 => ?_) (fun h24 => (by first | exact absurd (hr3) h24 | exact absurd h24 (hr3)))
          refine px_aload_0 dX8_goes_30 ?_
          refine px_iload_1 dX8_goes_31 ?_
          refine px_iload_2 dX8_goes_32 ?_
          refine cd_X8_147 rfl ⟨⟨Nat.le_of_ble_eq_true rfl, Nat.le_of_ble_eq_true rfl⟩, Nat.le_of_ble_eq_true rfl, Nat.le_of_ble_eq_true rfl, Nat.le_of_ble_eq_true rfl⟩ (by first | assumption | exact mo_a hm | exact mo_r0 hm | exact mo_r1 hm | exact mo_r2 hm | exact mo_r4 hm | exact mo_r6 hm | exact mo_r8 hm | exact mo_a1 hm | exact mo_a2 hm | exact mo_a3 hm | exact mo_a4 hm | exact mo_a5 hm | exact mo_a6 hm) dX8_goes_33 (heo) ?_
          refine px_istore_4 dX8_goes_36 rfl ?_
          refine px_iload_3 dX8_goes_38 ?_
          refine px_iconst (1) dX8_goes_39 rfl ?_
          refine px_icmp_ne (tgt := 47) dX8_goes_40 (by decide) (fun h40 => ?_) (fun h40 => ?_)
          · skip
            refine px_aload_0 dX8_goes_47 ?_
            refine gf_X8_7 rfl dX8_goes_48 (by first | assumption | exact mo_a hm | exact mo_r0 hm | exact mo_r1 hm | exact mo_r2 hm | exact mo_r4 hm | exact mo_r6 hm | exact mo_r8 hm | exact mo_a1 hm | exact mo_a2 hm | exact mo_a3 hm | exact mo_a4 hm | exact mo_a5 hm | exact mo_a6 hm) (by first | assumption | exact mo_a hm | exact mo_r0 hm | exact mo_r1 hm | exact mo_r2 hm | exact mo_r4 hm | exact mo_r6 hm | exact mo_r8 hm | exact mo_a1 hm | exact mo_a2 hm | exact mo_a3 hm | exact mo_a4 hm | exact mo_a5 hm | exact mo_a6 hm) ?_
            refine px_iload_2 dX8_goes_51 ?_
            refine px_iconst (2) dX8_goes_52 rfl ?_
            refine cd_X8_40 rfl ⟨⟨Nat.le_of_ble_eq_true rfl, Nat.le_of_ble_eq_true rfl⟩, Nat.le_of_ble_eq_true rfl, Nat.le_of_ble_eq_true rfl, Nat.le_of_ble_eq_true rfl⟩ dX8_goes_53 (s_X8_ofOneRoad (j := 2) hb) ?_
            refine px_ialdN dX8_goes_56 (by first | assumption | exact mo_a hm | exact mo_r0 hm | exact mo_r1 hm | exact mo_r2 hm | exact mo_r4 hm | exact mo_r6 hm | exact mo_r8 hm | exact mo_a1 hm | exact mo_a2 hm | exact mo_a3 hm | exact mo_a4 hm | exact mo_a5 hm | exact mo_a6 hm) (by first | rfl | exact ix_eq (by assumption)) (by first | decide | omega) ?_
            rw [hσ]
            refine px_aload_0 dX8_goes_57 ?_
            refine gf_X8_7 rfl dX8_goes_58 (by first | assumption | exact mo_a hm | exact mo_r0 hm | exact mo_r1 hm | exact mo_r2 hm | exact mo_r4 hm | exact mo_r6 hm | exact mo_r8 hm | exact mo_a1 hm | exact mo_a2 hm | exact mo_a3 hm | exact mo_a4 hm | exact mo_a5 hm | exact mo_a6 hm) (by first | assumption | exact mo_a hm | exact mo_r0 hm | exact mo_r1 hm | exact mo_r2 hm | exact mo_r4 hm | exact mo_r6 hm | exact mo_r8 hm | exact mo_a1 hm | exact mo_a2 hm | exact mo_a3 hm | exact mo_a4 hm | exact mo_a5 hm | exact mo_a6 hm) ?_
            refine px_iload_1 dX8_goes_61 ?_
            refine px_iconst (2) dX8_goes_62 rfl ?_
            refine cd_X8_128 rfl ⟨⟨Nat.le_of_ble_eq_true rfl, Nat.le_of_ble_eq_true rfl⟩, Nat.le_of_ble_eq_true rfl, Nat.le_of_ble_eq_true rfl, Nat.le_of_ble_eq_true rfl⟩ dX8_goes_63 (s_X8_ofOneCart (j := 2) ha) ?_
            refine px_ialdN dX8_goes_66 (by first | assumption | exact mo_a hm | exact mo_r0 hm | exact mo_r1 hm | exact mo_r2 hm | exact mo_r4 hm | exact mo_r6 hm | exact mo_r8 hm | exact mo_a1 hm | exact mo_a2 hm | exact mo_a3 hm | exact mo_a4 hm | exact mo_a5 hm | exact mo_a6 hm) (by first | rfl | exact ix_eq (by assumption)) (by first | decide | omega) ?_
            rw [hσ]
            refine px_imul dX8_goes_67 ?_
            refine px_istore_5 dX8_goes_68 rfl ?_
            refine px_iload_4 dX8_goes_70 ?_
            refine px_bipush (-6) dX8_goes_72 rfl ?_
            refine px_icmp_eq (tgt := 92) dX8_goes_74 (by decide) (fun h74 => ?_) (fun h74 => (by first | exact absurd (rfl) h74 | exact absurd h74 (rfl)))
            refine px_bipush (-5) dX8_goes_92 rfl ?_
            refine px_iret dX8_goes_94 ?_
            exact ⟨rfl, rfl⟩
          · skip
            refine px_iconst (0) dX8_goes_43 rfl ?_
            refine px_goto (tgt := 68) dX8_goes_44 (by decide) ?_
            refine px_istore_5 dX8_goes_68 rfl ?_
            refine px_iload_4 dX8_goes_70 ?_
            refine px_bipush (-6) dX8_goes_72 rfl ?_
            refine px_icmp_eq (tgt := 92) dX8_goes_74 (by decide) (fun h74 => ?_) (fun h74 => (by first | exact absurd (rfl) h74 | exact absurd h74 (rfl)))
            refine px_bipush (-5) dX8_goes_92 rfl ?_
            refine px_iret dX8_goes_94 ?_
            exact ⟨rfl, rfl⟩
      · have hf : f_go (I (m + 1)) a b h = (-2, I (m + 1)) := by clear hV; grind [f_go]
        rw [hf, mem_id]
        refine px_aload_0 dX8_goes_0 ?_
        refine px_iload_1 dX8_goes_1 ?_
        refine cd_X8_134 rfl ⟨⟨Nat.le_of_ble_eq_true rfl, Nat.le_of_ble_eq_true rfl⟩, Nat.le_of_ble_eq_true rfl, Nat.le_of_ble_eq_true rfl, Nat.le_of_ble_eq_true rfl⟩ (by first | assumption | exact mo_a hm | exact mo_r0 hm | exact mo_r1 hm | exact mo_r2 hm | exact mo_r4 hm | exact mo_r6 hm | exact mo_r8 hm | exact mo_a1 hm | exact mo_a2 hm | exact mo_a3 hm | exact mo_a4 hm | exact mo_a5 hm | exact mo_a6 hm) dX8_goes_2 (s_X8_isCart hm) ?_
        refine px_ifb_eq (tgt := 16) dX8_goes_5 (by decide) (fun h5 => (by first | exact absurd h5 (hr) | exact absurd (hr) h5)) (fun h5 => ?_)
        refine px_aload_0 dX8_goes_8 ?_
        refine px_iload_2 dX8_goes_9 ?_
        refine cd_X8_118 rfl ⟨⟨Nat.le_of_ble_eq_true rfl, Nat.le_of_ble_eq_true rfl⟩, Nat.le_of_ble_eq_true rfl, Nat.le_of_ble_eq_true rfl, Nat.le_of_ble_eq_true rfl⟩ (by first | assumption | exact mo_a hm | exact mo_r0 hm | exact mo_r1 hm | exact mo_r2 hm | exact mo_r4 hm | exact mo_r6 hm | exact mo_r8 hm | exact mo_a1 hm | exact mo_a2 hm | exact mo_a3 hm | exact mo_a4 hm | exact mo_a5 hm | exact mo_a6 hm) dX8_goes_10 (s_X8_isRoad hm) ?_
        refine px_ifb_ne (tgt := 18) dX8_goes_13 (by decide) (fun h13 => ?_) (fun h13 => (by first | exact absurd (hr2) h13 | exact absurd h13 (hr2)))
        refine px_iload_3 dX8_goes_18 ?_
        refine px_iconst (0) dX8_goes_19 rfl ?_
        refine px_iconst (1) dX8_goes_20 rfl ?_
        refine cd_X8_29 rfl ⟨⟨Nat.le_of_ble_eq_true rfl, Nat.le_of_ble_eq_true rfl⟩, Nat.le_of_ble_eq_true rfl, Nat.le_of_ble_eq_true rfl, Nat.le_of_ble_eq_true rfl⟩ dX8_goes_21 (s_X8_in) ?_
        refine px_ifb_ne (tgt := 30) dX8_goes_24 (by decide) (fun h24 => (by first | exact absurd h24 (hr3) | exact absurd (hr3) h24)) (fun h24 => ?_)
        refine px_bipush (-2) dX8_goes_27 rfl ?_
        refine px_iret dX8_goes_29 ?_
        exact ⟨rfl, rfl⟩
    · have hf : f_go (I (m + 1)) a b h = (-1, I (m + 1)) := by clear hV; grind [f_go]
      rw [hf, mem_id]
      refine px_aload_0 dX8_goes_0 ?_
      refine px_iload_1 dX8_goes_1 ?_
      refine cd_X8_134 rfl ⟨⟨Nat.le_of_ble_eq_true rfl, Nat.le_of_ble_eq_true rfl⟩, Nat.le_of_ble_eq_true rfl, Nat.le_of_ble_eq_true rfl, Nat.le_of_ble_eq_true rfl⟩ (by first | assumption | exact mo_a hm | exact mo_r0 hm | exact mo_r1 hm | exact mo_r2 hm | exact mo_r4 hm | exact mo_r6 hm | exact mo_r8 hm | exact mo_a1 hm | exact mo_a2 hm | exact mo_a3 hm | exact mo_a4 hm | exact mo_a5 hm | exact mo_a6 hm) dX8_goes_2 (s_X8_isCart hm) ?_
      refine px_ifb_eq (tgt := 16) dX8_goes_5 (by decide) (fun h5 => (by first | exact absurd h5 (hr) | exact absurd (hr) h5)) (fun h5 => ?_)
      refine px_aload_0 dX8_goes_8 ?_
      refine px_iload_2 dX8_goes_9 ?_
      refine cd_X8_118 rfl ⟨⟨Nat.le_of_ble_eq_true rfl, Nat.le_of_ble_eq_true rfl⟩, Nat.le_of_ble_eq_true rfl, Nat.le_of_ble_eq_true rfl, Nat.le_of_ble_eq_true rfl⟩ (by first | assumption | exact mo_a hm | exact mo_r0 hm | exact mo_r1 hm | exact mo_r2 hm | exact mo_r4 hm | exact mo_r6 hm | exact mo_r8 hm | exact mo_a1 hm | exact mo_a2 hm | exact mo_a3 hm | exact mo_a4 hm | exact mo_a5 hm | exact mo_a6 hm) dX8_goes_10 (s_X8_isRoad hm) ?_
      refine px_ifb_ne (tgt := 18) dX8_goes_13 (by decide) (fun h13 => (by first | exact absurd h13 (hr2) | exact absurd (hr2) h13)) (fun h13 => ?_)
      refine px_iconst (-1) dX8_goes_16 rfl ?_
      refine px_iret dX8_goes_17 ?_
      exact ⟨rfl, rfl⟩
  · have hf : f_go (I (m + 1)) a b h = (-1, I (m + 1)) := by clear hV; grind [f_go]
    rw [hf, mem_id]
    refine px_aload_0 dX8_goes_0 ?_
    refine px_iload_1 dX8_goes_1 ?_
    refine cd_X8_134 rfl ⟨⟨Nat.le_of_ble_eq_true rfl, Nat.le_of_ble_eq_true rfl⟩, Nat.le_of_ble_eq_true rfl, Nat.le_of_ble_eq_true rfl, Nat.le_of_ble_eq_true rfl⟩ (by first | assumption | exact mo_a hm | exact mo_r0 hm | exact mo_r1 hm | exact mo_r2 hm | exact mo_r4 hm | exact mo_r6 hm | exact mo_r8 hm | exact mo_a1 hm | exact mo_a2 hm | exact mo_a3 hm | exact mo_a4 hm | exact mo_a5 hm | exact mo_a6 hm) dX8_goes_2 (s_X8_isCart hm) ?_
    refine px_ifb_eq (tgt := 16) dX8_goes_5 (by decide) (fun h5 => ?_) (fun h5 => (by first | exact absurd (hr) h5 | exact absurd h5 (hr)))
    refine px_iconst (-1) dX8_goes_16 rfl ?_
    refine px_iret dX8_goes_17 ?_
    exact ⟨rfl, rfl⟩
end MN

