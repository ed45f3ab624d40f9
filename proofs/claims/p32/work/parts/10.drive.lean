section WQ
variable {l : Launch} {G : px_G} {T : px_T} {I : px_I} {J : px_J} {R : px_R} {μ : px_M} {w : Nat} {σ : px_s}
theorem s_X6_chanceR2 {r : Nat} (hw : px_wo G T R w) (hA : px_ag I w σ) (h14 : f_nr σ ≤ 14) (hr : r < f_nr σ) : px_K l G 2 mX6_chanceOf ([.ref w, .ref (w + 5 + r)]) ((T, I, J, R)) (some (.int (f_cr σ r))) ((T, I, J, R)) := by
  have h := s_X6_chanceOf (l := l) (I := I) (J := J) hw (wo_ra hw (show r < 14 by omega))
  rw [ag_st hA (by decide), ag_rd hA hr (by decide)] at h
  exact h
def f_sn (σ : px_s) (c r : Nat) : Int32 × px_s :=
  let q := if 0 < σ (94 + 8 * c + 2) then f_sneak σ c r else (0, σ)
  (q.1, upd q.2 (9 + 6 * r + 5) (σ (9 + 6 * r + 5) + 1))
theorem s_X6_sneak {c r : Nat} (hw : px_wo G T R w) (hA : px_ag I w σ) (hV : px_V σ) (hc : c < f_nc σ) (hr : r < f_nr σ) : px_C l G 3 0 0 mX6_sneak [.ref w, .ref (w + 19 + c), .ref (w + 5 + r)] (T, I, J, R) (px_Q1 T I J R w (f_sn σ c r)) := by
  have v1 := hV.1.2.1
  have v2 := hV.1.2.2.2
  have hs := (hV.2.2.2.1 c hc).2
  have q : ∀ j, j < 8 → I (w + 19 + c) j = σ (94 + 8 * c + j) := fun j hj => ag_ct hA hc hj
  refine px_met (M := mX6_sneak) ([some (.ref w), some (.ref (w + 19 + c)), some (.ref (w + 5 + r)), none, none]) (by decide +kernel) rfl (Nat.le_of_ble_eq_true rfl) rfl ?_
  have hA1 := ag_up_road (v := σ (9 + 6 * r + 5) + 1) hA (show r < 14 by omega) (show 5 < 6 by decide)
  by_cases h0 : σ (94 + 8 * c + 2) = 0
  · skip
    refine px_aload_2 dX6_sneak_0 ?_
    refine px_dup dX6_sneak_1 rfl ?_
    refine gf_X6_172 rfl dX6_sneak_2 (by first | assumption | exact wo_a hw | exact wo_r0 hw | exact wo_r1 hw | exact wo_r2 hw | exact wo_r3 hw | exact wo_a1 hw | exact wo_a2 hw | exact wo_a3 hw | exact wo_a4 hw | exact wo_rr hw (by omega) | exact wo_ra hw (by omega) | exact wo_cr hw (by omega) | exact wo_ca hw (by omega)) ?_
    rw [ag_rd hA hr (by decide)]
    refine px_iconst (1) dX6_sneak_5 rfl ?_
    refine px_iadd dX6_sneak_6 ?_
    refine pf_X6_172 rfl dX6_sneak_7 (by first | assumption | exact wo_a hw | exact wo_r0 hw | exact wo_r1 hw | exact wo_r2 hw | exact wo_r3 hw | exact wo_a1 hw | exact wo_a2 hw | exact wo_a3 hw | exact wo_a4 hw | exact wo_rr hw (by omega) | exact wo_ra hw (by omega) | exact wo_cr hw (by omega) | exact wo_ca hw (by omega)) ?_
    refine px_aload_1 dX6_sneak_10 ?_
    refine gf_X6_84 rfl dX6_sneak_11 (by first | assumption | exact wo_a hw | exact wo_r0 hw | exact wo_r1 hw | exact wo_r2 hw | exact wo_r3 hw | exact wo_a1 hw | exact wo_a2 hw | exact wo_a3 hw | exact wo_a4 hw | exact wo_rr hw (by omega) | exact wo_ra hw (by omega) | exact wo_cr hw (by omega) | exact wo_ca hw (by omega)) ?_
    rw [px_up_ne (by omega), q 2 (by decide)]
    refine px_if_eq (tgt := 29) dX6_sneak_14 (by decide) (fun h14 => ?_) (fun h14 => (by first | exact absurd (h0) h14 | exact absurd h14 (h0)))
    refine px_iconst (0) dX6_sneak_29 rfl ?_
    refine px_iret dX6_sneak_30 ?_
    exact px_Q1_ok (by rw [f_sn, h0]; rfl) (by rw [f_sn, h0]; exact hA1) (fun x hx => by rw [px_up_ne (by omega)])
  · have hpos : 0 < σ (94 + 8 * c + 2) := by
      obtain ⟨g1, g2⟩ := rg_of hs
      rw [Int32.lt_iff_toInt_lt, show (0 : Int32).toInt = 0 from rfl]
      rcases Int.lt_or_eq_of_le g1 with g | g
      · exact g
      · exact absurd (Int32.toInt_inj.mp (g.symm.trans (show (0 : Int) = (0 : Int32).toInt from rfl))) h0
    have hA2 := ag_up_num (a := 6) (j := 146) (v := f_x (σ 146)) hA1 (by rw [nr_upd (by omega), nc_upd (by omega)]; exact ⟨v1, v2⟩) (by omega)
    generalize hσ2 : upd (upd σ (9 + 6 * r + 5) (σ (9 + 6 * r + 5) + 1)) 146 (f_x (σ 146)) = σ2 at hA2
    have n2 : f_nr σ2 = f_nr σ := by rw [← hσ2, nr_upd (by omega), nr_upd (by omega)]
    have c2 : f_nc σ2 = f_nc σ := by rw [← hσ2, nc_upd (by omega), nc_upd (by omega)]
    have k2 : f_cr σ2 r = f_cr σ r := by rw [← hσ2]; unfold f_cr f_ch; rw [upd_ne (by omega), upd_ne (by omega), upd_ne (by omega), upd_ne (by omega)]
    have f2 : f_fine σ2 c = f_fine σ c := by rw [← hσ2]; unfold f_fine; rw [upd_ne (by omega), upd_ne (by omega), upd_ne (by omega), upd_ne (by omega), upd_ne (by omega), upd_ne (by omega)]
    have e6 : I w 6 = σ 146 := hA.2.2.2.1.1
    have hd := s_X6_draw (l := l) (I := px_up I (w + 5 + r) 5 (σ (9 + 6 * r + 5) + 1)) (J := J) hw
    rw [px_up_ne (by omega), e6] at hd
    have hq := s_X6_chanceR2 (l := l) (J := J) hw hA2 (by omega) (show r < f_nr σ2 by omega)
    rw [k2] at hq
    have hfi := s_X6_fineOf (l := l) (J := J) hw hA2 (show c < f_nc σ2 by omega) (by omega)
    rw [f2] at hfi
    have hfs : ¬ f_cr σ r ≤ f_dr (f_x (σ 146)) → (f_sn σ c r).2 = upd (upd (upd (upd (upd σ2 (94 + 8 * c + 1) (σ (94 + 8 * c + 1) - f_fine σ c)) (94 + 8 * c + 6) (σ (94 + 8 * c + 6) + f_fine σ c)) (94 + 8 * c + 2) 0) (94 + 8 * c + 7) (σ (94 + 8 * c + 7) + σ (94 + 8 * c + 2))) 149 (σ 149 + σ (94 + 8 * c + 2)) := by
      intro hq2
      rw [f_sn, if_pos hpos, ← hσ2]
      unfold f_sneak
      rw [if_neg hq2]
      funext k
      simp only [upd]
      repeat' split
      all_goals first | rfl | omega
    have hfs := fun q => hfs (Int32.not_le.mpr q)
    refine px_aload_2 dX6_sneak_0 ?_
    refine px_dup dX6_sneak_1 rfl ?_
    refine gf_X6_172 rfl dX6_sneak_2 (by first | assumption | exact wo_a hw | exact wo_r0 hw | exact wo_r1 hw | exact wo_r2 hw | exact wo_r3 hw | exact wo_a1 hw | exact wo_a2 hw | exact wo_a3 hw | exact wo_a4 hw | exact wo_rr hw (by omega) | exact wo_ra hw (by omega) | exact wo_cr hw (by omega) | exact wo_ca hw (by omega)) ?_
    rw [ag_rd hA hr (by decide)]
    refine px_iconst (1) dX6_sneak_5 rfl ?_
    refine px_iadd dX6_sneak_6 ?_
    refine pf_X6_172 rfl dX6_sneak_7 (by first | assumption | exact wo_a hw | exact wo_r0 hw | exact wo_r1 hw | exact wo_r2 hw | exact wo_r3 hw | exact wo_a1 hw | exact wo_a2 hw | exact wo_a3 hw | exact wo_a4 hw | exact wo_rr hw (by omega) | exact wo_ra hw (by omega) | exact wo_cr hw (by omega) | exact wo_ca hw (by omega)) ?_
    refine px_aload_1 dX6_sneak_10 ?_
    refine gf_X6_84 rfl dX6_sneak_11 (by first | assumption | exact wo_a hw | exact wo_r0 hw | exact wo_r1 hw | exact wo_r2 hw | exact wo_r3 hw | exact wo_a1 hw | exact wo_a2 hw | exact wo_a3 hw | exact wo_a4 hw | exact wo_rr hw (by omega) | exact wo_ra hw (by omega) | exact wo_cr hw (by omega) | exact wo_ca hw (by omega)) ?_
    rw [px_up_ne (by omega), q 2 (by decide)]
    refine px_if_eq (tgt := 29) dX6_sneak_14 (by decide) (fun h14 => (by first | exact absurd h14 (h0) | exact absurd (h0) h14)) (fun h14 => ?_)
    refine px_aload_0 dX6_sneak_17 ?_
    refine cd_X6_175 rfl ⟨⟨Nat.le_of_ble_eq_true rfl, Nat.le_of_ble_eq_true rfl⟩, Nat.le_of_ble_eq_true rfl, Nat.le_of_ble_eq_true rfl, Nat.le_of_ble_eq_true rfl⟩ (by first | assumption | exact wo_a hw | exact wo_r0 hw | exact wo_r1 hw | exact wo_r2 hw | exact wo_r3 hw | exact wo_a1 hw | exact wo_a2 hw | exact wo_a3 hw | exact wo_a4 hw | exact wo_rr hw (by omega) | exact wo_ra hw (by omega) | exact wo_cr hw (by omega) | exact wo_ca hw (by omega)) dX6_sneak_18 (hd) ?_
    refine px_aload_0 dX6_sneak_21 ?_
    refine px_aload_2 dX6_sneak_22 ?_
    refine cd_X6_103 rfl ⟨⟨Nat.le_of_ble_eq_true rfl, Nat.le_of_ble_eq_true rfl⟩, Nat.le_of_ble_eq_true rfl, Nat.le_of_ble_eq_true rfl, Nat.le_of_ble_eq_true rfl⟩ (by first | assumption | exact wo_a hw | exact wo_r0 hw | exact wo_r1 hw | exact wo_r2 hw | exact wo_r3 hw | exact wo_a1 hw | exact wo_a2 hw | exact wo_a3 hw | exact wo_a4 hw | exact wo_rr hw (by omega) | exact wo_ra hw (by omega) | exact wo_cr hw (by omega) | exact wo_ca hw (by omega)) dX6_sneak_23 (hq) ?_
    refine px_icmp_lt (tgt := 31) dX6_sneak_26 (by decide) (fun h26 => ?_) (fun h26 => ?_)
    · skip
      refine px_aload_0 dX6_sneak_31 ?_
      refine px_aload_1 dX6_sneak_32 ?_
      refine cd_X6_178 rfl ⟨⟨Nat.le_of_ble_eq_true rfl, Nat.le_of_ble_eq_true rfl⟩, Nat.le_of_ble_eq_true rfl, Nat.le_of_ble_eq_true rfl, Nat.le_of_ble_eq_true rfl⟩ (by first | assumption | exact wo_a hw | exact wo_r0 hw | exact wo_r1 hw | exact wo_r2 hw | exact wo_r3 hw | exact wo_a1 hw | exact wo_a2 hw | exact wo_a3 hw | exact wo_a4 hw | exact wo_rr hw (by omega) | exact wo_ra hw (by omega) | exact wo_cr hw (by omega) | exact wo_ca hw (by omega)) dX6_sneak_33 (hfi) ?_
      refine px_istore_3 dX6_sneak_36 rfl ?_
      refine px_aload_1 dX6_sneak_37 ?_
      refine gf_X6_84 rfl dX6_sneak_38 (by first | assumption | exact wo_a hw | exact wo_r0 hw | exact wo_r1 hw | exact wo_r2 hw | exact wo_r3 hw | exact wo_a1 hw | exact wo_a2 hw | exact wo_a3 hw | exact wo_a4 hw | exact wo_rr hw (by omega) | exact wo_ra hw (by omega) | exact wo_cr hw (by omega) | exact wo_ca hw (by omega)) ?_
      rw [px_up_ne (by omega), px_up_ne (by omega), q 2 (by decide)]
      refine px_istore_4 dX6_sneak_41 rfl ?_
      refine px_aload_1 dX6_sneak_43 ?_
      refine px_dup dX6_sneak_44 rfl ?_
      refine gf_X6_87 rfl dX6_sneak_45 (by first | assumption | exact wo_a hw | exact wo_r0 hw | exact wo_r1 hw | exact wo_r2 hw | exact wo_r3 hw | exact wo_a1 hw | exact wo_a2 hw | exact wo_a3 hw | exact wo_a4 hw | exact wo_rr hw (by omega) | exact wo_ra hw (by omega) | exact wo_cr hw (by omega) | exact wo_ca hw (by omega)) ?_
      rw [px_up_ne (by omega), px_up_ne (by omega), q 1 (by decide)]
      refine px_iload_3 dX6_sneak_48 ?_
      refine px_isub dX6_sneak_49 ?_
      refine pf_X6_87 rfl dX6_sneak_50 (by first | assumption | exact wo_a hw | exact wo_r0 hw | exact wo_r1 hw | exact wo_r2 hw | exact wo_r3 hw | exact wo_a1 hw | exact wo_a2 hw | exact wo_a3 hw | exact wo_a4 hw | exact wo_rr hw (by omega) | exact wo_ra hw (by omega) | exact wo_cr hw (by omega) | exact wo_ca hw (by omega)) ?_
      refine px_aload_1 dX6_sneak_53 ?_
      refine px_dup dX6_sneak_54 rfl ?_
      refine gf_X6_182 rfl dX6_sneak_55 (by first | assumption | exact wo_a hw | exact wo_r0 hw | exact wo_r1 hw | exact wo_r2 hw | exact wo_r3 hw | exact wo_a1 hw | exact wo_a2 hw | exact wo_a3 hw | exact wo_a4 hw | exact wo_rr hw (by omega) | exact wo_ra hw (by omega) | exact wo_cr hw (by omega) | exact wo_ca hw (by omega)) ?_
      rw [px_up_nj (by decide), px_up_ne (by omega), px_up_ne (by omega), q 6 (by decide)]
      refine px_iload_3 dX6_sneak_58 ?_
      refine px_iadd dX6_sneak_59 ?_
      refine pf_X6_182 rfl dX6_sneak_60 (by first | assumption | exact wo_a hw | exact wo_r0 hw | exact wo_r1 hw | exact wo_r2 hw | exact wo_r3 hw | exact wo_a1 hw | exact wo_a2 hw | exact wo_a3 hw | exact wo_a4 hw | exact wo_rr hw (by omega) | exact wo_ra hw (by omega) | exact wo_cr hw (by omega) | exact wo_ca hw (by omega)) ?_
      refine px_aload_1 dX6_sneak_63 ?_
      refine px_iconst (0) dX6_sneak_64 rfl ?_
      refine pf_X6_84 rfl dX6_sneak_65 (by first | assumption | exact wo_a hw | exact wo_r0 hw | exact wo_r1 hw | exact wo_r2 hw | exact wo_r3 hw | exact wo_a1 hw | exact wo_a2 hw | exact wo_a3 hw | exact wo_a4 hw | exact wo_rr hw (by omega) | exact wo_ra hw (by omega) | exact wo_cr hw (by omega) | exact wo_ca hw (by omega)) ?_
      refine px_aload_1 dX6_sneak_68 ?_
      refine px_dup dX6_sneak_69 rfl ?_
      refine gf_X6_185 rfl dX6_sneak_70 (by first | assumption | exact wo_a hw | exact wo_r0 hw | exact wo_r1 hw | exact wo_r2 hw | exact wo_r3 hw | exact wo_a1 hw | exact wo_a2 hw | exact wo_a3 hw | exact wo_a4 hw | exact wo_rr hw (by omega) | exact wo_ra hw (by omega) | exact wo_cr hw (by omega) | exact wo_ca hw (by omega)) ?_
      rw [px_up_nj (by decide), px_up_nj (by decide), px_up_nj (by decide), px_up_ne (by omega), px_up_ne (by omega), q 7 (by decide)]
      refine px_iload_4 dX6_sneak_73 ?_
      refine px_iadd dX6_sneak_75 ?_
      refine pf_X6_185 rfl dX6_sneak_76 (by first | assumption | exact wo_a hw | exact wo_r0 hw | exact wo_r1 hw | exact wo_r2 hw | exact wo_r3 hw | exact wo_a1 hw | exact wo_a2 hw | exact wo_a3 hw | exact wo_a4 hw | exact wo_rr hw (by omega) | exact wo_ra hw (by omega) | exact wo_cr hw (by omega) | exact wo_ca hw (by omega)) ?_
      refine px_aload_0 dX6_sneak_79 ?_
      refine px_dup dX6_sneak_80 rfl ?_
      refine gf_X6_46 rfl dX6_sneak_81 (by first | assumption | exact wo_a hw | exact wo_r0 hw | exact wo_r1 hw | exact wo_r2 hw | exact wo_r3 hw | exact wo_a1 hw | exact wo_a2 hw | exact wo_a3 hw | exact wo_a4 hw | exact wo_rr hw (by omega) | exact wo_ra hw (by omega) | exact wo_cr hw (by omega) | exact wo_ca hw (by omega)) ?_
      rw [px_up_ne (by omega), px_up_ne (by omega), px_up_ne (by omega), px_up_ne (by omega), px_up_nj (by decide), px_up_ne (by omega), hA.2.2.2.1.2.2.2.1]
      refine px_iload_4 dX6_sneak_84 ?_
      refine px_iadd dX6_sneak_86 ?_
      refine pf_X6_46 rfl dX6_sneak_87 (by first | assumption | exact wo_a hw | exact wo_r0 hw | exact wo_r1 hw | exact wo_r2 hw | exact wo_r3 hw | exact wo_a1 hw | exact wo_a2 hw | exact wo_a3 hw | exact wo_a4 hw | exact wo_rr hw (by omega) | exact wo_ra hw (by omega) | exact wo_cr hw (by omega) | exact wo_ca hw (by omega)) ?_
      refine px_iload_4 dX6_sneak_90 ?_
      refine px_iret dX6_sneak_92 ?_
      exact px_Q1_ok (by rw [f_sn, if_pos hpos]; unfold f_sneak; rw [if_neg (Int32.not_le.mpr h26)]) (by rw [hfs h26]; exact ag_up_num (ag_up_cart (ag_up_cart (ag_up_cart (ag_up_cart hA2 (by omega) (by omega) (by decide)) (by rw [nr_upd (by omega)]; omega) (by omega) (by decide)) (by rw [nr_upd (by omega), nr_upd (by omega)]; omega) (by omega) (by decide)) (by rw [nr_upd (by omega), nr_upd (by omega), nr_upd (by omega)]; omega) (by omega) (by decide)) (by rw [nr_upd (by omega), nr_upd (by omega), nr_upd (by omega), nr_upd (by omega), nc_upd (by omega), nc_upd (by omega), nc_upd (by omega), nc_upd (by omega)]; omega) (by omega)) (fun x hx => by rw [px_up_ne (by omega), px_up_ne (by omega), px_up_ne (by omega), px_up_ne (by omega), px_up_ne (by omega), px_up_ne (by omega), px_up_ne (by omega)])
    · skip
      refine px_iconst (0) dX6_sneak_29 rfl ?_
      refine px_iret dX6_sneak_30 ?_
      exact px_Q1_ok (by rw [f_sn, if_pos hpos]; unfold f_sneak; rw [if_pos (Int32.not_lt.mp h26)]) (by rw [f_sn, if_pos hpos]; unfold f_sneak; rw [if_pos (Int32.not_lt.mp h26)]; dsimp only; rw [upd_sw 146 (9 + 6 * r + 5) (by omega), hσ2]; exact hA2) (fun x hx => by rw [px_up_ne (by omega), px_up_ne (by omega)])
theorem sn_town {c r : Nat} (hr : r < 14) : (f_sn σ c r).2 (94 + 8 * c + 0) = σ (94 + 8 * c + 0) ∧ (∀ j, j < 2 → (f_sn σ c r).2 (9 + 6 * r + j) = σ (9 + 6 * r + j)) ∧ f_nr (f_sn σ c r).2 = f_nr σ ∧ f_nc (f_sn σ c r).2 = f_nc σ := by
  unfold f_sn f_sneak
  refine ⟨?_, fun j hj => ?_, ?_, ?_⟩
  · split
    · split <;> simp only [upd] <;> (repeat (first | rw [if_pos (by omega)] | rw [if_neg (by omega)] | rw [if_pos (by simp; done)] | rw [if_neg (by simp; done)]))
    · simp only [upd]; (repeat (first | rw [if_pos (by omega)] | rw [if_neg (by omega)] | rw [if_pos (by simp; done)] | rw [if_neg (by simp; done)]))
  · split
    · split <;> simp only [upd] <;> (repeat (first | rw [if_pos (by omega)] | rw [if_neg (by omega)] | rw [if_pos (by simp; done)] | rw [if_neg (by simp; done)]))
    · simp only [upd]; (repeat (first | rw [if_pos (by omega)] | rw [if_neg (by omega)] | rw [if_pos (by simp; done)] | rw [if_neg (by simp; done)]))
  · unfold f_nr
    split
    · split <;> simp only [upd] <;> (repeat (first | rw [if_pos (by omega)] | rw [if_neg (by omega)] | rw [if_pos (by simp; done)] | rw [if_neg (by simp; done)]))
    · simp only [upd]; (repeat (first | rw [if_pos (by omega)] | rw [if_neg (by omega)] | rw [if_pos (by simp; done)] | rw [if_neg (by simp; done)]))
  · unfold f_nc
    split
    · split <;> simp only [upd] <;> (repeat (first | rw [if_pos (by omega)] | rw [if_neg (by omega)] | rw [if_pos (by simp; done)] | rw [if_neg (by simp; done)]))
    · simp only [upd]; (repeat (first | rw [if_pos (by omega)] | rw [if_neg (by omega)] | rw [if_pos (by simp; done)] | rw [if_neg (by simp; done)]))
theorem rg01 {h : Int32} (hr : rg h 0 1) : h = 0 ∨ h = 1 := by
  have e := ix_eq hr
  have := ix_le hr (k := 1) rfl
  rcases (by omega : ix h = 0 ∨ ix h = 1) with q | q
  · rw [q] at e; exact Or.inl e
  · rw [q] at e; exact Or.inr e
theorem s_X6_drive {a b h : Int32} (hw : px_wo G T R w) (hA : px_ag I w σ) (hV : px_V σ) : px_C l G 4 0 0 mX6_drive [.ref w, .int a, .int b, .int h] (T, I, J, R) (px_Q1 T I J R w (f_go σ a b h)) := by
  refine px_met (M := mX6_drive) ([some (.ref w), some (.int a), some (.int b), some (.int h), none, none, none]) (by decide +kernel) rfl (Nat.le_of_ble_eq_true rfl) rfl ?_
  by_cases hr : rg a 0 (σ 93 - 1) ∧ rg b 0 (σ 8 - 1) ∧ rg h 0 1
  · obtain ⟨hr, hr2, hr3⟩ := hr
    obtain ⟨ha, hl, h6⟩ := ct_lt hV hr
    obtain ⟨hb, hl2, h14⟩ := rd_lt hV hr2
    have q : ∀ j, j < 8 → I (w + 19 + ix a) j = σ (94 + 8 * ix a + j) := fun j hj => ag_ct hA hl hj
    have q2 : ∀ j, j < 6 → I (w + 5 + ix b) j = σ (9 + 6 * ix b + j) := fun j hj => ag_rd hA hl2 hj
    have hat := s_X4_isAt (l := l) (I := I) (J := J) (R := R) (t := σ (94 + 8 * ix a + 0)) (wo_ra hw (show ix b < 14 by omega))
    rw [q2 0 (by decide), q2 1 (by decide)] at hat
    rcases rg01 hr3 with h0 | h1
    · have h01 : ¬ h = 1 := by rw [h0]; decide
      have hpay := s_X6_payToll (l := l) (I := I) (J := J) (R := R) (w := w) (wo_ca hw (show ix a < 6 by omega)) (wo_ra hw (show ix b < 14 by omega)) (by omega)
      rw [q 1 (by decide), q 2 (by decide), q 5 (by decide), q2 2 (by decide), q2 4 (by decide)] at hpay
      have hA' := ag_up_road (r := ix b) (j := 4) (v := σ (9 + 6 * ix b + 4) + 1) (ag_up_cart (r := ix a) (j := 5) (v := σ (94 + 8 * ix a + 5) + σ (9 + 6 * ix b + 2) * σ (94 + 8 * ix a + 2)) (ag_up_cart (r := ix a) (j := 1) (v := σ (94 + 8 * ix a + 1) - σ (9 + 6 * ix b + 2) * σ (94 + 8 * ix a + 2)) hA h14 (by omega) (by decide)) (by rw [nr_upd (by omega)]; exact h14) (by omega) (by decide)) (by omega) (by decide)
      have hfar := s_X4_farFrom (l := l) (I := (px_up (px_up (px_up I (w + 19 + ix a) 1 (σ (94 + 8 * ix a + 1) - σ (9 + 6 * ix b + 2) * σ (94 + 8 * ix a + 2))) (w + 19 + ix a) 5 (σ (94 + 8 * ix a + 5) + σ (9 + 6 * ix b + 2) * σ (94 + 8 * ix a + 2))) (w + 5 + ix b) 4 (σ (9 + 6 * ix b + 4) + 1))) (J := J) (R := R) (t := σ (94 + 8 * ix a + 0)) (wo_ra hw (show ix b < 14 by omega))
      rw [px_up_nj (by decide), px_up_nj (by decide), px_up_ne (by omega), px_up_ne (by omega), q2 0 (by decide), q2 1 (by decide)] at hfar
      refine px_aload_0 dX6_drive_0 ?_
      refine px_iload_1 dX6_drive_1 ?_
      refine cd_X6_149 rfl ⟨⟨Nat.le_of_ble_eq_true rfl, Nat.le_of_ble_eq_true rfl⟩, Nat.le_of_ble_eq_true rfl, Nat.le_of_ble_eq_true rfl, Nat.le_of_ble_eq_true rfl⟩ (by first | assumption | exact wo_a hw | exact wo_r0 hw | exact wo_r1 hw | exact wo_r2 hw | exact wo_r3 hw | exact wo_a1 hw | exact wo_a2 hw | exact wo_a3 hw | exact wo_a4 hw | exact wo_rr hw (by omega) | exact wo_ra hw (by omega) | exact wo_cr hw (by omega) | exact wo_ca hw (by omega)) dX6_drive_2 (s_X6_hasCart hw hA) ?_
      refine px_ifb_eq (tgt := 16) dX6_drive_5 (by decide) (fun h5 => (by first | exact absurd h5 (hr) | exact absurd (hr) h5)) (fun h5 => ?_)
      refine px_aload_0 dX6_drive_8 ?_
      refine px_iload_2 dX6_drive_9 ?_
      refine cd_X6_142 rfl ⟨⟨Nat.le_of_ble_eq_true rfl, Nat.le_of_ble_eq_true rfl⟩, Nat.le_of_ble_eq_true rfl, Nat.le_of_ble_eq_true rfl, Nat.le_of_ble_eq_true rfl⟩ (by first | assumption | exact wo_a hw | exact wo_r0 hw | exact wo_r1 hw | exact wo_r2 hw | exact wo_r3 hw | exact wo_a1 hw | exact wo_a2 hw | exact wo_a3 hw | exact wo_a4 hw | exact wo_rr hw (by omega) | exact wo_ra hw (by omega) | exact wo_cr hw (by omega) | exact wo_ca hw (by omega)) dX6_drive_10 (s_X6_hasRoad hw hA) ?_
      refine px_ifb_ne (tgt := 18) dX6_drive_13 (by decide) (fun h13 => ?_) (fun h13 => (by first | exact absurd (hr2) h13 | exact absurd h13 (hr2)))
      refine px_iload_3 dX6_drive_18 ?_
      refine px_iconst (0) dX6_drive_19 rfl ?_
      refine px_iconst (1) dX6_drive_20 rfl ?_
      refine cd_X6_70 rfl ⟨⟨Nat.le_of_ble_eq_true rfl, Nat.le_of_ble_eq_true rfl⟩, Nat.le_of_ble_eq_true rfl, Nat.le_of_ble_eq_true rfl, Nat.le_of_ble_eq_true rfl⟩ dX6_drive_21 (s_X7_isOutside) ?_
      refine px_ifb_eq (tgt := 30) dX6_drive_24 (by decide) (fun h24 => ?_) (fun h24 => (by first | exact absurd (hr3) h24 | exact absurd h24 (hr3)))
      refine px_aload_0 dX6_drive_30 ?_
      refine gf_X6_26 rfl dX6_drive_31 (by first | assumption | exact wo_a hw | exact wo_r0 hw | exact wo_r1 hw | exact wo_r2 hw | exact wo_r3 hw | exact wo_a1 hw | exact wo_a2 hw | exact wo_a3 hw | exact wo_a4 hw | exact wo_rr hw (by omega) | exact wo_ra hw (by omega) | exact wo_cr hw (by omega) | exact wo_ca hw (by omega)) (by first | assumption | exact wo_a hw | exact wo_r0 hw | exact wo_r1 hw | exact wo_r2 hw | exact wo_r3 hw | exact wo_a1 hw | exact wo_a2 hw | exact wo_a3 hw | exact wo_a4 hw | exact wo_rr hw (by omega) | exact wo_ra hw (by omega) | exact wo_cr hw (by omega) | exact wo_ca hw (by omega)) ?_
      refine px_iload_1 dX6_drive_34 ?_
      refine px_aaldN dX6_drive_35 (by first | assumption | exact wo_a hw | exact wo_r0 hw | exact wo_r1 hw | exact wo_r2 hw | exact wo_r3 hw | exact wo_a1 hw | exact wo_a2 hw | exact wo_a3 hw | exact wo_a4 hw | exact wo_rr hw (by omega) | exact wo_ra hw (by omega) | exact wo_cr hw (by omega) | exact wo_ca hw (by omega)) (by exact ha) (by omega) (by first | assumption | exact wo_a hw | exact wo_r0 hw | exact wo_r1 hw | exact wo_r2 hw | exact wo_r3 hw | exact wo_a1 hw | exact wo_a2 hw | exact wo_a3 hw | exact wo_a4 hw | exact wo_rr hw (by omega) | exact wo_ra hw (by omega) | exact wo_cr hw (by omega) | exact wo_ca hw (by omega)) ?_
      refine px_astore_4 dX6_drive_36 rfl ?_
      refine px_aload_0 dX6_drive_38 ?_
      refine gf_X6_20 rfl dX6_drive_39 (by first | assumption | exact wo_a hw | exact wo_r0 hw | exact wo_r1 hw | exact wo_r2 hw | exact wo_r3 hw | exact wo_a1 hw | exact wo_a2 hw | exact wo_a3 hw | exact wo_a4 hw | exact wo_rr hw (by omega) | exact wo_ra hw (by omega) | exact wo_cr hw (by omega) | exact wo_ca hw (by omega)) (by first | assumption | exact wo_a hw | exact wo_r0 hw | exact wo_r1 hw | exact wo_r2 hw | exact wo_r3 hw | exact wo_a1 hw | exact wo_a2 hw | exact wo_a3 hw | exact wo_a4 hw | exact wo_rr hw (by omega) | exact wo_ra hw (by omega) | exact wo_cr hw (by omega) | exact wo_ca hw (by omega)) ?_
      refine px_iload_2 dX6_drive_42 ?_
      refine px_aaldN dX6_drive_43 (by first | assumption | exact wo_a hw | exact wo_r0 hw | exact wo_r1 hw | exact wo_r2 hw | exact wo_r3 hw | exact wo_a1 hw | exact wo_a2 hw | exact wo_a3 hw | exact wo_a4 hw | exact wo_rr hw (by omega) | exact wo_ra hw (by omega) | exact wo_cr hw (by omega) | exact wo_ca hw (by omega)) (by exact hb) (by omega) (by first | assumption | exact wo_a hw | exact wo_r0 hw | exact wo_r1 hw | exact wo_r2 hw | exact wo_r3 hw | exact wo_a1 hw | exact wo_a2 hw | exact wo_a3 hw | exact wo_a4 hw | exact wo_rr hw (by omega) | exact wo_ra hw (by omega) | exact wo_cr hw (by omega) | exact wo_ca hw (by omega)) ?_
      refine px_astore_5 dX6_drive_44 rfl ?_
      refine px_aload_5 dX6_drive_46 ?_
      refine px_aload_4 dX6_drive_48 ?_
      refine gf_X6_78 rfl dX6_drive_50 (by first | assumption | exact wo_a hw | exact wo_r0 hw | exact wo_r1 hw | exact wo_r2 hw | exact wo_r3 hw | exact wo_a1 hw | exact wo_a2 hw | exact wo_a3 hw | exact wo_a4 hw | exact wo_rr hw (by omega) | exact wo_ra hw (by omega) | exact wo_cr hw (by omega) | exact wo_ca hw (by omega)) ?_
      rw [q 0 (by decide)]
      refine cd_X6_74 rfl ⟨⟨Nat.le_of_ble_eq_true rfl, Nat.le_of_ble_eq_true rfl⟩, Nat.le_of_ble_eq_true rfl, Nat.le_of_ble_eq_true rfl, Nat.le_of_ble_eq_true rfl⟩ (by first | assumption | exact wo_a hw | exact wo_r0 hw | exact wo_r1 hw | exact wo_r2 hw | exact wo_r3 hw | exact wo_a1 hw | exact wo_a2 hw | exact wo_a3 hw | exact wo_a4 hw | exact wo_rr hw (by omega) | exact wo_ra hw (by omega) | exact wo_cr hw (by omega) | exact wo_ca hw (by omega)) dX6_drive_53 (hat) ?_
      refine px_ifb_ne (tgt := 62) dX6_drive_56 (by decide) (fun h56 => ?_) (fun h56 => ?_)
      · skip
        refine px_iload_3 dX6_drive_62 ?_
        refine px_if_ne (tgt := 88) dX6_drive_63 (by decide) (fun h63 => (by first | exact absurd h63 (h0) | exact absurd (h0) h63)) (fun h63 => ?_)
        refine px_aload_5 dX6_drive_66 ?_
        refine gf_X6_100 rfl dX6_drive_68 (by first | assumption | exact wo_a hw | exact wo_r0 hw | exact wo_r1 hw | exact wo_r2 hw | exact wo_r3 hw | exact wo_a1 hw | exact wo_a2 hw | exact wo_a3 hw | exact wo_a4 hw | exact wo_rr hw (by omega) | exact wo_ra hw (by omega) | exact wo_cr hw (by omega) | exact wo_ca hw (by omega)) ?_
        rw [q2 2 (by decide)]
        refine px_aload_4 dX6_drive_71 ?_
        refine gf_X6_84 rfl dX6_drive_73 (by first | assumption | exact wo_a hw | exact wo_r0 hw | exact wo_r1 hw | exact wo_r2 hw | exact wo_r3 hw | exact wo_a1 hw | exact wo_a2 hw | exact wo_a3 hw | exact wo_a4 hw | exact wo_rr hw (by omega) | exact wo_ra hw (by omega) | exact wo_cr hw (by omega) | exact wo_ca hw (by omega)) ?_
        rw [q 2 (by decide)]
        refine px_imul dX6_drive_76 ?_
        refine px_aload_4 dX6_drive_77 ?_
        refine gf_X6_87 rfl dX6_drive_79 (by first | assumption | exact wo_a hw | exact wo_r0 hw | exact wo_r1 hw | exact wo_r2 hw | exact wo_r3 hw | exact wo_a1 hw | exact wo_a2 hw | exact wo_a3 hw | exact wo_a4 hw | exact wo_rr hw (by omega) | exact wo_ra hw (by omega) | exact wo_cr hw (by omega) | exact wo_ca hw (by omega)) ?_
        rw [q 1 (by decide)]
        refine px_icmp_le (tgt := 88) dX6_drive_82 (by decide) (fun h82 => ?_) (fun h82 => ?_)
        · skip
          refine px_iconst (0) dX6_drive_88 rfl ?_
          refine px_istore_6 dX6_drive_89 rfl ?_
          refine px_iload_3 dX6_drive_91 ?_
          refine px_iconst (1) dX6_drive_92 rfl ?_
          refine px_icmp_ne (tgt := 109) dX6_drive_93 (by decide) (fun h93 => ?_) (fun h93 => (by first | exact absurd (h01) h93 | exact absurd h93 (h01)))
          refine px_aload_0 dX6_drive_109 ?_
          refine px_aload_4 dX6_drive_110 ?_
          refine px_aload_5 dX6_drive_112 ?_
          refine cd_X6_162 rfl ⟨⟨Nat.le_of_ble_eq_true rfl, Nat.le_of_ble_eq_true rfl⟩, Nat.le_of_ble_eq_true rfl, Nat.le_of_ble_eq_true rfl, Nat.le_of_ble_eq_true rfl⟩ (by first | assumption | exact wo_a hw | exact wo_r0 hw | exact wo_r1 hw | exact wo_r2 hw | exact wo_r3 hw | exact wo_a1 hw | exact wo_a2 hw | exact wo_a3 hw | exact wo_a4 hw | exact wo_rr hw (by omega) | exact wo_ra hw (by omega) | exact wo_cr hw (by omega) | exact wo_ca hw (by omega)) dX6_drive_114 (hpay) ?_
          refine px_aload_4 dX6_drive_117 ?_
          refine px_aload_5 dX6_drive_119 ?_
          refine px_aload_4 dX6_drive_121 ?_
          refine gf_X6_78 rfl dX6_drive_123 (by first | assumption | exact wo_a hw | exact wo_r0 hw | exact wo_r1 hw | exact wo_r2 hw | exact wo_r3 hw | exact wo_a1 hw | exact wo_a2 hw | exact wo_a3 hw | exact wo_a4 hw | exact wo_rr hw (by omega) | exact wo_ra hw (by omega) | exact wo_cr hw (by omega) | exact wo_ca hw (by omega)) ?_
          rw [px_up_ne (by omega), px_up_nj (by decide), px_up_nj (by decide), q 0 (by decide)]
          refine cd_X6_110 rfl ⟨⟨Nat.le_of_ble_eq_true rfl, Nat.le_of_ble_eq_true rfl⟩, Nat.le_of_ble_eq_true rfl, Nat.le_of_ble_eq_true rfl, Nat.le_of_ble_eq_true rfl⟩ (by first | assumption | exact wo_a hw | exact wo_r0 hw | exact wo_r1 hw | exact wo_r2 hw | exact wo_r3 hw | exact wo_a1 hw | exact wo_a2 hw | exact wo_a3 hw | exact wo_a4 hw | exact wo_rr hw (by omega) | exact wo_ra hw (by omega) | exact wo_cr hw (by omega) | exact wo_ca hw (by omega)) dX6_drive_126 (hfar) ?_
          refine pf_X6_78 rfl dX6_drive_129 (by first | assumption | exact wo_a hw | exact wo_r0 hw | exact wo_r1 hw | exact wo_r2 hw | exact wo_r3 hw | exact wo_a1 hw | exact wo_a2 hw | exact wo_a3 hw | exact wo_a4 hw | exact wo_rr hw (by omega) | exact wo_ra hw (by omega) | exact wo_cr hw (by omega) | exact wo_ca hw (by omega)) ?_
          refine px_iload_6 dX6_drive_132 ?_
          refine px_iret dX6_drive_134 ?_
          (have hf : f_go σ a b h = (0, upd (upd (upd (upd σ (94 + 8 * ix a + 1) (σ (94 + 8 * ix a + 1) - σ (9 + 6 * ix b + 2) * σ (94 + 8 * ix a + 2))) (94 + 8 * ix a + 5) (σ (94 + 8 * ix a + 5) + σ (9 + 6 * ix b + 2) * σ (94 + 8 * ix a + 2))) (9 + 6 * ix b + 4) (σ (9 + 6 * ix b + 4) + 1)) (94 + 8 * ix a + 0) (f_far σ (ix b) (σ (94 + 8 * ix a + 0)))) := (by clear hA hV hw hA' hpay hfar hat; rw [upd_sw (9 + 6 * ix b + 4) (94 + 8 * ix a + 0) (by omega)]; grind [f_go]); exact px_Q1_ok (by rw [hf]) (by rw [hf]; exact ag_up_cart hA' (by rw [nr_upd (by omega), nr_upd (by omega), nr_upd (by omega)]; exact h14) (by omega) (by decide)) (fun x hx => by rw [px_up_ne (by omega), px_up_ne (by omega), px_up_ne (by omega), px_up_ne (by omega)]))
        · skip
          refine px_bipush (-5) dX6_drive_85 rfl ?_
          refine px_iret dX6_drive_87 ?_
          exact px_Q1_err (by clear hA hV hw hA' hpay hfar hat; grind [f_go]) hA
      · skip
        refine px_bipush (-5) dX6_drive_59 rfl ?_
        refine px_iret dX6_drive_61 ?_
        exact px_Q1_err (by clear hA hV hw hA' hpay hfar hat; grind [f_go]) hA
    · have h10 : ¬ h = 0 := by rw [h1]; decide
      refine px_aload_0 dX6_drive_0 ?_
      refine px_iload_1 dX6_drive_1 ?_
      refine cd_X6_149 rfl ⟨⟨Nat.le_of_ble_eq_true rfl, Nat.le_of_ble_eq_true rfl⟩, Nat.le_of_ble_eq_true rfl, Nat.le_of_ble_eq_true rfl, Nat.le_of_ble_eq_true rfl⟩ (by first | assumption | exact wo_a hw | exact wo_r0 hw | exact wo_r1 hw | exact wo_r2 hw | exact wo_r3 hw | exact wo_a1 hw | exact wo_a2 hw | exact wo_a3 hw | exact wo_a4 hw | exact wo_rr hw (by omega) | exact wo_ra hw (by omega) | exact wo_cr hw (by omega) | exact wo_ca hw (by omega)) dX6_drive_2 (s_X6_hasCart hw hA) ?_
      refine px_ifb_eq (tgt := 16) dX6_drive_5 (by decide) (fun h5 => (by first | exact absurd h5 (hr) | exact absurd (hr) h5)) (fun h5 => ?_)
      refine px_aload_0 dX6_drive_8 ?_
      refine px_iload_2 dX6_drive_9 ?_
      refine cd_X6_142 rfl ⟨⟨Nat.le_of_ble_eq_true rfl, Nat.le_of_ble_eq_true rfl⟩, Nat.le_of_ble_eq_true rfl, Nat.le_of_ble_eq_true rfl, Nat.le_of_ble_eq_true rfl⟩ (by first | assumption | exact wo_a hw | exact wo_r0 hw | exact wo_r1 hw | exact wo_r2 hw | exact wo_r3 hw | exact wo_a1 hw | exact wo_a2 hw | exact wo_a3 hw | exact wo_a4 hw | exact wo_rr hw (by omega) | exact wo_ra hw (by omega) | exact wo_cr hw (by omega) | exact wo_ca hw (by omega)) dX6_drive_10 (s_X6_hasRoad hw hA) ?_
      refine px_ifb_ne (tgt := 18) dX6_drive_13 (by decide) (fun h13 => ?_) (fun h13 => (by first | exact absurd (hr2) h13 | exact absurd h13 (hr2)))
      refine px_iload_3 dX6_drive_18 ?_
      refine px_iconst (0) dX6_drive_19 rfl ?_
      refine px_iconst (1) dX6_drive_20 rfl ?_
      refine cd_X6_70 rfl ⟨⟨Nat.le_of_ble_eq_true rfl, Nat.le_of_ble_eq_true rfl⟩, Nat.le_of_ble_eq_true rfl, Nat.le_of_ble_eq_true rfl, Nat.le_of_ble_eq_true rfl⟩ dX6_drive_21 (s_X7_isOutside) ?_
      refine px_ifb_eq (tgt := 30) dX6_drive_24 (by decide) (fun h24 => ?_) (fun h24 => (by first | exact absurd (hr3) h24 | exact absurd h24 (hr3)))
      refine px_aload_0 dX6_drive_30 ?_
      refine gf_X6_26 rfl dX6_drive_31 (by first | assumption | exact wo_a hw | exact wo_r0 hw | exact wo_r1 hw | exact wo_r2 hw | exact wo_r3 hw | exact wo_a1 hw | exact wo_a2 hw | exact wo_a3 hw | exact wo_a4 hw | exact wo_rr hw (by omega) | exact wo_ra hw (by omega) | exact wo_cr hw (by omega) | exact wo_ca hw (by omega)) (by first | assumption | exact wo_a hw | exact wo_r0 hw | exact wo_r1 hw | exact wo_r2 hw | exact wo_r3 hw | exact wo_a1 hw | exact wo_a2 hw | exact wo_a3 hw | exact wo_a4 hw | exact wo_rr hw (by omega) | exact wo_ra hw (by omega) | exact wo_cr hw (by omega) | exact wo_ca hw (by omega)) ?_
      refine px_iload_1 dX6_drive_34 ?_
      refine px_aaldN dX6_drive_35 (by first | assumption | exact wo_a hw | exact wo_r0 hw | exact wo_r1 hw | exact wo_r2 hw | exact wo_r3 hw | exact wo_a1 hw | exact wo_a2 hw | exact wo_a3 hw | exact wo_a4 hw | exact wo_rr hw (by omega) | exact wo_ra hw (by omega) | exact wo_cr hw (by omega) | exact wo_ca hw (by omega)) (by exact ha) (by omega) (by first | assumption | exact wo_a hw | exact wo_r0 hw | exact wo_r1 hw | exact wo_r2 hw | exact wo_r3 hw | exact wo_a1 hw | exact wo_a2 hw | exact wo_a3 hw | exact wo_a4 hw | exact wo_rr hw (by omega) | exact wo_ra hw (by omega) | exact wo_cr hw (by omega) | exact wo_ca hw (by omega)) ?_
      refine px_astore_4 dX6_drive_36 rfl ?_
      refine px_aload_0 dX6_drive_38 ?_
      refine gf_X6_20 rfl dX6_drive_39 (by first | assumption | exact wo_a hw | exact wo_r0 hw | exact wo_r1 hw | exact wo_r2 hw | exact wo_r3 hw | exact wo_a1 hw | exact wo_a2 hw | exact wo_a3 hw | exact wo_a4 hw | exact wo_rr hw (by omega) | exact wo_ra hw (by omega) | exact wo_cr hw (by omega) | exact wo_ca hw (by omega)) (by first | assumption | exact wo_a hw | exact wo_r0 hw | exact wo_r1 hw | exact wo_r2 hw | exact wo_r3 hw | exact wo_a1 hw | exact wo_a2 hw | exact wo_a3 hw | exact wo_a4 hw | exact wo_rr hw (by omega) | exact wo_ra hw (by omega) | exact wo_cr hw (by omega) | exact wo_ca hw (by omega)) ?_
      refine px_iload_2 dX6_drive_42 ?_
      refine px_aaldN dX6_drive_43 (by first | assumption | exact wo_a hw | exact wo_r0 hw | exact wo_r1 hw | exact wo_r2 hw | exact wo_r3 hw | exact wo_a1 hw | exact wo_a2 hw | exact wo_a3 hw | exact wo_a4 hw | exact wo_rr hw (by omega) | exact wo_ra hw (by omega) | exact wo_cr hw (by omega) | exact wo_ca hw (by omega)) (by exact hb) (by omega) (by first | assumption | exact wo_a hw | exact wo_r0 hw | exact wo_r1 hw | exact wo_r2 hw | exact wo_r3 hw | exact wo_a1 hw | exact wo_a2 hw | exact wo_a3 hw | exact wo_a4 hw | exact wo_rr hw (by omega) | exact wo_ra hw (by omega) | exact wo_cr hw (by omega) | exact wo_ca hw (by omega)) ?_
      refine px_astore_5 dX6_drive_44 rfl ?_
      refine px_aload_5 dX6_drive_46 ?_
      refine px_aload_4 dX6_drive_48 ?_
      refine gf_X6_78 rfl dX6_drive_50 (by first | assumption | exact wo_a hw | exact wo_r0 hw | exact wo_r1 hw | exact wo_r2 hw | exact wo_r3 hw | exact wo_a1 hw | exact wo_a2 hw | exact wo_a3 hw | exact wo_a4 hw | exact wo_rr hw (by omega) | exact wo_ra hw (by omega) | exact wo_cr hw (by omega) | exact wo_ca hw (by omega)) ?_
      rw [q 0 (by decide)]
      refine cd_X6_74 rfl ⟨⟨Nat.le_of_ble_eq_true rfl, Nat.le_of_ble_eq_true rfl⟩, Nat.le_of_ble_eq_true rfl, Nat.le_of_ble_eq_true rfl, Nat.le_of_ble_eq_true rfl⟩ (by first | assumption | exact wo_a hw | exact wo_r0 hw | exact wo_r1 hw | exact wo_r2 hw | exact wo_r3 hw | exact wo_a1 hw | exact wo_a2 hw | exact wo_a3 hw | exact wo_a4 hw | exact wo_rr hw (by omega) | exact wo_ra hw (by omega) | exact wo_cr hw (by omega) | exact wo_ca hw (by omega)) dX6_drive_53 (hat) ?_
      refine px_ifb_ne (tgt := 62) dX6_drive_56 (by decide) (fun h56 => ?_) (fun h56 => ?_)
      · skip
        refine px_iload_3 dX6_drive_62 ?_
        refine px_if_ne (tgt := 88) dX6_drive_63 (by decide) (fun h63 => ?_) (fun h63 => (by first | exact absurd (h10) h63 | exact absurd h63 (h10)))
        refine px_iconst (0) dX6_drive_88 rfl ?_
        refine px_istore_6 dX6_drive_89 rfl ?_
        refine px_iload_3 dX6_drive_91 ?_
        refine px_iconst (1) dX6_drive_92 rfl ?_
        refine px_icmp_ne (tgt := 109) dX6_drive_93 (by decide) (fun h93 => (by first | exact absurd h93 (h1) | exact absurd (h1) h93)) (fun h93 => ?_)
        refine px_aload_0 dX6_drive_96 ?_
        refine px_aload_4 dX6_drive_97 ?_
        refine px_aload_5 dX6_drive_99 ?_
        refine cg_X6_158 rfl ⟨⟨Nat.le_of_ble_eq_true rfl, Nat.le_of_ble_eq_true rfl⟩, Nat.le_of_ble_eq_true rfl, Nat.le_of_ble_eq_true rfl, Nat.le_of_ble_eq_true rfl⟩ (wo_a hw) dX6_drive_101 (s_X6_sneak hw hA hV hl hl2) ?_; rintro v m ⟨I', rfl, rfl, hA', hF'⟩; obtain ⟨s1, s2, s3, s4⟩ := sn_town (σ := σ) (c := ix a) (r := ix b) (by omega); have e0 := ag_ct (c := ix a) (j := 0) hA' (by omega) (by decide); rw [s1] at e0; have hfar := s_X4_farFrom (l := l) (I := I') (J := J) (R := R) (t := σ (94 + 8 * ix a + 0)) (wo_ra hw (show ix b < 14 by omega)); rw [ag_rd hA' (show ix b < f_nr (f_sn σ (ix a) (ix b)).2 by omega) (by decide), ag_rd hA' (show ix b < f_nr (f_sn σ (ix a) (ix b)).2 by omega) (by decide), s2 0 (by decide), s2 1 (by decide)] at hfar
        refine px_istore_6 dX6_drive_104 rfl ?_
        refine px_goto (tgt := 117) dX6_drive_106 (by decide) ?_
        refine px_aload_4 dX6_drive_117 ?_
        refine px_aload_5 dX6_drive_119 ?_
        refine px_aload_4 dX6_drive_121 ?_
        refine gf_X6_78 rfl dX6_drive_123 (by first | assumption | exact wo_a hw | exact wo_r0 hw | exact wo_r1 hw | exact wo_r2 hw | exact wo_r3 hw | exact wo_a1 hw | exact wo_a2 hw | exact wo_a3 hw | exact wo_a4 hw | exact wo_rr hw (by omega) | exact wo_ra hw (by omega) | exact wo_cr hw (by omega) | exact wo_ca hw (by omega)) ?_
        rw [e0]
        refine cd_X6_110 rfl ⟨⟨Nat.le_of_ble_eq_true rfl, Nat.le_of_ble_eq_true rfl⟩, Nat.le_of_ble_eq_true rfl, Nat.le_of_ble_eq_true rfl, Nat.le_of_ble_eq_true rfl⟩ (by first | assumption | exact wo_a hw | exact wo_r0 hw | exact wo_r1 hw | exact wo_r2 hw | exact wo_r3 hw | exact wo_a1 hw | exact wo_a2 hw | exact wo_a3 hw | exact wo_a4 hw | exact wo_rr hw (by omega) | exact wo_ra hw (by omega) | exact wo_cr hw (by omega) | exact wo_ca hw (by omega)) dX6_drive_126 (hfar) ?_
        refine pf_X6_78 rfl dX6_drive_129 (by first | assumption | exact wo_a hw | exact wo_r0 hw | exact wo_r1 hw | exact wo_r2 hw | exact wo_r3 hw | exact wo_a1 hw | exact wo_a2 hw | exact wo_a3 hw | exact wo_a4 hw | exact wo_rr hw (by omega) | exact wo_ra hw (by omega) | exact wo_cr hw (by omega) | exact wo_ca hw (by omega)) ?_
        refine px_iload_6 dX6_drive_132 ?_
        refine px_iret dX6_drive_134 ?_
        (have hf : f_go σ a b h = ((f_sn σ (ix a) (ix b)).1, upd (f_sn σ (ix a) (ix b)).2 (94 + 8 * ix a + 0) (f_far σ (ix b) (σ (94 + 8 * ix a + 0)))) := (by clear hA hV hw hA' hfar hat s1 s2 s3 s4 e0 hF'; unfold f_sn; dsimp only; rw [upd_sw (9 + 6 * ix b + 5) (94 + 8 * ix a + 0) (by omega)]; grind [f_go]); exact px_Q1_ok (by rw [hf]) (by rw [hf]; exact ag_up_cart hA' (by rw [s3]; exact h14) (by omega) (by decide)) (fun x hx => by rw [px_up_ne (by omega)]; exact hF' x hx))
      · skip
        refine px_bipush (-5) dX6_drive_59 rfl ?_
        refine px_iret dX6_drive_61 ?_
        exact px_Q1_err (by clear hA hV hw hat; grind [f_go]) hA
  · skip
    refine px_aload_0 dX6_drive_0 ?_
    refine px_iload_1 dX6_drive_1 ?_
    refine cd_X6_149 rfl ⟨⟨Nat.le_of_ble_eq_true rfl, Nat.le_of_ble_eq_true rfl⟩, Nat.le_of_ble_eq_true rfl, Nat.le_of_ble_eq_true rfl, Nat.le_of_ble_eq_true rfl⟩ (by first | assumption | exact wo_a hw | exact wo_r0 hw | exact wo_r1 hw | exact wo_r2 hw | exact wo_r3 hw | exact wo_a1 hw | exact wo_a2 hw | exact wo_a3 hw | exact wo_a4 hw | exact wo_rr hw (by omega) | exact wo_ra hw (by omega) | exact wo_cr hw (by omega) | exact wo_ca hw (by omega)) dX6_drive_2 (s_X6_hasCart hw hA) ?_
    refine px_ifb_eq (tgt := 16) dX6_drive_5 (by decide) (fun h5 => ?_) (fun h5 => ?_)
    · skip
      refine px_iconst (-1) dX6_drive_16 rfl ?_
      refine px_iret dX6_drive_17 ?_
      exact px_Q1_err (by clear hA hV hw; grind [f_go]) hA
    · skip
      refine px_aload_0 dX6_drive_8 ?_
      refine px_iload_2 dX6_drive_9 ?_
      refine cd_X6_142 rfl ⟨⟨Nat.le_of_ble_eq_true rfl, Nat.le_of_ble_eq_true rfl⟩, Nat.le_of_ble_eq_true rfl, Nat.le_of_ble_eq_true rfl, Nat.le_of_ble_eq_true rfl⟩ (by first | assumption | exact wo_a hw | exact wo_r0 hw | exact wo_r1 hw | exact wo_r2 hw | exact wo_r3 hw | exact wo_a1 hw | exact wo_a2 hw | exact wo_a3 hw | exact wo_a4 hw | exact wo_rr hw (by omega) | exact wo_ra hw (by omega) | exact wo_cr hw (by omega) | exact wo_ca hw (by omega)) dX6_drive_10 (s_X6_hasRoad hw hA) ?_
      refine px_ifb_ne (tgt := 18) dX6_drive_13 (by decide) (fun h13 => ?_) (fun h13 => ?_)
      · skip
        refine px_iload_3 dX6_drive_18 ?_
        refine px_iconst (0) dX6_drive_19 rfl ?_
        refine px_iconst (1) dX6_drive_20 rfl ?_
        refine cd_X6_70 rfl ⟨⟨Nat.le_of_ble_eq_true rfl, Nat.le_of_ble_eq_true rfl⟩, Nat.le_of_ble_eq_true rfl, Nat.le_of_ble_eq_true rfl, Nat.le_of_ble_eq_true rfl⟩ dX6_drive_21 (s_X7_isOutside) ?_
        refine px_ifb_eq (tgt := 30) dX6_drive_24 (by decide) (fun h24 => ?_) (fun h24 => ?_)
        · skip
          exact absurd ⟨h5, h13, h24⟩ hr
        · skip
          refine px_bipush (-2) dX6_drive_27 rfl ?_
          refine px_iret dX6_drive_29 ?_
          exact px_Q1_err (by clear hA hV hw; grind [f_go]) hA
      · skip
        refine px_iconst (-1) dX6_drive_16 rfl ?_
        refine px_iret dX6_drive_17 ?_
        exact px_Q1_err (by clear hA hV hw; grind [f_go]) hA
end WQ

