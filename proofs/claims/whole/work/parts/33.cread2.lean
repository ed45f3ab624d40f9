section CR2
variable {l : Launch} {G : px_G} {T : px_T} {I : px_I} {J : px_J} {R : px_R} {μ : px_M} {a r : Nat} {σ : px_s} {p : px_p} {s : Nat}
theorem let_lt (h : q_let (q_ch p s)) : s < p.1 := by
  refine Classical.byContradiction (fun z => ?_)
  rw [q_ch, if_neg z] at h
  exact absurd h let0
theorem btw_n0 (c : Int32) : ¬ f_btw c = 0 := by
  unfold f_btw
  split
  · decide
  · split <;> decide
theorem ch_lt {c : Int32} (h : q_ch p s = c) (h0 : ¬ c = 0) : s < p.1 := by
  refine Classical.byContradiction (fun z => ?_)
  rw [q_ch, if_neg z] at h
  exact h0 h.symm
def px_Qq (T : px_T) (I : px_I) (J : px_J) (R : px_R) (r : Nat) (q : Bool × Nat × Int32 × Int32 × Int32 × Int32) : Option Value → px_M → Prop := fun v μ' => v = some (.int (if q.1 = true then 1 else 0)) ∧ ∃ I' : px_I, μ' = (T, I', J, R) ∧ (∀ b, b ≠ r → I' b = I b) ∧ I' r 1 = nI q.2.1 ∧ (q.1 = true → I' r 2 = q.2.2.1 ∧ I' r 3 = q.2.2.2.1 ∧ (q.2.2.1 = 114 → I' r 4 = q.2.2.2.2.1) ∧ I' r 5 = q.2.2.2.2.2)
theorem s_X3_readOrder (hr : px_re G T R r a) (hp : px_pa G T R a) (hc : px_cp I a p) (hs : I r 1 = nI s) (hs2 : s ≤ p.1) (hra : r ≠ a ∧ r ≠ a + 1) : px_C l G 6 0 0 mX3_readOrder [.ref r] (T, I, J, R) (px_Qq T I J R r (q_ord p s)) := by
  have h80 := hc.2.1
  refine px_met (M := mX3_readOrder) ([some (.ref r), none]) (by decide +kernel) rfl (Nat.le_of_ble_eq_true rfl) rfl ?_
  generalize hcc : q_ch p s = c
  by_cases hl : q_let c
  · have hmk : f_mark c = f_btw c := if_pos hl
    have hmn : ¬ f_mark c = 0 := by rw [hmk]; exact btw_n0 c
    have hlt : s < p.1 := let_lt (by rw [hcc]; exact hl)
    have hcp : ∀ I1 : px_I, (∀ b, b ≠ r → I1 b = I b) → px_cp I1 a p := fun I1 g => cp_congr hc (g _ (Ne.symm hra.1)) (g _ (Ne.symm hra.2))
    have hI1 : ∀ b, b ≠ r → px_up (px_up I r 2 c) r 1 (nI (s + 1)) b = I b := fun b hb => by rw [px_up_ne hb, px_up_ne hb]
    have hsub := s_X3_readSubject (l := l) (J := J) (I := px_up (px_up I r 2 c) r 1 (nI (s + 1))) (s := s + 1) (c := c) hr hp (hcp _ hI1) (px_up_self _ _ _ _) hlt hra (by rw [px_up_nj (by decide), px_up_self])
    have hfl := fst_le (p := p) (c := c) (show s + 1 ≤ p.1 from hlt)
    cases ha : (q_fst p c (s + 1)).1
    · have ho : q_ord p s = (false, (q_fst p c (s + 1)).2.1, 0, 0, 0, 0) := by simp [q_ord, hcc, hl, ha]
      rw [ho]
      simp only [ha, if_true] at hsub
      refine px_aload_0 dX3_readOrder_0 ?_
      refine px_aload_0 dX3_readOrder_1 ?_
      refine gf_X3_30 rfl dX3_readOrder_2 (by first | assumption | exact pa_a hp | exact pa_r hp | exact pa_c hp | exact hr.1 | exact hr.2) (by first | assumption | exact pa_a hp | exact pa_r hp | exact pa_c hp | exact hr.1 | exact hr.2) ?_
      refine px_aload_0 dX3_readOrder_5 ?_
      refine gf_X3_9 rfl dX3_readOrder_6 (by first | assumption | exact pa_a hp | exact pa_r hp | exact pa_c hp | exact hr.1 | exact hr.2) ?_
      refine cd_X3_47 rfl ⟨⟨Nat.le_of_ble_eq_true rfl, Nat.le_of_ble_eq_true rfl⟩, Nat.le_of_ble_eq_true rfl, Nat.le_of_ble_eq_true rfl, Nat.le_of_ble_eq_true rfl⟩ (by first | assumption | exact pa_a hp | exact pa_r hp | exact pa_c hp | exact hr.1 | exact hr.2) dX3_readOrder_9 (s_X2_codeAt hp hc hs (by omega)) ?_
      rw [hcc]
      refine pf_X3_15 rfl dX3_readOrder_12 (by first | assumption | exact pa_a hp | exact pa_r hp | exact pa_c hp | exact hr.1 | exact hr.2) ?_
      refine px_aload_0 dX3_readOrder_15 ?_
      refine gf_X3_15 rfl dX3_readOrder_16 (by first | assumption | exact pa_a hp | exact pa_r hp | exact pa_c hp | exact hr.1 | exact hr.2) ?_
      rw [px_up_self]
      refine cd_X3_51 rfl ⟨⟨Nat.le_of_ble_eq_true rfl, Nat.le_of_ble_eq_true rfl⟩, Nat.le_of_ble_eq_true rfl, Nat.le_of_ble_eq_true rfl, Nat.le_of_ble_eq_true rfl⟩ dX3_readOrder_19 (s_X3_markOf) ?_
      refine px_istore_1 dX3_readOrder_22 rfl ?_
      refine px_iload_1 dX3_readOrder_23 ?_
      refine px_if_ne (tgt := 29) dX3_readOrder_24 (by decide) (fun h24 => ?_) (fun h24 => (by first | exact absurd (hmn) h24 | exact absurd h24 (hmn)))
      refine px_aload_0 dX3_readOrder_29 ?_
      refine px_dup dX3_readOrder_30 rfl ?_
      refine gf_X3_9 rfl dX3_readOrder_31 (by first | assumption | exact pa_a hp | exact pa_r hp | exact pa_c hp | exact hr.1 | exact hr.2) ?_
      rw [px_up_nj (by decide), hs]
      refine px_iconst (1) dX3_readOrder_34 rfl ?_
      refine px_iadd dX3_readOrder_35 ?_
      rw [nI_1]
      refine pf_X3_9 rfl dX3_readOrder_36 (by first | assumption | exact pa_a hp | exact pa_r hp | exact pa_c hp | exact hr.1 | exact hr.2) ?_
      refine px_aload_0 dX3_readOrder_39 ?_
      refine cg_X3_54 rfl ⟨⟨Nat.le_of_ble_eq_true rfl, Nat.le_of_ble_eq_true rfl⟩, Nat.le_of_ble_eq_true rfl, Nat.le_of_ble_eq_true rfl, Nat.le_of_ble_eq_true rfl⟩ (by first | assumption | exact pa_a hp | exact pa_r hp | exact pa_c hp | exact hr.1 | exact hr.2) dX3_readOrder_40 (hsub) ?_
      rintro v μ' ⟨I2, rfl, k1, k2, rfl, k3⟩
      skip
      refine px_if_eq (tgt := 61) dX3_readOrder_43 (by decide) (fun _ => ?_) (fun z => absurd rfl z)
      refine px_iconst (0) dX3_readOrder_61 rfl ?_
      refine px_zret dX3_readOrder_62 (by first | rfl | exact px_nb _) ?_
      exact ⟨rfl, I2, rfl, fun b hb => (k1 b hb).trans (hI1 b hb), k3, fun z => absurd z Bool.false_ne_true⟩
    · simp only [ha, show (true = false) = False from by simp, if_false] at hsub
      have hsl := snd_le (p := p) (c := c) hfl
      cases hb : (q_snd p c (q_fst p c (s + 1)).2.1).1
      · have ho : q_ord p s = (false, (q_snd p c (q_fst p c (s + 1)).2.1).2.1, 0, 0, 0, 0) := by simp [q_ord, hcc, hl, ha, hb]
        rw [ho]
        refine px_aload_0 dX3_readOrder_0 ?_
        refine px_aload_0 dX3_readOrder_1 ?_
        refine gf_X3_30 rfl dX3_readOrder_2 (by first | assumption | exact pa_a hp | exact pa_r hp | exact pa_c hp | exact hr.1 | exact hr.2) (by first | assumption | exact pa_a hp | exact pa_r hp | exact pa_c hp | exact hr.1 | exact hr.2) ?_
        refine px_aload_0 dX3_readOrder_5 ?_
        refine gf_X3_9 rfl dX3_readOrder_6 (by first | assumption | exact pa_a hp | exact pa_r hp | exact pa_c hp | exact hr.1 | exact hr.2) ?_
        refine cd_X3_47 rfl ⟨⟨Nat.le_of_ble_eq_true rfl, Nat.le_of_ble_eq_true rfl⟩, Nat.le_of_ble_eq_true rfl, Nat.le_of_ble_eq_true rfl, Nat.le_of_ble_eq_true rfl⟩ (by first | assumption | exact pa_a hp | exact pa_r hp | exact pa_c hp | exact hr.1 | exact hr.2) dX3_readOrder_9 (s_X2_codeAt hp hc hs (by omega)) ?_
        rw [hcc]
        refine pf_X3_15 rfl dX3_readOrder_12 (by first | assumption | exact pa_a hp | exact pa_r hp | exact pa_c hp | exact hr.1 | exact hr.2) ?_
        refine px_aload_0 dX3_readOrder_15 ?_
        refine gf_X3_15 rfl dX3_readOrder_16 (by first | assumption | exact pa_a hp | exact pa_r hp | exact pa_c hp | exact hr.1 | exact hr.2) ?_
        rw [px_up_self]
        refine cd_X3_51 rfl ⟨⟨Nat.le_of_ble_eq_true rfl, Nat.le_of_ble_eq_true rfl⟩, Nat.le_of_ble_eq_true rfl, Nat.le_of_ble_eq_true rfl, Nat.le_of_ble_eq_true rfl⟩ dX3_readOrder_19 (s_X3_markOf) ?_
        refine px_istore_1 dX3_readOrder_22 rfl ?_
        refine px_iload_1 dX3_readOrder_23 ?_
        refine px_if_ne (tgt := 29) dX3_readOrder_24 (by decide) (fun h24 => ?_) (fun h24 => (by first | exact absurd (hmn) h24 | exact absurd h24 (hmn)))
        refine px_aload_0 dX3_readOrder_29 ?_
        refine px_dup dX3_readOrder_30 rfl ?_
        refine gf_X3_9 rfl dX3_readOrder_31 (by first | assumption | exact pa_a hp | exact pa_r hp | exact pa_c hp | exact hr.1 | exact hr.2) ?_
        rw [px_up_nj (by decide), hs]
        refine px_iconst (1) dX3_readOrder_34 rfl ?_
        refine px_iadd dX3_readOrder_35 ?_
        rw [nI_1]
        refine pf_X3_9 rfl dX3_readOrder_36 (by first | assumption | exact pa_a hp | exact pa_r hp | exact pa_c hp | exact hr.1 | exact hr.2) ?_
        refine px_aload_0 dX3_readOrder_39 ?_
        refine cg_X3_54 rfl ⟨⟨Nat.le_of_ble_eq_true rfl, Nat.le_of_ble_eq_true rfl⟩, Nat.le_of_ble_eq_true rfl, Nat.le_of_ble_eq_true rfl, Nat.le_of_ble_eq_true rfl⟩ (by first | assumption | exact pa_a hp | exact pa_r hp | exact pa_c hp | exact hr.1 | exact hr.2) dX3_readOrder_40 (hsub) ?_
        rintro v μ' ⟨I2, rfl, k1, k2, rfl, k3, k4⟩
        refine px_ifb_eq (tgt := 61) dX3_readOrder_43 (by decide) (fun h43 => ?_) (fun h43 => (by first | exact absurd ((by rw [hb]; exact Bool.false_ne_true)) h43 | exact absurd h43 ((by rw [hb]; exact Bool.false_ne_true))))
        refine px_iconst (0) dX3_readOrder_61 rfl ?_
        refine px_zret dX3_readOrder_62 (by first | rfl | exact px_nb _) ?_
        exact ⟨rfl, I2, rfl, fun b hb => (k1 b hb).trans (hI1 b hb), k3, fun z => absurd z Bool.false_ne_true⟩
      · generalize hgb : q_snd p c (q_fst p c (s + 1)).2.1 = gb at *
        by_cases he : q_ch p gb.2.1 = f_btw c
        · have hel := ch_lt he (btw_n0 c)
          cases hd : (q_num p (gb.2.1 + 1)).1
          · have ho : q_ord p s = (false, (q_num p (gb.2.1 + 1)).2.1, 0, 0, 0, 0) := by simp [q_ord, hcc, hl, ha, hgb, hb, show q_tk p gb.2.1 (f_btw c) (f_btw c) = (true, gb.2.1 + 1, q_ch p gb.2.1) from if_pos (rg_self.mpr he), hd]
            rw [ho]
            refine px_aload_0 dX3_readOrder_0 ?_
            refine px_aload_0 dX3_readOrder_1 ?_
            refine gf_X3_30 rfl dX3_readOrder_2 (by first | assumption | exact pa_a hp | exact pa_r hp | exact pa_c hp | exact hr.1 | exact hr.2) (by first | assumption | exact pa_a hp | exact pa_r hp | exact pa_c hp | exact hr.1 | exact hr.2) ?_
            refine px_aload_0 dX3_readOrder_5 ?_
            refine gf_X3_9 rfl dX3_readOrder_6 (by first | assumption | exact pa_a hp | exact pa_r hp | exact pa_c hp | exact hr.1 | exact hr.2) ?_
            refine cd_X3_47 rfl ⟨⟨Nat.le_of_ble_eq_true rfl, Nat.le_of_ble_eq_true rfl⟩, Nat.le_of_ble_eq_true rfl, Nat.le_of_ble_eq_true rfl, Nat.le_of_ble_eq_true rfl⟩ (by first | assumption | exact pa_a hp | exact pa_r hp | exact pa_c hp | exact hr.1 | exact hr.2) dX3_readOrder_9 (s_X2_codeAt hp hc hs (by omega)) ?_
            rw [hcc]
            refine pf_X3_15 rfl dX3_readOrder_12 (by first | assumption | exact pa_a hp | exact pa_r hp | exact pa_c hp | exact hr.1 | exact hr.2) ?_
            refine px_aload_0 dX3_readOrder_15 ?_
            refine gf_X3_15 rfl dX3_readOrder_16 (by first | assumption | exact pa_a hp | exact pa_r hp | exact pa_c hp | exact hr.1 | exact hr.2) ?_
            rw [px_up_self]
            refine cd_X3_51 rfl ⟨⟨Nat.le_of_ble_eq_true rfl, Nat.le_of_ble_eq_true rfl⟩, Nat.le_of_ble_eq_true rfl, Nat.le_of_ble_eq_true rfl, Nat.le_of_ble_eq_true rfl⟩ dX3_readOrder_19 (s_X3_markOf) ?_
            refine px_istore_1 dX3_readOrder_22 rfl ?_
            refine px_iload_1 dX3_readOrder_23 ?_
            refine px_if_ne (tgt := 29) dX3_readOrder_24 (by decide) (fun h24 => ?_) (fun h24 => (by first | exact absurd (hmn) h24 | exact absurd h24 (hmn)))
            refine px_aload_0 dX3_readOrder_29 ?_
            refine px_dup dX3_readOrder_30 rfl ?_
            refine gf_X3_9 rfl dX3_readOrder_31 (by first | assumption | exact pa_a hp | exact pa_r hp | exact pa_c hp | exact hr.1 | exact hr.2) ?_
            rw [px_up_nj (by decide), hs]
            refine px_iconst (1) dX3_readOrder_34 rfl ?_
            refine px_iadd dX3_readOrder_35 ?_
            rw [nI_1]
            refine pf_X3_9 rfl dX3_readOrder_36 (by first | assumption | exact pa_a hp | exact pa_r hp | exact pa_c hp | exact hr.1 | exact hr.2) ?_
            refine px_aload_0 dX3_readOrder_39 ?_
            refine cg_X3_54 rfl ⟨⟨Nat.le_of_ble_eq_true rfl, Nat.le_of_ble_eq_true rfl⟩, Nat.le_of_ble_eq_true rfl, Nat.le_of_ble_eq_true rfl, Nat.le_of_ble_eq_true rfl⟩ (by first | assumption | exact pa_a hp | exact pa_r hp | exact pa_c hp | exact hr.1 | exact hr.2) dX3_readOrder_40 (hsub) ?_
            rintro v μ' ⟨I2, rfl, k1, k2, rfl, k3, k4⟩; have k5 := fun b hb => (k1 b hb).trans (hI1 b hb); have he2 : q_ch p gb.2.1 = f_mark c := he.trans hmk.symm; have hsg := s_X3_readSign (l := l) (J := J) (c := f_mark c) hr hp (hcp _ k5) k3 (by omega); rw [if_pos (c := q_ch p gb.2.1 = f_mark c) (t := px_up I2 r 1 (nI (gb.2.1 + 1))) he2] at hsg; have hn := s_X3_readNumber (l := l) (J := J) (s := gb.2.1 + 1) (I := px_up I2 r 1 (nI (gb.2.1 + 1))) hr hp (hcp _ (fun b hb => by rw [px_up_ne hb]; exact k5 b hb)) (px_up_self _ _ _ _) hel hra; unfold px_Qb at hn; rw [hd] at hn
            refine px_ifb_eq (tgt := 61) dX3_readOrder_43 (by decide) (fun h43 => (by first | exact absurd h43 (hb) | exact absurd (hb) h43)) (fun h43 => ?_)
            refine px_aload_0 dX3_readOrder_46 ?_
            refine px_iload_1 dX3_readOrder_47 ?_
            refine cd_X3_43 rfl ⟨⟨Nat.le_of_ble_eq_true rfl, Nat.le_of_ble_eq_true rfl⟩, Nat.le_of_ble_eq_true rfl, Nat.le_of_ble_eq_true rfl, Nat.le_of_ble_eq_true rfl⟩ (by first | assumption | exact pa_a hp | exact pa_r hp | exact pa_c hp | exact hr.1 | exact hr.2) dX3_readOrder_48 (hsg) ?_
            refine px_ifb_eq (tgt := 61) dX3_readOrder_51 (by decide) (fun h51 => (by first | exact absurd h51 (he2) | exact absurd (he2) h51)) (fun h51 => ?_)
            refine px_aload_0 dX3_readOrder_54 ?_
            refine cg_X3_57 rfl ⟨⟨Nat.le_of_ble_eq_true rfl, Nat.le_of_ble_eq_true rfl⟩, Nat.le_of_ble_eq_true rfl, Nat.le_of_ble_eq_true rfl, Nat.le_of_ble_eq_true rfl⟩ (by first | assumption | exact pa_a hp | exact pa_r hp | exact pa_c hp | exact hr.1 | exact hr.2) dX3_readOrder_55 (hn) ?_
            rintro v μ' ⟨rfl, I3, rfl, j1, j2, j3⟩
            refine px_ifb_ne (tgt := 63) dX3_readOrder_58 (by decide) (fun h58 => (by first | exact absurd h58 (Bool.false_ne_true) | exact absurd (Bool.false_ne_true) h58)) (fun h58 => ?_)
            refine px_iconst (0) dX3_readOrder_61 rfl ?_
            refine px_zret dX3_readOrder_62 (by first | rfl | exact px_nb _) ?_
            exact ⟨rfl, I3, rfl, fun b hb => by rw [j1.1 b hb, px_up_ne hb]; exact k5 b hb, j2, fun z => absurd z Bool.false_ne_true⟩
          · have ho : q_ord p s = (true, (q_num p (gb.2.1 + 1)).2.1, c, (q_fst p c (s + 1)).2.2, gb.2.2, (q_num p (gb.2.1 + 1)).2.2) := by simp [q_ord, hcc, hl, ha, hgb, hb, show q_tk p gb.2.1 (f_btw c) (f_btw c) = (true, gb.2.1 + 1, q_ch p gb.2.1) from if_pos (rg_self.mpr he), hd]
            rw [ho]
            refine px_aload_0 dX3_readOrder_0 ?_
            refine px_aload_0 dX3_readOrder_1 ?_
            refine gf_X3_30 rfl dX3_readOrder_2 (by first | assumption | exact pa_a hp | exact pa_r hp | exact pa_c hp | exact hr.1 | exact hr.2) (by first | assumption | exact pa_a hp | exact pa_r hp | exact pa_c hp | exact hr.1 | exact hr.2) ?_
            refine px_aload_0 dX3_readOrder_5 ?_
            refine gf_X3_9 rfl dX3_readOrder_6 (by first | assumption | exact pa_a hp | exact pa_r hp | exact pa_c hp | exact hr.1 | exact hr.2) ?_
            refine cd_X3_47 rfl ⟨⟨Nat.le_of_ble_eq_true rfl, Nat.le_of_ble_eq_true rfl⟩, Nat.le_of_ble_eq_true rfl, Nat.le_of_ble_eq_true rfl, Nat.le_of_ble_eq_true rfl⟩ (by first | assumption | exact pa_a hp | exact pa_r hp | exact pa_c hp | exact hr.1 | exact hr.2) dX3_readOrder_9 (s_X2_codeAt hp hc hs (by omega)) ?_
            rw [hcc]
            refine pf_X3_15 rfl dX3_readOrder_12 (by first | assumption | exact pa_a hp | exact pa_r hp | exact pa_c hp | exact hr.1 | exact hr.2) ?_
            refine px_aload_0 dX3_readOrder_15 ?_
            refine gf_X3_15 rfl dX3_readOrder_16 (by first | assumption | exact pa_a hp | exact pa_r hp | exact pa_c hp | exact hr.1 | exact hr.2) ?_
            rw [px_up_self]
            refine cd_X3_51 rfl ⟨⟨Nat.le_of_ble_eq_true rfl, Nat.le_of_ble_eq_true rfl⟩, Nat.le_of_ble_eq_true rfl, Nat.le_of_ble_eq_true rfl, Nat.le_of_ble_eq_true rfl⟩ dX3_readOrder_19 (s_X3_markOf) ?_
            refine px_istore_1 dX3_readOrder_22 rfl ?_
            refine px_iload_1 dX3_readOrder_23 ?_
            refine px_if_ne (tgt := 29) dX3_readOrder_24 (by decide) (fun h24 => ?_) (fun h24 => (by first | exact absurd (hmn) h24 | exact absurd h24 (hmn)))
            refine px_aload_0 dX3_readOrder_29 ?_
            refine px_dup dX3_readOrder_30 rfl ?_
            refine gf_X3_9 rfl dX3_readOrder_31 (by first | assumption | exact pa_a hp | exact pa_r hp | exact pa_c hp | exact hr.1 | exact hr.2) ?_
            rw [px_up_nj (by decide), hs]
            refine px_iconst (1) dX3_readOrder_34 rfl ?_
            refine px_iadd dX3_readOrder_35 ?_
            rw [nI_1]
            refine pf_X3_9 rfl dX3_readOrder_36 (by first | assumption | exact pa_a hp | exact pa_r hp | exact pa_c hp | exact hr.1 | exact hr.2) ?_
            refine px_aload_0 dX3_readOrder_39 ?_
            refine cg_X3_54 rfl ⟨⟨Nat.le_of_ble_eq_true rfl, Nat.le_of_ble_eq_true rfl⟩, Nat.le_of_ble_eq_true rfl, Nat.le_of_ble_eq_true rfl, Nat.le_of_ble_eq_true rfl⟩ (by first | assumption | exact pa_a hp | exact pa_r hp | exact pa_c hp | exact hr.1 | exact hr.2) dX3_readOrder_40 (hsub) ?_
            rintro v μ' ⟨I2, rfl, k1, k2, rfl, k3, k4⟩; have k5 := fun b hb => (k1 b hb).trans (hI1 b hb); have he2 : q_ch p gb.2.1 = f_mark c := he.trans hmk.symm; have hsg := s_X3_readSign (l := l) (J := J) (c := f_mark c) hr hp (hcp _ k5) k3 (by omega); rw [if_pos (c := q_ch p gb.2.1 = f_mark c) (t := px_up I2 r 1 (nI (gb.2.1 + 1))) he2] at hsg; have hn := s_X3_readNumber (l := l) (J := J) (s := gb.2.1 + 1) (I := px_up I2 r 1 (nI (gb.2.1 + 1))) hr hp (hcp _ (fun b hb => by rw [px_up_ne hb]; exact k5 b hb)) (px_up_self _ _ _ _) hel hra; unfold px_Qb at hn; rw [hd] at hn
            refine px_ifb_eq (tgt := 61) dX3_readOrder_43 (by decide) (fun h43 => (by first | exact absurd h43 (hb) | exact absurd (hb) h43)) (fun h43 => ?_)
            refine px_aload_0 dX3_readOrder_46 ?_
            refine px_iload_1 dX3_readOrder_47 ?_
            refine cd_X3_43 rfl ⟨⟨Nat.le_of_ble_eq_true rfl, Nat.le_of_ble_eq_true rfl⟩, Nat.le_of_ble_eq_true rfl, Nat.le_of_ble_eq_true rfl, Nat.le_of_ble_eq_true rfl⟩ (by first | assumption | exact pa_a hp | exact pa_r hp | exact pa_c hp | exact hr.1 | exact hr.2) dX3_readOrder_48 (hsg) ?_
            refine px_ifb_eq (tgt := 61) dX3_readOrder_51 (by decide) (fun h51 => (by first | exact absurd h51 (he2) | exact absurd (he2) h51)) (fun h51 => ?_)
            refine px_aload_0 dX3_readOrder_54 ?_
            refine cg_X3_57 rfl ⟨⟨Nat.le_of_ble_eq_true rfl, Nat.le_of_ble_eq_true rfl⟩, Nat.le_of_ble_eq_true rfl, Nat.le_of_ble_eq_true rfl, Nat.le_of_ble_eq_true rfl⟩ (by first | assumption | exact pa_a hp | exact pa_r hp | exact pa_c hp | exact hr.1 | exact hr.2) dX3_readOrder_55 (hn) ?_
            rintro v μ' ⟨rfl, I3, rfl, j1, j2, j3⟩
            refine px_ifb_ne (tgt := 63) dX3_readOrder_58 (by decide) (fun h58 => ?_) (fun h58 => (by first | exact absurd (rfl) h58 | exact absurd h58 (rfl)))
            refine px_aload_0 dX3_readOrder_63 ?_
            refine px_aload_0 dX3_readOrder_64 ?_
            refine gf_X3_27 rfl dX3_readOrder_65 (by first | assumption | exact pa_a hp | exact pa_r hp | exact pa_c hp | exact hr.1 | exact hr.2) ?_
            refine pf_X3_24 rfl dX3_readOrder_68 (by first | assumption | exact pa_a hp | exact pa_r hp | exact pa_c hp | exact hr.1 | exact hr.2) ?_
            refine px_iconst (1) dX3_readOrder_71 rfl ?_
            refine px_zret dX3_readOrder_72 (by first | rfl | exact px_nb _) ?_
            skip
            obtain ⟨k6, k7⟩ := k4 hb
            refine ⟨rfl, _, rfl, fun b hb => by rw [px_up_ne hb, j1.1 b hb, px_up_ne hb]; exact k5 b hb, by rw [px_up_nj (by decide)]; exact j2, fun _ => ⟨?_, ?_, fun z => ?_, ?_⟩⟩
            · rw [px_up_nj (by decide), j1.2 2 (by decide) (by decide), px_up_nj (by decide)]; exact k2
            · rw [px_up_nj (by decide), j1.2 3 (by decide) (by decide), px_up_nj (by decide)]; exact k6
            · rw [px_up_nj (by decide), j1.2 4 (by decide) (by decide), px_up_nj (by decide)]; exact k7 z
            · rw [px_up_self]; exact j3 rfl
        · have ho : q_ord p s = (false, gb.2.1, 0, 0, 0, 0) := by simp [q_ord, hcc, hl, ha, hgb, hb, show q_tk p gb.2.1 (f_btw c) (f_btw c) = (false, gb.2.1, 0) from if_neg (fun q => he (rg_self.mp q))]
          rw [ho]
          refine px_aload_0 dX3_readOrder_0 ?_
          refine px_aload_0 dX3_readOrder_1 ?_
          refine gf_X3_30 rfl dX3_readOrder_2 (by first | assumption | exact pa_a hp | exact pa_r hp | exact pa_c hp | exact hr.1 | exact hr.2) (by first | assumption | exact pa_a hp | exact pa_r hp | exact pa_c hp | exact hr.1 | exact hr.2) ?_
          refine px_aload_0 dX3_readOrder_5 ?_
          refine gf_X3_9 rfl dX3_readOrder_6 (by first | assumption | exact pa_a hp | exact pa_r hp | exact pa_c hp | exact hr.1 | exact hr.2) ?_
          refine cd_X3_47 rfl ⟨⟨Nat.le_of_ble_eq_true rfl, Nat.le_of_ble_eq_true rfl⟩, Nat.le_of_ble_eq_true rfl, Nat.le_of_ble_eq_true rfl, Nat.le_of_ble_eq_true rfl⟩ (by first | assumption | exact pa_a hp | exact pa_r hp | exact pa_c hp | exact hr.1 | exact hr.2) dX3_readOrder_9 (s_X2_codeAt hp hc hs (by omega)) ?_
          rw [hcc]
          refine pf_X3_15 rfl dX3_readOrder_12 (by first | assumption | exact pa_a hp | exact pa_r hp | exact pa_c hp | exact hr.1 | exact hr.2) ?_
          refine px_aload_0 dX3_readOrder_15 ?_
          refine gf_X3_15 rfl dX3_readOrder_16 (by first | assumption | exact pa_a hp | exact pa_r hp | exact pa_c hp | exact hr.1 | exact hr.2) ?_
          rw [px_up_self]
          refine cd_X3_51 rfl ⟨⟨Nat.le_of_ble_eq_true rfl, Nat.le_of_ble_eq_true rfl⟩, Nat.le_of_ble_eq_true rfl, Nat.le_of_ble_eq_true rfl, Nat.le_of_ble_eq_true rfl⟩ dX3_readOrder_19 (s_X3_markOf) ?_
          refine px_istore_1 dX3_readOrder_22 rfl ?_
          refine px_iload_1 dX3_readOrder_23 ?_
          refine px_if_ne (tgt := 29) dX3_readOrder_24 (by decide) (fun h24 => ?_) (fun h24 => (by first | exact absurd (hmn) h24 | exact absurd h24 (hmn)))
          refine px_aload_0 dX3_readOrder_29 ?_
          refine px_dup dX3_readOrder_30 rfl ?_
          refine gf_X3_9 rfl dX3_readOrder_31 (by first | assumption | exact pa_a hp | exact pa_r hp | exact pa_c hp | exact hr.1 | exact hr.2) ?_
          rw [px_up_nj (by decide), hs]
          refine px_iconst (1) dX3_readOrder_34 rfl ?_
          refine px_iadd dX3_readOrder_35 ?_
          rw [nI_1]
          refine pf_X3_9 rfl dX3_readOrder_36 (by first | assumption | exact pa_a hp | exact pa_r hp | exact pa_c hp | exact hr.1 | exact hr.2) ?_
          refine px_aload_0 dX3_readOrder_39 ?_
          refine cg_X3_54 rfl ⟨⟨Nat.le_of_ble_eq_true rfl, Nat.le_of_ble_eq_true rfl⟩, Nat.le_of_ble_eq_true rfl, Nat.le_of_ble_eq_true rfl, Nat.le_of_ble_eq_true rfl⟩ (by first | assumption | exact pa_a hp | exact pa_r hp | exact pa_c hp | exact hr.1 | exact hr.2) dX3_readOrder_40 (hsub) ?_
          rintro v μ' ⟨I2, rfl, k1, k2, rfl, k3, k4⟩; have k5 := fun b hb => (k1 b hb).trans (hI1 b hb); have he2 : ¬ q_ch p gb.2.1 = f_mark c := fun z => he (z.trans hmk); have hsg := s_X3_readSign (l := l) (J := J) (c := f_mark c) hr hp (hcp _ k5) k3 (by omega); rw [if_neg (c := q_ch p gb.2.1 = f_mark c) (t := px_up I2 r 1 (nI (gb.2.1 + 1))) he2] at hsg
          refine px_ifb_eq (tgt := 61) dX3_readOrder_43 (by decide) (fun h43 => (by first | exact absurd h43 (hb) | exact absurd (hb) h43)) (fun h43 => ?_)
          refine px_aload_0 dX3_readOrder_46 ?_
          refine px_iload_1 dX3_readOrder_47 ?_
          refine cd_X3_43 rfl ⟨⟨Nat.le_of_ble_eq_true rfl, Nat.le_of_ble_eq_true rfl⟩, Nat.le_of_ble_eq_true rfl, Nat.le_of_ble_eq_true rfl, Nat.le_of_ble_eq_true rfl⟩ (by first | assumption | exact pa_a hp | exact pa_r hp | exact pa_c hp | exact hr.1 | exact hr.2) dX3_readOrder_48 (hsg) ?_
          refine px_ifb_eq (tgt := 61) dX3_readOrder_51 (by decide) (fun h51 => ?_) (fun h51 => (by first | exact absurd (he2) h51 | exact absurd h51 (he2)))
          refine px_iconst (0) dX3_readOrder_61 rfl ?_
          refine px_zret dX3_readOrder_62 (by first | rfl | exact px_nb _) ?_
          exact ⟨rfl, I2, rfl, k5, k3, fun z => absurd z Bool.false_ne_true⟩
  · have hmk : f_mark c = 0 := if_neg hl
    have ho : q_ord p s = (false, s, 0, 0, 0, 0) := by simp [q_ord, hcc, hl]
    rw [ho]
    refine px_aload_0 dX3_readOrder_0 ?_
    refine px_aload_0 dX3_readOrder_1 ?_
    refine gf_X3_30 rfl dX3_readOrder_2 (by first | assumption | exact pa_a hp | exact pa_r hp | exact pa_c hp | exact hr.1 | exact hr.2) (by first | assumption | exact pa_a hp | exact pa_r hp | exact pa_c hp | exact hr.1 | exact hr.2) ?_
    refine px_aload_0 dX3_readOrder_5 ?_
    refine gf_X3_9 rfl dX3_readOrder_6 (by first | assumption | exact pa_a hp | exact pa_r hp | exact pa_c hp | exact hr.1 | exact hr.2) ?_
    refine cd_X3_47 rfl ⟨⟨Nat.le_of_ble_eq_true rfl, Nat.le_of_ble_eq_true rfl⟩, Nat.le_of_ble_eq_true rfl, Nat.le_of_ble_eq_true rfl, Nat.le_of_ble_eq_true rfl⟩ (by first | assumption | exact pa_a hp | exact pa_r hp | exact pa_c hp | exact hr.1 | exact hr.2) dX3_readOrder_9 (s_X2_codeAt hp hc hs (by omega)) ?_
    rw [hcc]
    refine pf_X3_15 rfl dX3_readOrder_12 (by first | assumption | exact pa_a hp | exact pa_r hp | exact pa_c hp | exact hr.1 | exact hr.2) ?_
    refine px_aload_0 dX3_readOrder_15 ?_
    refine gf_X3_15 rfl dX3_readOrder_16 (by first | assumption | exact pa_a hp | exact pa_r hp | exact pa_c hp | exact hr.1 | exact hr.2) ?_
    rw [px_up_self]
    refine cd_X3_51 rfl ⟨⟨Nat.le_of_ble_eq_true rfl, Nat.le_of_ble_eq_true rfl⟩, Nat.le_of_ble_eq_true rfl, Nat.le_of_ble_eq_true rfl, Nat.le_of_ble_eq_true rfl⟩ dX3_readOrder_19 (s_X3_markOf) ?_
    refine px_istore_1 dX3_readOrder_22 rfl ?_
    refine px_iload_1 dX3_readOrder_23 ?_
    refine px_if_ne (tgt := 29) dX3_readOrder_24 (by decide) (fun h24 => (by first | exact absurd h24 (hmk) | exact absurd (hmk) h24)) (fun h24 => ?_)
    refine px_iconst (0) dX3_readOrder_27 rfl ?_
    refine px_zret dX3_readOrder_28 (by first | rfl | exact px_nb _) ?_
    exact ⟨rfl, _, rfl, fun b hb => px_up_ne hb, by rw [px_up_nj (by decide)]; exact hs, fun z => absurd z Bool.false_ne_true⟩
def px_Qf (T : px_T) (I : px_I) (J : px_J) (R : px_R) (r : Nat) (w : Value) : Option Value → px_M → Prop := fun v μ' => v = some w ∧ ∃ I' : px_I, μ' = (T, I', J, R) ∧ ∀ b, b ≠ r → I' b = I b
theorem s_X3_findFault (hr : px_re G T R r a) (hp : px_pa G T R a) (hc : px_cp I a p) (hra : r ≠ a ∧ r ≠ a + 1) : px_C l G 7 0 0 mX3_findFault [.ref r] (T, I, J, R) (px_Qf T I J R r (.int (f_flt p))) := by
  have h80 := hc.2.1
  refine px_met (M := mX3_findFault) ([some (.ref r), none]) (by decide +kernel) rfl (Nat.le_of_ble_eq_true rfl) rfl ?_
  generalize hQ : px_Qf T I J R r (.int (f_flt p)) = Q
  have hcp : ∀ I1 : px_I, (∀ b, b ≠ r → I1 b = I b) → px_cp I1 a p := fun I1 g => cp_congr hc (g _ (Ne.symm hra.1)) (g _ (Ne.symm hra.2))
  have L : ∀ k s (I1 : px_I), k ≤ 81 → s ≤ p.1 → p.1 < s + k → (∀ b, b ≠ r → I1 b = I b) → I1 r 1 = nI s → (match q_go p k s with | none => -6 | some z => nI z) = f_flt p → (px_W l G yX3_findFault cX3_findFault 2 (some .int) (px_rm 7 0 0) (px_Fn G Q 0 0) 7 [some (.ref r), some (.int (nI (81 - k)))] [] 0 0 (T, I1, J, R)) := by
    intro k
    induction k with
    | zero => intro s I1 _ h1 h2; exact absurd h2 (by omega)
    | succ k ih =>
      intro s I1 hk hs hlt g1 g2 hf
      have hnk : ¬ (80 : Int32) < nI (81 - (k + 1)) := nI_nlt (a := 80) (by omega) (by omega)
      have hle := ord_le (p := p) hs
      have ho := s_X3_readOrder (l := l) (J := J) hr hp (hcp I1 g1) g2 hs hra
      cases h1 : (q_ord p s).1
      · have hg : q_go p (k + 1) s = some (q_ord p s).2.1 := by rw [q_go, if_pos h1]
        rw [hg] at hf
        dsimp only at hf
        unfold px_Qq at ho
        rw [h1] at ho
        refine px_iload_1 dX3_findFault_7 ?_
        refine px_bipush (80) dX3_findFault_8 rfl ?_
        refine px_icmp_gt (tgt := 62) dX3_findFault_10 (by decide) (fun h10 => (by first | exact absurd h10 (hnk) | exact absurd (hnk) h10)) (fun h10 => ?_)
        refine px_aload_0 dX3_findFault_13 ?_
        refine cg_X3_34 rfl ⟨⟨Nat.le_of_ble_eq_true rfl, Nat.le_of_ble_eq_true rfl⟩, Nat.le_of_ble_eq_true rfl, Nat.le_of_ble_eq_true rfl, Nat.le_of_ble_eq_true rfl⟩ (by first | assumption | exact pa_a hp | exact pa_r hp | exact pa_c hp | exact hr.1 | exact hr.2) dX3_findFault_14 (ho) ?_
        rintro v μ' ⟨rfl, I2, rfl, k1, k2, k3⟩
        refine px_ifb_ne (tgt := 25) dX3_findFault_17 (by decide) (fun h17 => (by first | exact absurd h17 (Bool.false_ne_true) | exact absurd (Bool.false_ne_true) h17)) (fun h17 => ?_)
        refine px_aload_0 dX3_findFault_20 ?_
        refine gf_X3_9 rfl dX3_findFault_21 (by first | assumption | exact pa_a hp | exact pa_r hp | exact pa_c hp | exact hr.1 | exact hr.2) ?_
        rw [k2]
        refine px_iret dX3_findFault_24 ?_
        subst hQ; rw [← hf]; exact ⟨rfl, I2, rfl, fun b hb => (k1 b hb).trans (g1 b hb)⟩
      · have hgt := ord_gt h1
        unfold px_Qq at ho
        rw [h1] at ho
        by_cases hl : (q_ord p s).2.1 < p.1
        · have hne : ¬ nI (q_ord p s).2.1 = nI p.1 := by rw [nI_eq (by omega) (by omega)]; omega
          by_cases h59 : q_ch p (q_ord p s).2.1 = 59
          · have hg : q_go p (k + 1) s = q_go p k ((q_ord p s).2.1 + 1) := by rw [q_go, if_neg (by rw [h1]; decide), if_pos hl, if_pos h59]
            rw [hg] at hf
            refine px_iload_1 dX3_findFault_7 ?_
            refine px_bipush (80) dX3_findFault_8 rfl ?_
            refine px_icmp_gt (tgt := 62) dX3_findFault_10 (by decide) (fun h10 => (by first | exact absurd h10 (hnk) | exact absurd (hnk) h10)) (fun h10 => ?_)
            refine px_aload_0 dX3_findFault_13 ?_
            refine cg_X3_34 rfl ⟨⟨Nat.le_of_ble_eq_true rfl, Nat.le_of_ble_eq_true rfl⟩, Nat.le_of_ble_eq_true rfl, Nat.le_of_ble_eq_true rfl, Nat.le_of_ble_eq_true rfl⟩ (by first | assumption | exact pa_a hp | exact pa_r hp | exact pa_c hp | exact hr.1 | exact hr.2) dX3_findFault_14 (ho) ?_
            rintro v μ' ⟨rfl, I2, rfl, k1, k2, k3⟩; have k5 := fun b hb => (k1 b hb).trans (g1 b hb); have hcp2 := hcp I2 k5; have hsg := s_X3_readSign (l := l) (J := J) (c := 59) hr hp hcp2 k2 (by omega); rw [if_pos (c := q_ch p (q_ord p s).2.1 = 59) (t := px_up I2 r 1 (nI ((q_ord p s).2.1 + 1))) h59] at hsg
            refine px_ifb_ne (tgt := 25) dX3_findFault_17 (by decide) (fun h17 => ?_) (fun h17 => (by first | exact absurd (rfl) h17 | exact absurd h17 (rfl)))
            refine px_aload_0 dX3_findFault_25 ?_
            refine gf_X3_9 rfl dX3_findFault_26 (by first | assumption | exact pa_a hp | exact pa_r hp | exact pa_c hp | exact hr.1 | exact hr.2) ?_
            rw [k2]
            refine px_aload_0 dX3_findFault_29 ?_
            refine gf_X3_30 rfl dX3_findFault_30 (by first | assumption | exact pa_a hp | exact pa_r hp | exact pa_c hp | exact hr.1 | exact hr.2) (by first | assumption | exact pa_a hp | exact pa_r hp | exact pa_c hp | exact hr.1 | exact hr.2) ?_
            refine gf_X3_38 rfl dX3_findFault_33 (by first | assumption | exact pa_a hp | exact pa_r hp | exact pa_c hp | exact hr.1 | exact hr.2) ?_
            rw [hcp2.1]
            refine px_icmp_ne (tgt := 42) dX3_findFault_36 (by decide) (fun h36 => ?_) (fun h36 => (by first | exact absurd (hne) h36 | exact absurd h36 (hne)))
            refine px_aload_0 dX3_findFault_42 ?_
            refine px_bipush (59) dX3_findFault_43 rfl ?_
            refine cd_X3_43 rfl ⟨⟨Nat.le_of_ble_eq_true rfl, Nat.le_of_ble_eq_true rfl⟩, Nat.le_of_ble_eq_true rfl, Nat.le_of_ble_eq_true rfl, Nat.le_of_ble_eq_true rfl⟩ (by first | assumption | exact pa_a hp | exact pa_r hp | exact pa_c hp | exact hr.1 | exact hr.2) dX3_findFault_45 (hsg) ?_
            refine px_ifb_ne (tgt := 56) dX3_findFault_48 (by decide) (fun h48 => ?_) (fun h48 => (by first | exact absurd (h59) h48 | exact absurd h48 (h59)))
            refine px_iinc_1 dX3_findFault_56 rfl ?_
            refine px_goto (tgt := 7) dX3_findFault_59 (by decide) ?_
            rw [inc_nI, show 81 - (k + 1) + 1 = 81 - k by omega]; exact ih _ _ (by omega) hl (by omega) (fun b hb => by rw [px_up_ne hb]; exact k5 b hb) (px_up_self _ _ _ _) hf
          · have hg : q_go p (k + 1) s = some (q_ord p s).2.1 := by rw [q_go, if_neg (by rw [h1]; decide), if_pos hl, if_neg h59]
            rw [hg] at hf
            dsimp only at hf
            refine px_iload_1 dX3_findFault_7 ?_
            refine px_bipush (80) dX3_findFault_8 rfl ?_
            refine px_icmp_gt (tgt := 62) dX3_findFault_10 (by decide) (fun h10 => (by first | exact absurd h10 (hnk) | exact absurd (hnk) h10)) (fun h10 => ?_)
            refine px_aload_0 dX3_findFault_13 ?_
            refine cg_X3_34 rfl ⟨⟨Nat.le_of_ble_eq_true rfl, Nat.le_of_ble_eq_true rfl⟩, Nat.le_of_ble_eq_true rfl, Nat.le_of_ble_eq_true rfl, Nat.le_of_ble_eq_true rfl⟩ (by first | assumption | exact pa_a hp | exact pa_r hp | exact pa_c hp | exact hr.1 | exact hr.2) dX3_findFault_14 (ho) ?_
            rintro v μ' ⟨rfl, I2, rfl, k1, k2, k3⟩; have k5 := fun b hb => (k1 b hb).trans (g1 b hb); have hcp2 := hcp I2 k5; have hsg := s_X3_readSign (l := l) (J := J) (c := 59) hr hp hcp2 k2 (by omega); rw [if_neg (c := q_ch p (q_ord p s).2.1 = 59) (t := px_up I2 r 1 (nI ((q_ord p s).2.1 + 1))) h59] at hsg
            refine px_ifb_ne (tgt := 25) dX3_findFault_17 (by decide) (fun h17 => ?_) (fun h17 => (by first | exact absurd (rfl) h17 | exact absurd h17 (rfl)))
            refine px_aload_0 dX3_findFault_25 ?_
            refine gf_X3_9 rfl dX3_findFault_26 (by first | assumption | exact pa_a hp | exact pa_r hp | exact pa_c hp | exact hr.1 | exact hr.2) ?_
            rw [k2]
            refine px_aload_0 dX3_findFault_29 ?_
            refine gf_X3_30 rfl dX3_findFault_30 (by first | assumption | exact pa_a hp | exact pa_r hp | exact pa_c hp | exact hr.1 | exact hr.2) (by first | assumption | exact pa_a hp | exact pa_r hp | exact pa_c hp | exact hr.1 | exact hr.2) ?_
            refine gf_X3_38 rfl dX3_findFault_33 (by first | assumption | exact pa_a hp | exact pa_r hp | exact pa_c hp | exact hr.1 | exact hr.2) ?_
            rw [hcp2.1]
            refine px_icmp_ne (tgt := 42) dX3_findFault_36 (by decide) (fun h36 => ?_) (fun h36 => (by first | exact absurd (hne) h36 | exact absurd h36 (hne)))
            refine px_aload_0 dX3_findFault_42 ?_
            refine px_bipush (59) dX3_findFault_43 rfl ?_
            refine cd_X3_43 rfl ⟨⟨Nat.le_of_ble_eq_true rfl, Nat.le_of_ble_eq_true rfl⟩, Nat.le_of_ble_eq_true rfl, Nat.le_of_ble_eq_true rfl, Nat.le_of_ble_eq_true rfl⟩ (by first | assumption | exact pa_a hp | exact pa_r hp | exact pa_c hp | exact hr.1 | exact hr.2) dX3_findFault_45 (hsg) ?_
            refine px_ifb_ne (tgt := 56) dX3_findFault_48 (by decide) (fun h48 => (by first | exact absurd h48 (h59) | exact absurd (h59) h48)) (fun h48 => ?_)
            refine px_aload_0 dX3_findFault_51 ?_
            refine gf_X3_9 rfl dX3_findFault_52 (by first | assumption | exact pa_a hp | exact pa_r hp | exact pa_c hp | exact hr.1 | exact hr.2) ?_
            rw [k2]
            refine px_iret dX3_findFault_55 ?_
            subst hQ; rw [← hf]; exact ⟨rfl, I2, rfl, k5⟩
        · have he : (q_ord p s).2.1 = p.1 := by omega
          have hg : q_go p (k + 1) s = none := by rw [q_go, if_neg (by rw [h1]; decide), if_neg hl]
          rw [hg] at hf
          dsimp only at hf
          refine px_iload_1 dX3_findFault_7 ?_
          refine px_bipush (80) dX3_findFault_8 rfl ?_
          refine px_icmp_gt (tgt := 62) dX3_findFault_10 (by decide) (fun h10 => (by first | exact absurd h10 (hnk) | exact absurd (hnk) h10)) (fun h10 => ?_)
          refine px_aload_0 dX3_findFault_13 ?_
          refine cg_X3_34 rfl ⟨⟨Nat.le_of_ble_eq_true rfl, Nat.le_of_ble_eq_true rfl⟩, Nat.le_of_ble_eq_true rfl, Nat.le_of_ble_eq_true rfl, Nat.le_of_ble_eq_true rfl⟩ (by first | assumption | exact pa_a hp | exact pa_r hp | exact pa_c hp | exact hr.1 | exact hr.2) dX3_findFault_14 (ho) ?_
          rintro v μ' ⟨rfl, I2, rfl, k1, k2, k3⟩; have k5 := fun b hb => (k1 b hb).trans (g1 b hb); have hcp2 := hcp I2 k5
          refine px_ifb_ne (tgt := 25) dX3_findFault_17 (by decide) (fun h17 => ?_) (fun h17 => (by first | exact absurd (rfl) h17 | exact absurd h17 (rfl)))
          refine px_aload_0 dX3_findFault_25 ?_
          refine gf_X3_9 rfl dX3_findFault_26 (by first | assumption | exact pa_a hp | exact pa_r hp | exact pa_c hp | exact hr.1 | exact hr.2) ?_
          rw [k2]
          refine px_aload_0 dX3_findFault_29 ?_
          refine gf_X3_30 rfl dX3_findFault_30 (by first | assumption | exact pa_a hp | exact pa_r hp | exact pa_c hp | exact hr.1 | exact hr.2) (by first | assumption | exact pa_a hp | exact pa_r hp | exact pa_c hp | exact hr.1 | exact hr.2) ?_
          refine gf_X3_38 rfl dX3_findFault_33 (by first | assumption | exact pa_a hp | exact pa_r hp | exact pa_c hp | exact hr.1 | exact hr.2) ?_
          rw [hcp2.1]
          refine px_icmp_ne (tgt := 42) dX3_findFault_36 (by decide) (fun h36 => (by first | exact absurd h36 ((congrArg nI he)) | exact absurd ((congrArg nI he)) h36)) (fun h36 => ?_)
          refine px_bipush (-6) dX3_findFault_39 rfl ?_
          refine px_iret dX3_findFault_41 ?_
          subst hQ; rw [← hf]; exact ⟨rfl, I2, rfl, k5⟩
  refine px_aload_0 dX3_findFault_0 ?_
  refine px_iconst (0) dX3_findFault_1 rfl ?_
  refine pf_X3_9 rfl dX3_findFault_2 (by first | assumption | exact pa_a hp | exact pa_r hp | exact pa_c hp | exact hr.1 | exact hr.2) ?_
  refine px_iconst (0) dX3_findFault_5 rfl ?_
  refine px_istore_1 dX3_findFault_6 rfl ?_
  exact L 81 0 _ (Nat.le_refl _) (Nat.zero_le _) (by omega) (fun b hb => px_up_ne hb) (px_up_self _ _ _ _) rfl
end CR2

