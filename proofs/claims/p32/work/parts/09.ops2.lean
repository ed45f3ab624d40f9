section WP
variable {l : Launch} {G : px_G} {T : px_T} {I : px_I} {J : px_J} {R : px_R} {μ : px_M} {w : Nat} {σ : px_s}
theorem upd_sw {f : px_s} (i j : Nat) {x y : Int32} (h : i ≠ j) : upd (upd f i x) j y = upd (upd f j y) i x := by
  funext k
  simp only [upd]
  by_cases h1 : k = i
  · subst h1
    simp [h]
  · simp [h1]
theorem px_up_nj {α : Type} {f : Nat → Nat → α} {a k j : Nat} {v : α} (h : j ≠ k) : px_up f a k v a j = f a j := by rw [px_up_at, if_neg (fun q => h q.2)]
theorem s_X6_fineOf {c : Nat} (hw : px_wo G T R w) (hA : px_ag I w σ) (hc : c < f_nc σ) (hn : f_nc σ ≤ 6) : px_K l G 1 mX6_fineOf ([.ref w, .ref (w + 19 + c)]) ((T, I, J, R)) (some (.int (f_fine σ c))) ((T, I, J, R)) := by
  refine px_met (M := mX6_fineOf) ([some (.ref w), some (.ref (w + 19 + c))]) (by decide +kernel) rfl (Nat.le_of_ble_eq_true rfl) rfl ?_
  refine px_aload_1 dX6_fineOf_0 ?_
  refine gf_X6_87 rfl dX6_fineOf_1 (by first | assumption | exact wo_a hw | exact wo_r0 hw | exact wo_r1 hw | exact wo_r2 hw | exact wo_r3 hw | exact wo_a1 hw | exact wo_a2 hw | exact wo_a3 hw | exact wo_a4 hw | exact wo_rr hw (by omega) | exact wo_ra hw (by omega) | exact wo_cr hw (by omega) | exact wo_ca hw (by omega)) ?_
  rw [ag_ct hA hc (by decide)]
  refine px_aload_0 dX6_fineOf_4 ?_
  refine gf_X6_9 rfl dX6_fineOf_5 (by first | assumption | exact wo_a hw | exact wo_r0 hw | exact wo_r1 hw | exact wo_r2 hw | exact wo_r3 hw | exact wo_a1 hw | exact wo_a2 hw | exact wo_a3 hw | exact wo_a4 hw | exact wo_rr hw (by omega) | exact wo_ra hw (by omega) | exact wo_cr hw (by omega) | exact wo_ca hw (by omega)) (by first | assumption | exact wo_a hw | exact wo_r0 hw | exact wo_r1 hw | exact wo_r2 hw | exact wo_r3 hw | exact wo_a1 hw | exact wo_a2 hw | exact wo_a3 hw | exact wo_a4 hw | exact wo_rr hw (by omega) | exact wo_ra hw (by omega) | exact wo_cr hw (by omega) | exact wo_ca hw (by omega)) ?_
  refine px_iconst (0) dX6_fineOf_8 rfl ?_
  refine px_ialdN dX6_fineOf_9 (by first | assumption | exact wo_a hw | exact wo_r0 hw | exact wo_r1 hw | exact wo_r2 hw | exact wo_r3 hw | exact wo_a1 hw | exact wo_a2 hw | exact wo_a3 hw | exact wo_a4 hw | exact wo_rr hw (by omega) | exact wo_ra hw (by omega) | exact wo_cr hw (by omega) | exact wo_ca hw (by omega)) (by first | rfl | exact ix_eq (by assumption)) (by first | decide | omega) ?_
  rw [ag_st hA (by decide)]
  refine px_aload_1 dX6_fineOf_10 ?_
  refine gf_X6_84 rfl dX6_fineOf_11 (by first | assumption | exact wo_a hw | exact wo_r0 hw | exact wo_r1 hw | exact wo_r2 hw | exact wo_r3 hw | exact wo_a1 hw | exact wo_a2 hw | exact wo_a3 hw | exact wo_a4 hw | exact wo_rr hw (by omega) | exact wo_ra hw (by omega) | exact wo_cr hw (by omega) | exact wo_ca hw (by omega)) ?_
  rw [ag_ct hA hc (by decide)]
  refine px_imul dX6_fineOf_14 ?_
  refine cl_X6_90 rfl ⟨Nat.le_of_ble_eq_true rfl, Nat.le_of_ble_eq_true rfl, Nat.le_of_ble_eq_true rfl, Nat.le_of_ble_eq_true rfl⟩ dX6_fineOf_15 ?_
  refine px_iret dX6_fineOf_18 ?_
  exact ⟨rfl, rfl⟩
theorem ag_cart (hA : px_ag I w σ) (hV : px_V σ) (h6' : f_nc σ < 6) {a b : Int32} : px_ag (px_up (px_up (px_up (px_up (px_up (px_up (px_up (px_up (px_up (px_up I (w + 19 + f_nc σ) 0 a) (w + 19 + f_nc σ) 1 b) (w + 19 + f_nc σ) 2 0) (w + 19 + f_nc σ) 3 0) (w + 19 + f_nc σ) 4 0) (w + 19 + f_nc σ) 5 0) (w + 19 + f_nc σ) 6 0) (w + 19 + f_nc σ) 7 0) w 5 (σ 93 + 1)) w 10 (σ 150 + b)) w (upd (upd (upd (upd σ (94 + 8 * f_nc σ + 0) a) (94 + 8 * f_nc σ + 1) b) 150 (σ 150 + b)) 93 (σ 93 + 1)) := by
  have hst := hV.2.2.2.2.1
  have en := hV.1.2.2.1
  have h14 := hV.1.2.1
  obtain ⟨h1, h2, h3, h4, h5, h6⟩ := hA
  have hnc : f_nc (upd (upd (upd (upd σ (94 + 8 * f_nc σ + 0) a) (94 + 8 * f_nc σ + 1) b) 150 (σ 150 + b)) 93 (σ 93 + 1)) = f_nc σ + 1 := by
    show ix (upd _ 93 _ 93) = _
    rw [upd_eq rfl, en, nI_succ8 (by omega)]
  have hnr : f_nr (upd (upd (upd (upd σ (94 + 8 * f_nc σ + 0) a) (94 + 8 * f_nc σ + 1) b) 150 (σ 150 + b)) 93 (σ 93 + 1)) = f_nr σ := by
    rw [nr_upd (by omega), nr_upd (by omega), nr_upd (by omega), nr_upd (by omega)]
  generalize f_nc σ = N at *
  refine ⟨fun j' hj' => ?_, fun t ht => ?_, ⟨?_, ?_⟩, ⟨?_, ?_, ?_, ?_, ?_⟩, fun r' hr' j' hj' => ?_, fun c hc j' hj' => ?_⟩
  · simp only [px_up_at, upd]; (repeat (first | rw [if_pos (by omega)] | rw [if_neg (by omega)] | rw [if_pos (by simp; done)] | rw [if_neg (by simp; done)])); exact h1 j' hj'
  · simp only [px_up_at, upd]; (repeat (first | rw [if_pos (by omega)] | rw [if_neg (by omega)] | rw [if_pos (by simp; done)] | rw [if_neg (by simp; done)])); exact h2 t ht
  · simp only [px_up_at, upd]; (repeat (first | rw [if_pos (by omega)] | rw [if_neg (by omega)] | rw [if_pos (by simp; done)] | rw [if_neg (by simp; done)])); exact h3.1
  · rw [px_up_nj (by decide), px_up_self, upd_eq rfl]
  · simp only [px_up_at, upd]; (repeat (first | rw [if_pos (by omega)] | rw [if_neg (by omega)] | rw [if_pos (by simp; done)] | rw [if_neg (by simp; done)])); exact h4.1
  · simp only [px_up_at, upd]; (repeat (first | rw [if_pos (by omega)] | rw [if_neg (by omega)] | rw [if_pos (by simp; done)] | rw [if_neg (by simp; done)])); exact h4.2.1
  · simp only [px_up_at, upd]; (repeat (first | rw [if_pos (by omega)] | rw [if_neg (by omega)] | rw [if_pos (by simp; done)] | rw [if_neg (by simp; done)])); exact h4.2.2.1
  · simp only [px_up_at, upd]; (repeat (first | rw [if_pos (by omega)] | rw [if_neg (by omega)] | rw [if_pos (by simp; done)] | rw [if_neg (by simp; done)])); exact h4.2.2.2.1
  · rw [px_up_self, upd_ne (by decide), upd_eq rfl]
  · rw [hnr] at hr'
    simp only [px_up_at, upd]; (repeat (first | rw [if_pos (by omega)] | rw [if_neg (by omega)] | rw [if_pos (by simp; done)] | rw [if_neg (by simp; done)])); exact h5 r' hr' j' hj'
  · rw [hnc] at hc
    by_cases e : c = N
    · subst e
      have z : ∀ q, q < 8 → σ (94 + 8 * c + q) = 0 := fun q hq => hst c q (Nat.le_refl _) h6' hq
      simp only [px_up_at, upd]
      rcases (by omega : j' = 0 ∨ j' = 1 ∨ j' = 2 ∨ j' = 3 ∨ j' = 4 ∨ j' = 5 ∨ j' = 6 ∨ j' = 7) with rfl | rfl | rfl | rfl | rfl | rfl | rfl | rfl <;> (repeat (first | rw [if_pos (by omega)] | rw [if_neg (by omega)] | rw [if_pos (by simp; done)] | rw [if_neg (by simp; done)]))
      · exact (z 2 (by decide)).symm
      · exact (z 3 (by decide)).symm
      · exact (z 4 (by decide)).symm
      · exact (z 5 (by decide)).symm
      · exact (z 6 (by decide)).symm
      · exact (z 7 (by decide)).symm
    · simp only [px_up_at, upd]; (repeat (first | rw [if_pos (by omega)] | rw [if_neg (by omega)] | rw [if_pos (by simp; done)] | rw [if_neg (by simp; done)])); exact h6 c (by omega) j' hj'
theorem s_X6_addCart {a b : Int32} (hw : px_wo G T R w) (hA : px_ag I w σ) (hV : px_V σ) : px_C l G 2 0 0 mX6_addCart [.ref w, .int a, .int b] (T, I, J, R) (px_Q1 T I J R w (f_cart σ a b)) := by
  have e4 := ag_n5 hA hV
  have h14 := hV.1.2.2.2
  have i6 : ∀ {n : Nat}, n < 1000 → ((nI n < 6) ↔ n < 6) := fun {n} h => nI_ltI (b := 6) (by omega) (by omega)
  refine px_met (M := mX6_addCart) ([some (.ref w), some (.int a), some (.int b)]) (by decide +kernel) rfl (Nat.le_of_ble_eq_true rfl) rfl ?_
  refine px_iload_1 dX6_addCart_0 ?_
  refine cd_X6_135 rfl ⟨⟨Nat.le_of_ble_eq_true rfl, Nat.le_of_ble_eq_true rfl⟩, Nat.le_of_ble_eq_true rfl, Nat.le_of_ble_eq_true rfl, Nat.le_of_ble_eq_true rfl⟩ dX6_addCart_1 (s_X7_isTown) ?_
  refine px_ifb_ne (tgt := 9) dX6_addCart_4 (by decide) (fun h4 => ?_) (fun h4 => ?_)
  · skip
    refine px_iload_2 dX6_addCart_9 ?_
    refine px_iconst (0) dX6_addCart_10 rfl ?_
    refine px_ldc ck_X6_145 dX6_addCart_11 ?_
    refine cd_X6_70 rfl ⟨⟨Nat.le_of_ble_eq_true rfl, Nat.le_of_ble_eq_true rfl⟩, Nat.le_of_ble_eq_true rfl, Nat.le_of_ble_eq_true rfl, Nat.le_of_ble_eq_true rfl⟩ dX6_addCart_13 (s_X7_isOutside) ?_
    refine px_ifb_eq (tgt := 22) dX6_addCart_16 (by decide) (fun h16 => ?_) (fun h16 => ?_)
    · skip
      refine px_aload_0 dX6_addCart_22 ?_
      refine gf_X6_34 rfl dX6_addCart_23 (by first | assumption | exact wo_a hw | exact wo_r0 hw | exact wo_r1 hw | exact wo_r2 hw | exact wo_r3 hw | exact wo_a1 hw | exact wo_a2 hw | exact wo_a3 hw | exact wo_a4 hw | exact wo_rr hw (by omega) | exact wo_ra hw (by omega) | exact wo_cr hw (by omega) | exact wo_ca hw (by omega)) ?_
      refine px_bipush (6) dX6_addCart_26 rfl ?_
      refine px_icmp_lt (tgt := 34) dX6_addCart_28 (by decide) (fun h28 => ?_) (fun h28 => ?_)
      · skip
        rw [e4, i6 (by omega)] at h28
        refine px_aload_0 dX6_addCart_34 ?_
        refine gf_X6_26 rfl dX6_addCart_35 (by first | assumption | exact wo_a hw | exact wo_r0 hw | exact wo_r1 hw | exact wo_r2 hw | exact wo_r3 hw | exact wo_a1 hw | exact wo_a2 hw | exact wo_a3 hw | exact wo_a4 hw | exact wo_rr hw (by omega) | exact wo_ra hw (by omega) | exact wo_cr hw (by omega) | exact wo_ca hw (by omega)) (by first | assumption | exact wo_a hw | exact wo_r0 hw | exact wo_r1 hw | exact wo_r2 hw | exact wo_r3 hw | exact wo_a1 hw | exact wo_a2 hw | exact wo_a3 hw | exact wo_a4 hw | exact wo_rr hw (by omega) | exact wo_ra hw (by omega) | exact wo_cr hw (by omega) | exact wo_ca hw (by omega)) ?_
        refine px_aload_0 dX6_addCart_38 ?_
        refine gf_X6_34 rfl dX6_addCart_39 (by first | assumption | exact wo_a hw | exact wo_r0 hw | exact wo_r1 hw | exact wo_r2 hw | exact wo_r3 hw | exact wo_a1 hw | exact wo_a2 hw | exact wo_a3 hw | exact wo_a4 hw | exact wo_rr hw (by omega) | exact wo_ra hw (by omega) | exact wo_cr hw (by omega) | exact wo_ca hw (by omega)) ?_
        refine px_aaldN dX6_addCart_42 (by first | assumption | exact wo_a hw | exact wo_r0 hw | exact wo_r1 hw | exact wo_r2 hw | exact wo_r3 hw | exact wo_a1 hw | exact wo_a2 hw | exact wo_a3 hw | exact wo_a4 hw | exact wo_rr hw (by omega) | exact wo_ra hw (by omega) | exact wo_cr hw (by omega) | exact wo_ca hw (by omega)) (by exact e4) (by omega) (by first | assumption | exact wo_a hw | exact wo_r0 hw | exact wo_r1 hw | exact wo_r2 hw | exact wo_r3 hw | exact wo_a1 hw | exact wo_a2 hw | exact wo_a3 hw | exact wo_a4 hw | exact wo_rr hw (by omega) | exact wo_ra hw (by omega) | exact wo_cr hw (by omega) | exact wo_ca hw (by omega)) ?_
        refine px_iload_1 dX6_addCart_43 ?_
        refine px_iload_2 dX6_addCart_44 ?_
        refine cd_X6_146 rfl ⟨⟨Nat.le_of_ble_eq_true rfl, Nat.le_of_ble_eq_true rfl⟩, Nat.le_of_ble_eq_true rfl, Nat.le_of_ble_eq_true rfl, Nat.le_of_ble_eq_true rfl⟩ (by first | assumption | exact wo_a hw | exact wo_r0 hw | exact wo_r1 hw | exact wo_r2 hw | exact wo_r3 hw | exact wo_a1 hw | exact wo_a2 hw | exact wo_a3 hw | exact wo_a4 hw | exact wo_rr hw (by omega) | exact wo_ra hw (by omega) | exact wo_cr hw (by omega) | exact wo_ca hw (by omega)) dX6_addCart_45 (s_X0_begin (wo_ca hw (by omega))) ?_
        refine px_aload_0 dX6_addCart_48 ?_
        refine px_dup dX6_addCart_49 rfl ?_
        refine gf_X6_34 rfl dX6_addCart_50 (by first | assumption | exact wo_a hw | exact wo_r0 hw | exact wo_r1 hw | exact wo_r2 hw | exact wo_r3 hw | exact wo_a1 hw | exact wo_a2 hw | exact wo_a3 hw | exact wo_a4 hw | exact wo_rr hw (by omega) | exact wo_ra hw (by omega) | exact wo_cr hw (by omega) | exact wo_ca hw (by omega)) ?_
        rw [px_up_ne (by omega), px_up_ne (by omega), px_up_ne (by omega), px_up_ne (by omega), px_up_ne (by omega), px_up_ne (by omega), px_up_ne (by omega), px_up_ne (by omega), hA.2.2.1.2]
        refine px_iconst (1) dX6_addCart_53 rfl ?_
        refine px_iadd dX6_addCart_54 ?_
        refine pf_X6_34 rfl dX6_addCart_55 (by first | assumption | exact wo_a hw | exact wo_r0 hw | exact wo_r1 hw | exact wo_r2 hw | exact wo_r3 hw | exact wo_a1 hw | exact wo_a2 hw | exact wo_a3 hw | exact wo_a4 hw | exact wo_rr hw (by omega) | exact wo_ra hw (by omega) | exact wo_cr hw (by omega) | exact wo_ca hw (by omega)) ?_
        refine px_aload_0 dX6_addCart_58 ?_
        refine px_dup dX6_addCart_59 rfl ?_
        refine gf_X6_49 rfl dX6_addCart_60 (by first | assumption | exact wo_a hw | exact wo_r0 hw | exact wo_r1 hw | exact wo_r2 hw | exact wo_r3 hw | exact wo_a1 hw | exact wo_a2 hw | exact wo_a3 hw | exact wo_a4 hw | exact wo_rr hw (by omega) | exact wo_ra hw (by omega) | exact wo_cr hw (by omega) | exact wo_ca hw (by omega)) ?_
        rw [px_up_nj (by decide), px_up_ne (by omega), px_up_ne (by omega), px_up_ne (by omega), px_up_ne (by omega), px_up_ne (by omega), px_up_ne (by omega), px_up_ne (by omega), px_up_ne (by omega), hA.2.2.2.1.2.2.2.2]
        refine px_iload_2 dX6_addCart_63 ?_
        refine px_iadd dX6_addCart_64 ?_
        refine pf_X6_49 rfl dX6_addCart_65 (by first | assumption | exact wo_a hw | exact wo_r0 hw | exact wo_r1 hw | exact wo_r2 hw | exact wo_r3 hw | exact wo_a1 hw | exact wo_a2 hw | exact wo_a3 hw | exact wo_a4 hw | exact wo_rr hw (by omega) | exact wo_ra hw (by omega) | exact wo_cr hw (by omega) | exact wo_ca hw (by omega)) ?_
        refine px_aload_0 dX6_addCart_68 ?_
        refine gf_X6_34 rfl dX6_addCart_69 (by first | assumption | exact wo_a hw | exact wo_r0 hw | exact wo_r1 hw | exact wo_r2 hw | exact wo_r3 hw | exact wo_a1 hw | exact wo_a2 hw | exact wo_a3 hw | exact wo_a4 hw | exact wo_rr hw (by omega) | exact wo_ra hw (by omega) | exact wo_cr hw (by omega) | exact wo_ca hw (by omega)) ?_
        rw [px_up_nj (by decide), px_up_self]
        refine px_iconst (1) dX6_addCart_72 rfl ?_
        refine px_isub dX6_addCart_73 ?_
        refine px_iret dX6_addCart_74 ?_
        (rw [Int32.add_sub_cancel]; have hf : f_cart σ a b = (σ 93, upd (upd (upd (upd σ (94 + 8 * f_nc σ + 0) a) (94 + 8 * f_nc σ + 1) b) 150 (σ 150 + b)) 93 (σ 93 + 1)) := (by clear hA hV hw; grind [f_cart]); exact px_Q1_ok (by rw [hf]) (by rw [hf]; exact ag_cart hA hV (by omega)) (fun x hx => by rw [px_up_ne (by omega), px_up_ne (by omega), px_up_ne (by omega), px_up_ne (by omega), px_up_ne (by omega), px_up_ne (by omega), px_up_ne (by omega), px_up_ne (by omega), px_up_ne (by omega), px_up_ne (by omega)]))
      · skip
        refine px_bipush (-4) dX6_addCart_31 rfl ?_
        refine px_iret dX6_addCart_33 ?_
        exact px_Q1_err (by rw [e4, i6 (by omega)] at h28; have : f_nc σ = 6 := (by omega); clear hA hV hw; grind [f_cart]) hA
    · skip
      refine px_bipush (-2) dX6_addCart_19 rfl ?_
      refine px_iret dX6_addCart_21 ?_
      exact px_Q1_err (by clear hA hV hw; grind [f_cart]) hA
  · skip
    refine px_iconst (-1) dX6_addCart_7 rfl ?_
    refine px_iret dX6_addCart_8 ?_
    exact px_Q1_err (by clear hA hV hw; grind [f_cart]) hA
theorem town_lt (hV : px_V σ) {c : Nat} (hc : c < f_nc σ) : σ (94 + 8 * c + 0) = nI (ix (σ (94 + 8 * c + 0))) ∧ ix (σ (94 + 8 * c + 0)) < 8 := ix_of_nI (hV.2.2.2.1 c hc).1
theorem s_X6_buySacks {a b : Int32} (hw : px_wo G T R w) (hA : px_ag I w σ) (hV : px_V σ) : px_C l G 2 0 0 mX6_buySacks [.ref w, .int a, .int b] (T, I, J, R) (px_Q1 T I J R w (f_buy σ a b)) := by
  refine px_met (M := mX6_buySacks) ([some (.ref w), some (.int a), some (.int b), none, none]) (by decide +kernel) rfl (Nat.le_of_ble_eq_true rfl) rfl ?_
  by_cases hr : rg a 0 (σ 93 - 1)
  · obtain ⟨ha, hl, h6⟩ := ct_lt hV hr
    obtain ⟨t1, t2⟩ := town_lt hV hl
    have v1 := hV.1.2.1
    have q : ∀ j, j < 8 → I (w + 19 + ix a) j = σ (94 + 8 * ix a + j) := fun j hj => ag_ct hA hl hj
    refine px_aload_0 dX6_buySacks_0 ?_
    refine px_iload_1 dX6_buySacks_1 ?_
    refine cd_X6_149 rfl ⟨⟨Nat.le_of_ble_eq_true rfl, Nat.le_of_ble_eq_true rfl⟩, Nat.le_of_ble_eq_true rfl, Nat.le_of_ble_eq_true rfl, Nat.le_of_ble_eq_true rfl⟩ (by first | assumption | exact wo_a hw | exact wo_r0 hw | exact wo_r1 hw | exact wo_r2 hw | exact wo_r3 hw | exact wo_a1 hw | exact wo_a2 hw | exact wo_a3 hw | exact wo_a4 hw | exact wo_rr hw (by omega) | exact wo_ra hw (by omega) | exact wo_cr hw (by omega) | exact wo_ca hw (by omega)) dX6_buySacks_2 (s_X6_hasCart hw hA) ?_
    refine px_ifb_ne (tgt := 10) dX6_buySacks_5 (by decide) (fun h5 => ?_) (fun h5 => (by first | exact absurd (hr) h5 | exact absurd h5 (hr)))
    refine px_iload_2 dX6_buySacks_10 ?_
    refine px_iconst (1) dX6_buySacks_11 rfl ?_
    refine px_bipush (99) dX6_buySacks_12 rfl ?_
    refine cd_X6_70 rfl ⟨⟨Nat.le_of_ble_eq_true rfl, Nat.le_of_ble_eq_true rfl⟩, Nat.le_of_ble_eq_true rfl, Nat.le_of_ble_eq_true rfl, Nat.le_of_ble_eq_true rfl⟩ dX6_buySacks_14 (s_X7_isOutside) ?_
    refine px_ifb_eq (tgt := 23) dX6_buySacks_17 (by decide) (fun h17 => ?_) (fun h17 => ?_)
    · skip
      refine px_aload_0 dX6_buySacks_23 ?_
      refine gf_X6_26 rfl dX6_buySacks_24 (by first | assumption | exact wo_a hw | exact wo_r0 hw | exact wo_r1 hw | exact wo_r2 hw | exact wo_r3 hw | exact wo_a1 hw | exact wo_a2 hw | exact wo_a3 hw | exact wo_a4 hw | exact wo_rr hw (by omega) | exact wo_ra hw (by omega) | exact wo_cr hw (by omega) | exact wo_ca hw (by omega)) (by first | assumption | exact wo_a hw | exact wo_r0 hw | exact wo_r1 hw | exact wo_r2 hw | exact wo_r3 hw | exact wo_a1 hw | exact wo_a2 hw | exact wo_a3 hw | exact wo_a4 hw | exact wo_rr hw (by omega) | exact wo_ra hw (by omega) | exact wo_cr hw (by omega) | exact wo_ca hw (by omega)) ?_
      refine px_iload_1 dX6_buySacks_27 ?_
      refine px_aaldN dX6_buySacks_28 (by first | assumption | exact wo_a hw | exact wo_r0 hw | exact wo_r1 hw | exact wo_r2 hw | exact wo_r3 hw | exact wo_a1 hw | exact wo_a2 hw | exact wo_a3 hw | exact wo_a4 hw | exact wo_rr hw (by omega) | exact wo_ra hw (by omega) | exact wo_cr hw (by omega) | exact wo_ca hw (by omega)) (by exact ha) (by omega) (by first | assumption | exact wo_a hw | exact wo_r0 hw | exact wo_r1 hw | exact wo_r2 hw | exact wo_r3 hw | exact wo_a1 hw | exact wo_a2 hw | exact wo_a3 hw | exact wo_a4 hw | exact wo_rr hw (by omega) | exact wo_ra hw (by omega) | exact wo_cr hw (by omega) | exact wo_ca hw (by omega)) ?_
      refine px_astore_3 dX6_buySacks_29 rfl ?_
      refine px_iload_2 dX6_buySacks_30 ?_
      refine px_aload_0 dX6_buySacks_31 ?_
      refine gf_X6_15 rfl dX6_buySacks_32 (by first | assumption | exact wo_a hw | exact wo_r0 hw | exact wo_r1 hw | exact wo_r2 hw | exact wo_r3 hw | exact wo_a1 hw | exact wo_a2 hw | exact wo_a3 hw | exact wo_a4 hw | exact wo_rr hw (by omega) | exact wo_ra hw (by omega) | exact wo_cr hw (by omega) | exact wo_ca hw (by omega)) (by first | assumption | exact wo_a hw | exact wo_r0 hw | exact wo_r1 hw | exact wo_r2 hw | exact wo_r3 hw | exact wo_a1 hw | exact wo_a2 hw | exact wo_a3 hw | exact wo_a4 hw | exact wo_rr hw (by omega) | exact wo_ra hw (by omega) | exact wo_cr hw (by omega) | exact wo_ca hw (by omega)) ?_
      refine px_aload_3 dX6_buySacks_35 ?_
      refine gf_X6_78 rfl dX6_buySacks_36 (by first | assumption | exact wo_a hw | exact wo_r0 hw | exact wo_r1 hw | exact wo_r2 hw | exact wo_r3 hw | exact wo_a1 hw | exact wo_a2 hw | exact wo_a3 hw | exact wo_a4 hw | exact wo_rr hw (by omega) | exact wo_ra hw (by omega) | exact wo_cr hw (by omega) | exact wo_ca hw (by omega)) ?_
      rw [q 0 (by decide)]
      refine px_ialdN dX6_buySacks_39 (by first | assumption | exact wo_a hw | exact wo_r0 hw | exact wo_r1 hw | exact wo_r2 hw | exact wo_r3 hw | exact wo_a1 hw | exact wo_a2 hw | exact wo_a3 hw | exact wo_a4 hw | exact wo_rr hw (by omega) | exact wo_ra hw (by omega) | exact wo_cr hw (by omega) | exact wo_ca hw (by omega)) (by exact t1) (by omega) ?_
      rw [ag_pr hA t2]
      refine px_imul dX6_buySacks_40 ?_
      refine px_istore_4 dX6_buySacks_41 rfl ?_
      refine px_iload_4 dX6_buySacks_43 ?_
      refine px_aload_3 dX6_buySacks_45 ?_
      refine gf_X6_87 rfl dX6_buySacks_46 (by first | assumption | exact wo_a hw | exact wo_r0 hw | exact wo_r1 hw | exact wo_r2 hw | exact wo_r3 hw | exact wo_a1 hw | exact wo_a2 hw | exact wo_a3 hw | exact wo_a4 hw | exact wo_rr hw (by omega) | exact wo_ra hw (by omega) | exact wo_cr hw (by omega) | exact wo_ca hw (by omega)) ?_
      rw [q 1 (by decide)]
      refine px_icmp_le (tgt := 55) dX6_buySacks_49 (by decide) (fun h49 => ?_) (fun h49 => ?_)
      · skip
        refine px_aload_3 dX6_buySacks_55 ?_
        refine gf_X6_84 rfl dX6_buySacks_56 (by first | assumption | exact wo_a hw | exact wo_r0 hw | exact wo_r1 hw | exact wo_r2 hw | exact wo_r3 hw | exact wo_a1 hw | exact wo_a2 hw | exact wo_a3 hw | exact wo_a4 hw | exact wo_rr hw (by omega) | exact wo_ra hw (by omega) | exact wo_cr hw (by omega) | exact wo_ca hw (by omega)) ?_
        rw [q 2 (by decide)]
        refine px_iload_2 dX6_buySacks_59 ?_
        refine px_iadd dX6_buySacks_60 ?_
        refine px_bipush (99) dX6_buySacks_61 rfl ?_
        refine px_icmp_le (tgt := 69) dX6_buySacks_63 (by decide) (fun h63 => ?_) (fun h63 => ?_)
        · skip
          refine px_aload_3 dX6_buySacks_69 ?_
          refine px_dup dX6_buySacks_70 rfl ?_
          refine gf_X6_87 rfl dX6_buySacks_71 (by first | assumption | exact wo_a hw | exact wo_r0 hw | exact wo_r1 hw | exact wo_r2 hw | exact wo_r3 hw | exact wo_a1 hw | exact wo_a2 hw | exact wo_a3 hw | exact wo_a4 hw | exact wo_rr hw (by omega) | exact wo_ra hw (by omega) | exact wo_cr hw (by omega) | exact wo_ca hw (by omega)) ?_
          rw [q 1 (by decide)]
          refine px_iload_4 dX6_buySacks_74 ?_
          refine px_isub dX6_buySacks_76 ?_
          refine pf_X6_87 rfl dX6_buySacks_77 (by first | assumption | exact wo_a hw | exact wo_r0 hw | exact wo_r1 hw | exact wo_r2 hw | exact wo_r3 hw | exact wo_a1 hw | exact wo_a2 hw | exact wo_a3 hw | exact wo_a4 hw | exact wo_rr hw (by omega) | exact wo_ra hw (by omega) | exact wo_cr hw (by omega) | exact wo_ca hw (by omega)) ?_
          refine px_aload_3 dX6_buySacks_80 ?_
          refine px_dup dX6_buySacks_81 rfl ?_
          refine gf_X6_152 rfl dX6_buySacks_82 (by first | assumption | exact wo_a hw | exact wo_r0 hw | exact wo_r1 hw | exact wo_r2 hw | exact wo_r3 hw | exact wo_a1 hw | exact wo_a2 hw | exact wo_a3 hw | exact wo_a4 hw | exact wo_rr hw (by omega) | exact wo_ra hw (by omega) | exact wo_cr hw (by omega) | exact wo_ca hw (by omega)) ?_
          rw [px_up_nj (by decide), q 3 (by decide)]
          refine px_iload_4 dX6_buySacks_85 ?_
          refine px_iadd dX6_buySacks_87 ?_
          refine pf_X6_152 rfl dX6_buySacks_88 (by first | assumption | exact wo_a hw | exact wo_r0 hw | exact wo_r1 hw | exact wo_r2 hw | exact wo_r3 hw | exact wo_a1 hw | exact wo_a2 hw | exact wo_a3 hw | exact wo_a4 hw | exact wo_rr hw (by omega) | exact wo_ra hw (by omega) | exact wo_cr hw (by omega) | exact wo_ca hw (by omega)) ?_
          refine px_aload_3 dX6_buySacks_91 ?_
          refine px_dup dX6_buySacks_92 rfl ?_
          refine gf_X6_84 rfl dX6_buySacks_93 (by first | assumption | exact wo_a hw | exact wo_r0 hw | exact wo_r1 hw | exact wo_r2 hw | exact wo_r3 hw | exact wo_a1 hw | exact wo_a2 hw | exact wo_a3 hw | exact wo_a4 hw | exact wo_rr hw (by omega) | exact wo_ra hw (by omega) | exact wo_cr hw (by omega) | exact wo_ca hw (by omega)) ?_
          rw [px_up_nj (by decide), px_up_nj (by decide), q 2 (by decide)]
          refine px_iload_2 dX6_buySacks_96 ?_
          refine px_iadd dX6_buySacks_97 ?_
          refine pf_X6_84 rfl dX6_buySacks_98 (by first | assumption | exact wo_a hw | exact wo_r0 hw | exact wo_r1 hw | exact wo_r2 hw | exact wo_r3 hw | exact wo_a1 hw | exact wo_a2 hw | exact wo_a3 hw | exact wo_a4 hw | exact wo_rr hw (by omega) | exact wo_ra hw (by omega) | exact wo_cr hw (by omega) | exact wo_ca hw (by omega)) ?_
          refine px_aload_0 dX6_buySacks_101 ?_
          refine px_dup dX6_buySacks_102 rfl ?_
          refine gf_X6_40 rfl dX6_buySacks_103 (by first | assumption | exact wo_a hw | exact wo_r0 hw | exact wo_r1 hw | exact wo_r2 hw | exact wo_r3 hw | exact wo_a1 hw | exact wo_a2 hw | exact wo_a3 hw | exact wo_a4 hw | exact wo_rr hw (by omega) | exact wo_ra hw (by omega) | exact wo_cr hw (by omega) | exact wo_ca hw (by omega)) ?_
          rw [px_up_ne (by omega), px_up_ne (by omega), px_up_ne (by omega), hA.2.2.2.1.2.1]
          refine px_iload_2 dX6_buySacks_106 ?_
          refine px_iadd dX6_buySacks_107 ?_
          refine pf_X6_40 rfl dX6_buySacks_108 (by first | assumption | exact wo_a hw | exact wo_r0 hw | exact wo_r1 hw | exact wo_r2 hw | exact wo_r3 hw | exact wo_a1 hw | exact wo_a2 hw | exact wo_a3 hw | exact wo_a4 hw | exact wo_rr hw (by omega) | exact wo_ra hw (by omega) | exact wo_cr hw (by omega) | exact wo_ca hw (by omega)) ?_
          refine px_aload_3 dX6_buySacks_111 ?_
          refine gf_X6_87 rfl dX6_buySacks_112 (by first | assumption | exact wo_a hw | exact wo_r0 hw | exact wo_r1 hw | exact wo_r2 hw | exact wo_r3 hw | exact wo_a1 hw | exact wo_a2 hw | exact wo_a3 hw | exact wo_a4 hw | exact wo_rr hw (by omega) | exact wo_ra hw (by omega) | exact wo_cr hw (by omega) | exact wo_ca hw (by omega)) ?_
          rw [px_up_ne (by omega), px_up_nj (by decide), px_up_nj (by decide), px_up_self]
          refine px_iret dX6_buySacks_115 ?_
          (have hf : f_buy σ a b = (σ (94 + 8 * ix a + 1) - b * σ (ix (σ (94 + 8 * ix a + 0))), upd (upd (upd (upd σ (94 + 8 * ix a + 1) (σ (94 + 8 * ix a + 1) - b * σ (ix (σ (94 + 8 * ix a + 0))))) (94 + 8 * ix a + 3) (σ (94 + 8 * ix a + 3) + b * σ (ix (σ (94 + 8 * ix a + 0))))) (94 + 8 * ix a + 2) (σ (94 + 8 * ix a + 2) + b)) 147 (σ 147 + b)) := (by clear hA hV hw; rw [upd_sw (94 + 8 * ix a + 3) (94 + 8 * ix a + 2) (by omega)]; grind [f_buy]); exact px_Q1_ok (by rw [hf]) (by rw [hf]; exact ag_up_num (ag_up_cart (ag_up_cart (ag_up_cart hA v1 (by omega) (by decide)) (by rw [nr_upd (by omega)]; exact v1) (by omega) (by decide)) (by rw [nr_upd (by omega), nr_upd (by omega)]; exact v1) (by omega) (by decide)) (by rw [nr_upd (by omega), nr_upd (by omega), nr_upd (by omega), nc_upd (by omega), nc_upd (by omega), nc_upd (by omega)]; exact ⟨v1, h6⟩) (by omega)) (fun x hx => by rw [px_up_ne (by omega), px_up_ne (by omega), px_up_ne (by omega), px_up_ne (by omega)]))
        · skip
          refine px_bipush (-4) dX6_buySacks_66 rfl ?_
          refine px_iret dX6_buySacks_68 ?_
          exact px_Q1_err (by clear hA hV hw; grind [f_buy]) hA
      · skip
        refine px_bipush (-5) dX6_buySacks_52 rfl ?_
        refine px_iret dX6_buySacks_54 ?_
        exact px_Q1_err (by clear hA hV hw; grind [f_buy]) hA
    · skip
      refine px_bipush (-2) dX6_buySacks_20 rfl ?_
      refine px_iret dX6_buySacks_22 ?_
      exact px_Q1_err (by clear hA hV hw; grind [f_buy]) hA
  · skip
    refine px_aload_0 dX6_buySacks_0 ?_
    refine px_iload_1 dX6_buySacks_1 ?_
    refine cd_X6_149 rfl ⟨⟨Nat.le_of_ble_eq_true rfl, Nat.le_of_ble_eq_true rfl⟩, Nat.le_of_ble_eq_true rfl, Nat.le_of_ble_eq_true rfl, Nat.le_of_ble_eq_true rfl⟩ (by first | assumption | exact wo_a hw | exact wo_r0 hw | exact wo_r1 hw | exact wo_r2 hw | exact wo_r3 hw | exact wo_a1 hw | exact wo_a2 hw | exact wo_a3 hw | exact wo_a4 hw | exact wo_rr hw (by omega) | exact wo_ra hw (by omega) | exact wo_cr hw (by omega) | exact wo_ca hw (by omega)) dX6_buySacks_2 (s_X6_hasCart hw hA) ?_
    refine px_ifb_ne (tgt := 10) dX6_buySacks_5 (by decide) (fun h5 => (by first | exact absurd h5 (hr) | exact absurd (hr) h5)) (fun h5 => ?_)
    refine px_iconst (-1) dX6_buySacks_8 rfl ?_
    refine px_iret dX6_buySacks_9 ?_
    exact px_Q1_err (by clear hA hV hw; grind [f_buy]) hA
theorem s_X6_sellSacks {a b : Int32} (hw : px_wo G T R w) (hA : px_ag I w σ) (hV : px_V σ) : px_C l G 2 0 0 mX6_sellSacks [.ref w, .int a, .int b] (T, I, J, R) (px_Q1 T I J R w (f_sell σ a b)) := by
  refine px_met (M := mX6_sellSacks) ([some (.ref w), some (.int a), some (.int b), none, none]) (by decide +kernel) rfl (Nat.le_of_ble_eq_true rfl) rfl ?_
  by_cases hr : rg a 0 (σ 93 - 1)
  · obtain ⟨ha, hl, h6⟩ := ct_lt hV hr
    obtain ⟨t1, t2⟩ := town_lt hV hl
    have v1 := hV.1.2.1
    have q : ∀ j, j < 8 → I (w + 19 + ix a) j = σ (94 + 8 * ix a + j) := fun j hj => ag_ct hA hl hj
    refine px_aload_0 dX6_sellSacks_0 ?_
    refine px_iload_1 dX6_sellSacks_1 ?_
    refine cd_X6_149 rfl ⟨⟨Nat.le_of_ble_eq_true rfl, Nat.le_of_ble_eq_true rfl⟩, Nat.le_of_ble_eq_true rfl, Nat.le_of_ble_eq_true rfl, Nat.le_of_ble_eq_true rfl⟩ (by first | assumption | exact wo_a hw | exact wo_r0 hw | exact wo_r1 hw | exact wo_r2 hw | exact wo_r3 hw | exact wo_a1 hw | exact wo_a2 hw | exact wo_a3 hw | exact wo_a4 hw | exact wo_rr hw (by omega) | exact wo_ra hw (by omega) | exact wo_cr hw (by omega) | exact wo_ca hw (by omega)) dX6_sellSacks_2 (s_X6_hasCart hw hA) ?_
    refine px_ifb_ne (tgt := 10) dX6_sellSacks_5 (by decide) (fun h5 => ?_) (fun h5 => (by first | exact absurd (hr) h5 | exact absurd h5 (hr)))
    refine px_iload_2 dX6_sellSacks_10 ?_
    refine px_iconst (1) dX6_sellSacks_11 rfl ?_
    refine px_bipush (99) dX6_sellSacks_12 rfl ?_
    refine cd_X6_70 rfl ⟨⟨Nat.le_of_ble_eq_true rfl, Nat.le_of_ble_eq_true rfl⟩, Nat.le_of_ble_eq_true rfl, Nat.le_of_ble_eq_true rfl, Nat.le_of_ble_eq_true rfl⟩ dX6_sellSacks_14 (s_X7_isOutside) ?_
    refine px_ifb_eq (tgt := 23) dX6_sellSacks_17 (by decide) (fun h17 => ?_) (fun h17 => ?_)
    · skip
      refine px_aload_0 dX6_sellSacks_23 ?_
      refine gf_X6_26 rfl dX6_sellSacks_24 (by first | assumption | exact wo_a hw | exact wo_r0 hw | exact wo_r1 hw | exact wo_r2 hw | exact wo_r3 hw | exact wo_a1 hw | exact wo_a2 hw | exact wo_a3 hw | exact wo_a4 hw | exact wo_rr hw (by omega) | exact wo_ra hw (by omega) | exact wo_cr hw (by omega) | exact wo_ca hw (by omega)) (by first | assumption | exact wo_a hw | exact wo_r0 hw | exact wo_r1 hw | exact wo_r2 hw | exact wo_r3 hw | exact wo_a1 hw | exact wo_a2 hw | exact wo_a3 hw | exact wo_a4 hw | exact wo_rr hw (by omega) | exact wo_ra hw (by omega) | exact wo_cr hw (by omega) | exact wo_ca hw (by omega)) ?_
      refine px_iload_1 dX6_sellSacks_27 ?_
      refine px_aaldN dX6_sellSacks_28 (by first | assumption | exact wo_a hw | exact wo_r0 hw | exact wo_r1 hw | exact wo_r2 hw | exact wo_r3 hw | exact wo_a1 hw | exact wo_a2 hw | exact wo_a3 hw | exact wo_a4 hw | exact wo_rr hw (by omega) | exact wo_ra hw (by omega) | exact wo_cr hw (by omega) | exact wo_ca hw (by omega)) (by exact ha) (by omega) (by first | assumption | exact wo_a hw | exact wo_r0 hw | exact wo_r1 hw | exact wo_r2 hw | exact wo_r3 hw | exact wo_a1 hw | exact wo_a2 hw | exact wo_a3 hw | exact wo_a4 hw | exact wo_rr hw (by omega) | exact wo_ra hw (by omega) | exact wo_cr hw (by omega) | exact wo_ca hw (by omega)) ?_
      refine px_astore_3 dX6_sellSacks_29 rfl ?_
      refine px_iload_2 dX6_sellSacks_30 ?_
      refine px_aload_3 dX6_sellSacks_31 ?_
      refine gf_X6_84 rfl dX6_sellSacks_32 (by first | assumption | exact wo_a hw | exact wo_r0 hw | exact wo_r1 hw | exact wo_r2 hw | exact wo_r3 hw | exact wo_a1 hw | exact wo_a2 hw | exact wo_a3 hw | exact wo_a4 hw | exact wo_rr hw (by omega) | exact wo_ra hw (by omega) | exact wo_cr hw (by omega) | exact wo_ca hw (by omega)) ?_
      rw [q 2 (by decide)]
      refine px_icmp_le (tgt := 41) dX6_sellSacks_35 (by decide) (fun h35 => ?_) (fun h35 => ?_)
      · skip
        refine px_iload_2 dX6_sellSacks_41 ?_
        refine px_aload_0 dX6_sellSacks_42 ?_
        refine gf_X6_15 rfl dX6_sellSacks_43 (by first | assumption | exact wo_a hw | exact wo_r0 hw | exact wo_r1 hw | exact wo_r2 hw | exact wo_r3 hw | exact wo_a1 hw | exact wo_a2 hw | exact wo_a3 hw | exact wo_a4 hw | exact wo_rr hw (by omega) | exact wo_ra hw (by omega) | exact wo_cr hw (by omega) | exact wo_ca hw (by omega)) (by first | assumption | exact wo_a hw | exact wo_r0 hw | exact wo_r1 hw | exact wo_r2 hw | exact wo_r3 hw | exact wo_a1 hw | exact wo_a2 hw | exact wo_a3 hw | exact wo_a4 hw | exact wo_rr hw (by omega) | exact wo_ra hw (by omega) | exact wo_cr hw (by omega) | exact wo_ca hw (by omega)) ?_
        refine px_aload_3 dX6_sellSacks_46 ?_
        refine gf_X6_78 rfl dX6_sellSacks_47 (by first | assumption | exact wo_a hw | exact wo_r0 hw | exact wo_r1 hw | exact wo_r2 hw | exact wo_r3 hw | exact wo_a1 hw | exact wo_a2 hw | exact wo_a3 hw | exact wo_a4 hw | exact wo_rr hw (by omega) | exact wo_ra hw (by omega) | exact wo_cr hw (by omega) | exact wo_ca hw (by omega)) ?_
        rw [q 0 (by decide)]
        refine px_ialdN dX6_sellSacks_50 (by first | assumption | exact wo_a hw | exact wo_r0 hw | exact wo_r1 hw | exact wo_r2 hw | exact wo_r3 hw | exact wo_a1 hw | exact wo_a2 hw | exact wo_a3 hw | exact wo_a4 hw | exact wo_rr hw (by omega) | exact wo_ra hw (by omega) | exact wo_cr hw (by omega) | exact wo_ca hw (by omega)) (by exact t1) (by omega) ?_
        rw [ag_pr hA t2]
        refine px_imul dX6_sellSacks_51 ?_
        refine px_istore_4 dX6_sellSacks_52 rfl ?_
        refine px_aload_3 dX6_sellSacks_54 ?_
        refine gf_X6_87 rfl dX6_sellSacks_55 (by first | assumption | exact wo_a hw | exact wo_r0 hw | exact wo_r1 hw | exact wo_r2 hw | exact wo_r3 hw | exact wo_a1 hw | exact wo_a2 hw | exact wo_a3 hw | exact wo_a4 hw | exact wo_rr hw (by omega) | exact wo_ra hw (by omega) | exact wo_cr hw (by omega) | exact wo_ca hw (by omega)) ?_
        rw [q 1 (by decide)]
        refine px_iload_4 dX6_sellSacks_58 ?_
        refine px_iadd dX6_sellSacks_60 ?_
        refine px_ldc ck_X6_145 dX6_sellSacks_61 ?_
        refine px_icmp_le (tgt := 69) dX6_sellSacks_63 (by decide) (fun h63 => ?_) (fun h63 => ?_)
        · skip
          refine px_aload_3 dX6_sellSacks_69 ?_
          refine px_dup dX6_sellSacks_70 rfl ?_
          refine gf_X6_87 rfl dX6_sellSacks_71 (by first | assumption | exact wo_a hw | exact wo_r0 hw | exact wo_r1 hw | exact wo_r2 hw | exact wo_r3 hw | exact wo_a1 hw | exact wo_a2 hw | exact wo_a3 hw | exact wo_a4 hw | exact wo_rr hw (by omega) | exact wo_ra hw (by omega) | exact wo_cr hw (by omega) | exact wo_ca hw (by omega)) ?_
          rw [q 1 (by decide)]
          refine px_iload_4 dX6_sellSacks_74 ?_
          refine px_iadd dX6_sellSacks_76 ?_
          refine pf_X6_87 rfl dX6_sellSacks_77 (by first | assumption | exact wo_a hw | exact wo_r0 hw | exact wo_r1 hw | exact wo_r2 hw | exact wo_r3 hw | exact wo_a1 hw | exact wo_a2 hw | exact wo_a3 hw | exact wo_a4 hw | exact wo_rr hw (by omega) | exact wo_ra hw (by omega) | exact wo_cr hw (by omega) | exact wo_ca hw (by omega)) ?_
          refine px_aload_3 dX6_sellSacks_80 ?_
          refine px_dup dX6_sellSacks_81 rfl ?_
          refine gf_X6_155 rfl dX6_sellSacks_82 (by first | assumption | exact wo_a hw | exact wo_r0 hw | exact wo_r1 hw | exact wo_r2 hw | exact wo_r3 hw | exact wo_a1 hw | exact wo_a2 hw | exact wo_a3 hw | exact wo_a4 hw | exact wo_rr hw (by omega) | exact wo_ra hw (by omega) | exact wo_cr hw (by omega) | exact wo_ca hw (by omega)) ?_
          rw [px_up_nj (by decide), q 4 (by decide)]
          refine px_iload_4 dX6_sellSacks_85 ?_
          refine px_iadd dX6_sellSacks_87 ?_
          refine pf_X6_155 rfl dX6_sellSacks_88 (by first | assumption | exact wo_a hw | exact wo_r0 hw | exact wo_r1 hw | exact wo_r2 hw | exact wo_r3 hw | exact wo_a1 hw | exact wo_a2 hw | exact wo_a3 hw | exact wo_a4 hw | exact wo_rr hw (by omega) | exact wo_ra hw (by omega) | exact wo_cr hw (by omega) | exact wo_ca hw (by omega)) ?_
          refine px_aload_3 dX6_sellSacks_91 ?_
          refine px_dup dX6_sellSacks_92 rfl ?_
          refine gf_X6_84 rfl dX6_sellSacks_93 (by first | assumption | exact wo_a hw | exact wo_r0 hw | exact wo_r1 hw | exact wo_r2 hw | exact wo_r3 hw | exact wo_a1 hw | exact wo_a2 hw | exact wo_a3 hw | exact wo_a4 hw | exact wo_rr hw (by omega) | exact wo_ra hw (by omega) | exact wo_cr hw (by omega) | exact wo_ca hw (by omega)) ?_
          rw [px_up_nj (by decide), px_up_nj (by decide), q 2 (by decide)]
          refine px_iload_2 dX6_sellSacks_96 ?_
          refine px_isub dX6_sellSacks_97 ?_
          refine pf_X6_84 rfl dX6_sellSacks_98 (by first | assumption | exact wo_a hw | exact wo_r0 hw | exact wo_r1 hw | exact wo_r2 hw | exact wo_r3 hw | exact wo_a1 hw | exact wo_a2 hw | exact wo_a3 hw | exact wo_a4 hw | exact wo_rr hw (by omega) | exact wo_ra hw (by omega) | exact wo_cr hw (by omega) | exact wo_ca hw (by omega)) ?_
          refine px_aload_0 dX6_sellSacks_101 ?_
          refine px_dup dX6_sellSacks_102 rfl ?_
          refine gf_X6_43 rfl dX6_sellSacks_103 (by first | assumption | exact wo_a hw | exact wo_r0 hw | exact wo_r1 hw | exact wo_r2 hw | exact wo_r3 hw | exact wo_a1 hw | exact wo_a2 hw | exact wo_a3 hw | exact wo_a4 hw | exact wo_rr hw (by omega) | exact wo_ra hw (by omega) | exact wo_cr hw (by omega) | exact wo_ca hw (by omega)) ?_
          rw [px_up_ne (by omega), px_up_ne (by omega), px_up_ne (by omega), hA.2.2.2.1.2.2.1]
          refine px_iload_2 dX6_sellSacks_106 ?_
          refine px_iadd dX6_sellSacks_107 ?_
          refine pf_X6_43 rfl dX6_sellSacks_108 (by first | assumption | exact wo_a hw | exact wo_r0 hw | exact wo_r1 hw | exact wo_r2 hw | exact wo_r3 hw | exact wo_a1 hw | exact wo_a2 hw | exact wo_a3 hw | exact wo_a4 hw | exact wo_rr hw (by omega) | exact wo_ra hw (by omega) | exact wo_cr hw (by omega) | exact wo_ca hw (by omega)) ?_
          refine px_aload_3 dX6_sellSacks_111 ?_
          refine gf_X6_87 rfl dX6_sellSacks_112 (by first | assumption | exact wo_a hw | exact wo_r0 hw | exact wo_r1 hw | exact wo_r2 hw | exact wo_r3 hw | exact wo_a1 hw | exact wo_a2 hw | exact wo_a3 hw | exact wo_a4 hw | exact wo_rr hw (by omega) | exact wo_ra hw (by omega) | exact wo_cr hw (by omega) | exact wo_ca hw (by omega)) ?_
          rw [px_up_ne (by omega), px_up_nj (by decide), px_up_nj (by decide), px_up_self]
          refine px_iret dX6_sellSacks_115 ?_
          (have hf : f_sell σ a b = (σ (94 + 8 * ix a + 1) + b * σ (ix (σ (94 + 8 * ix a + 0))), upd (upd (upd (upd σ (94 + 8 * ix a + 1) (σ (94 + 8 * ix a + 1) + b * σ (ix (σ (94 + 8 * ix a + 0))))) (94 + 8 * ix a + 4) (σ (94 + 8 * ix a + 4) + b * σ (ix (σ (94 + 8 * ix a + 0))))) (94 + 8 * ix a + 2) (σ (94 + 8 * ix a + 2) - b)) 148 (σ 148 + b)) := (by clear hA hV hw; rw [upd_sw (94 + 8 * ix a + 4) (94 + 8 * ix a + 2) (by omega)]; grind [f_sell]); exact px_Q1_ok (by rw [hf]) (by rw [hf]; exact ag_up_num (ag_up_cart (ag_up_cart (ag_up_cart hA v1 (by omega) (by decide)) (by rw [nr_upd (by omega)]; exact v1) (by omega) (by decide)) (by rw [nr_upd (by omega), nr_upd (by omega)]; exact v1) (by omega) (by decide)) (by rw [nr_upd (by omega), nr_upd (by omega), nr_upd (by omega), nc_upd (by omega), nc_upd (by omega), nc_upd (by omega)]; exact ⟨v1, h6⟩) (by omega)) (fun x hx => by rw [px_up_ne (by omega), px_up_ne (by omega), px_up_ne (by omega), px_up_ne (by omega)]))
        · skip
          refine px_bipush (-4) dX6_sellSacks_66 rfl ?_
          refine px_iret dX6_sellSacks_68 ?_
          exact px_Q1_err (by clear hA hV hw; grind [f_sell]) hA
      · skip
        refine px_bipush (-5) dX6_sellSacks_38 rfl ?_
        refine px_iret dX6_sellSacks_40 ?_
        exact px_Q1_err (by clear hA hV hw; grind [f_sell]) hA
    · skip
      refine px_bipush (-2) dX6_sellSacks_20 rfl ?_
      refine px_iret dX6_sellSacks_22 ?_
      exact px_Q1_err (by clear hA hV hw; grind [f_sell]) hA
  · skip
    refine px_aload_0 dX6_sellSacks_0 ?_
    refine px_iload_1 dX6_sellSacks_1 ?_
    refine cd_X6_149 rfl ⟨⟨Nat.le_of_ble_eq_true rfl, Nat.le_of_ble_eq_true rfl⟩, Nat.le_of_ble_eq_true rfl, Nat.le_of_ble_eq_true rfl, Nat.le_of_ble_eq_true rfl⟩ (by first | assumption | exact wo_a hw | exact wo_r0 hw | exact wo_r1 hw | exact wo_r2 hw | exact wo_r3 hw | exact wo_a1 hw | exact wo_a2 hw | exact wo_a3 hw | exact wo_a4 hw | exact wo_rr hw (by omega) | exact wo_ra hw (by omega) | exact wo_cr hw (by omega) | exact wo_ca hw (by omega)) dX6_sellSacks_2 (s_X6_hasCart hw hA) ?_
    refine px_ifb_ne (tgt := 10) dX6_sellSacks_5 (by decide) (fun h5 => (by first | exact absurd h5 (hr) | exact absurd (hr) h5)) (fun h5 => ?_)
    refine px_iconst (-1) dX6_sellSacks_8 rfl ?_
    refine px_iret dX6_sellSacks_9 ?_
    exact px_Q1_err (by clear hA hV hw; grind [f_sell]) hA
theorem s_X6_payToll {a b : Nat} (ha : px_at G T a 0 0) (hb : px_at G T b 4 0) (hab : b ≠ a) : px_K l G 0 mX6_payToll ([.ref w, .ref a, .ref b]) ((T, I, J, R)) (none) ((T, px_up (px_up (px_up I a 1 (I a 1 - I b 2 * I a 2)) a 5 (I a 5 + I b 2 * I a 2)) b 4 (I b 4 + 1), J, R)) := by
  refine px_met (M := mX6_payToll) ([some (.ref w), some (.ref a), some (.ref b), none]) (by decide +kernel) rfl (Nat.le_of_ble_eq_true rfl) rfl ?_
  refine px_aload_2 dX6_payToll_0 ?_
  refine gf_X6_100 rfl dX6_payToll_1 (by first | assumption | exact wo_a hw | exact wo_r0 hw | exact wo_r1 hw | exact wo_r2 hw | exact wo_r3 hw | exact wo_a1 hw | exact wo_a2 hw | exact wo_a3 hw | exact wo_a4 hw | exact wo_rr hw (by omega) | exact wo_ra hw (by omega) | exact wo_cr hw (by omega) | exact wo_ca hw (by omega)) ?_
  refine px_aload_1 dX6_payToll_4 ?_
  refine gf_X6_84 rfl dX6_payToll_5 (by first | assumption | exact wo_a hw | exact wo_r0 hw | exact wo_r1 hw | exact wo_r2 hw | exact wo_r3 hw | exact wo_a1 hw | exact wo_a2 hw | exact wo_a3 hw | exact wo_a4 hw | exact wo_rr hw (by omega) | exact wo_ra hw (by omega) | exact wo_cr hw (by omega) | exact wo_ca hw (by omega)) ?_
  refine px_imul dX6_payToll_8 ?_
  refine px_istore_3 dX6_payToll_9 rfl ?_
  refine px_aload_1 dX6_payToll_10 ?_
  refine px_dup dX6_payToll_11 rfl ?_
  refine gf_X6_87 rfl dX6_payToll_12 (by first | assumption | exact wo_a hw | exact wo_r0 hw | exact wo_r1 hw | exact wo_r2 hw | exact wo_r3 hw | exact wo_a1 hw | exact wo_a2 hw | exact wo_a3 hw | exact wo_a4 hw | exact wo_rr hw (by omega) | exact wo_ra hw (by omega) | exact wo_cr hw (by omega) | exact wo_ca hw (by omega)) ?_
  refine px_iload_3 dX6_payToll_15 ?_
  refine px_isub dX6_payToll_16 ?_
  refine pf_X6_87 rfl dX6_payToll_17 (by first | assumption | exact wo_a hw | exact wo_r0 hw | exact wo_r1 hw | exact wo_r2 hw | exact wo_r3 hw | exact wo_a1 hw | exact wo_a2 hw | exact wo_a3 hw | exact wo_a4 hw | exact wo_rr hw (by omega) | exact wo_ra hw (by omega) | exact wo_cr hw (by omega) | exact wo_ca hw (by omega)) ?_
  refine px_aload_1 dX6_payToll_20 ?_
  refine px_dup dX6_payToll_21 rfl ?_
  refine gf_X6_166 rfl dX6_payToll_22 (by first | assumption | exact wo_a hw | exact wo_r0 hw | exact wo_r1 hw | exact wo_r2 hw | exact wo_r3 hw | exact wo_a1 hw | exact wo_a2 hw | exact wo_a3 hw | exact wo_a4 hw | exact wo_rr hw (by omega) | exact wo_ra hw (by omega) | exact wo_cr hw (by omega) | exact wo_ca hw (by omega)) ?_
  rw [px_up_nj (by decide)]
  refine px_iload_3 dX6_payToll_25 ?_
  refine px_iadd dX6_payToll_26 ?_
  refine pf_X6_166 rfl dX6_payToll_27 (by first | assumption | exact wo_a hw | exact wo_r0 hw | exact wo_r1 hw | exact wo_r2 hw | exact wo_r3 hw | exact wo_a1 hw | exact wo_a2 hw | exact wo_a3 hw | exact wo_a4 hw | exact wo_rr hw (by omega) | exact wo_ra hw (by omega) | exact wo_cr hw (by omega) | exact wo_ca hw (by omega)) ?_
  refine px_aload_2 dX6_payToll_30 ?_
  refine px_dup dX6_payToll_31 rfl ?_
  refine gf_X6_169 rfl dX6_payToll_32 (by first | assumption | exact wo_a hw | exact wo_r0 hw | exact wo_r1 hw | exact wo_r2 hw | exact wo_r3 hw | exact wo_a1 hw | exact wo_a2 hw | exact wo_a3 hw | exact wo_a4 hw | exact wo_rr hw (by omega) | exact wo_ra hw (by omega) | exact wo_cr hw (by omega) | exact wo_ca hw (by omega)) ?_
  rw [px_up_ne hab, px_up_ne hab]
  refine px_iconst (1) dX6_payToll_35 rfl ?_
  refine px_iadd dX6_payToll_36 ?_
  refine pf_X6_169 rfl dX6_payToll_37 (by first | assumption | exact wo_a hw | exact wo_r0 hw | exact wo_r1 hw | exact wo_r2 hw | exact wo_r3 hw | exact wo_a1 hw | exact wo_a2 hw | exact wo_a3 hw | exact wo_a4 hw | exact wo_rr hw (by omega) | exact wo_ra hw (by omega) | exact wo_cr hw (by omega) | exact wo_ca hw (by omega)) ?_
  refine px_vret dX6_payToll_40 ?_
  exact ⟨rfl, rfl⟩
theorem s_X6_draw (hw : px_wo G T R w) : px_K l G 0 mX6_draw ([.ref w]) ((T, I, J, R)) (some (.int (f_dr (f_x (I w 6))))) ((T, px_up I w 6 (f_x (I w 6)), J, R)) := by
  refine px_met (M := mX6_draw) ([some (.ref w)]) (by decide +kernel) rfl (Nat.le_of_ble_eq_true rfl) rfl ?_
  refine px_aload_0 dX6_draw_0 ?_
  refine px_bipush (75) dX6_draw_1 rfl ?_
  refine px_aload_0 dX6_draw_3 ?_
  refine gf_X6_37 rfl dX6_draw_4 (by first | assumption | exact wo_a hw | exact wo_r0 hw | exact wo_r1 hw | exact wo_r2 hw | exact wo_r3 hw | exact wo_a1 hw | exact wo_a2 hw | exact wo_a3 hw | exact wo_a4 hw | exact wo_rr hw (by omega) | exact wo_ra hw (by omega) | exact wo_cr hw (by omega) | exact wo_ca hw (by omega)) ?_
  refine px_imul dX6_draw_7 ?_
  refine px_bipush (74) dX6_draw_8 rfl ?_
  refine px_iadd dX6_draw_10 ?_
  refine px_ldc ck_X6_188 dX6_draw_11 ?_
  refine px_irem dX6_draw_13 (by decide) ?_
  refine pf_X6_37 rfl dX6_draw_14 (by first | assumption | exact wo_a hw | exact wo_r0 hw | exact wo_r1 hw | exact wo_r2 hw | exact wo_r3 hw | exact wo_a1 hw | exact wo_a2 hw | exact wo_a3 hw | exact wo_a4 hw | exact wo_rr hw (by omega) | exact wo_ra hw (by omega) | exact wo_cr hw (by omega) | exact wo_ca hw (by omega)) ?_
  refine px_aload_0 dX6_draw_17 ?_
  refine gf_X6_37 rfl dX6_draw_18 (by first | assumption | exact wo_a hw | exact wo_r0 hw | exact wo_r1 hw | exact wo_r2 hw | exact wo_r3 hw | exact wo_a1 hw | exact wo_a2 hw | exact wo_a3 hw | exact wo_a4 hw | exact wo_rr hw (by omega) | exact wo_ra hw (by omega) | exact wo_cr hw (by omega) | exact wo_ca hw (by omega)) ?_
  rw [px_up_self]
  refine px_iconst (4) dX6_draw_21 rfl ?_
  refine px_idiv dX6_draw_22 (by decide) ?_
  refine px_bipush (100) dX6_draw_23 rfl ?_
  refine px_irem dX6_draw_25 (by decide) ?_
  refine px_iret dX6_draw_26 ?_
  exact ⟨rfl, rfl⟩
def px_up2 (I : px_I) (w c : Nat) (f s : Int32) : px_I := px_up (px_up (px_up (px_up (px_up I c 1 (I c 1 - f)) c 6 (I c 6 + f)) c 2 0) c 7 (I c 7 + s)) w 9 (I w 9 + s)
end WP

