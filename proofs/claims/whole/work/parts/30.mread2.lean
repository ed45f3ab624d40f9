section MR2
variable {l : Launch} {G : px_G} {T : px_T} {I B : px_I} {J : px_J} {R : px_R} {μ : px_M} {m : Nat} {A : px_a} {σ : px_s} {p : px_p} {s : Nat} {f : Bool}
theorem s_X8_isLetter {c : Int32} : px_K l G 0 mX8_isLetter ([.int c]) (μ) (some (.int (if q_let c then 1 else 0))) (μ) := by
  refine px_met (M := mX8_isLetter) ([some (.int c)]) (by decide +kernel) rfl (Nat.le_of_ble_eq_true rfl) rfl ?_
  refine px_iload_0 dX8_isLetter_0 ?_
  refine px_bipush (114) dX8_isLetter_1 rfl ?_
  refine px_icmp_eq (tgt := 48) dX8_isLetter_3 (by decide) (fun h3 => ?_) (fun h3 => ?_)
  · skip
    refine px_iconst (1) dX8_isLetter_48 rfl ?_
    refine px_goto (tgt := 53) dX8_isLetter_49 (by decide) ?_
    refine px_zret dX8_isLetter_53 (by first | rfl | exact px_nb _) ?_
    exact ⟨by grind, rfl⟩
  · skip
    refine px_iload_0 dX8_isLetter_6 ?_
    refine px_bipush (112) dX8_isLetter_7 rfl ?_
    refine px_icmp_eq (tgt := 48) dX8_isLetter_9 (by decide) (fun h9 => ?_) (fun h9 => ?_)
    · skip
      refine px_iconst (1) dX8_isLetter_48 rfl ?_
      refine px_goto (tgt := 53) dX8_isLetter_49 (by decide) ?_
      refine px_zret dX8_isLetter_53 (by first | rfl | exact px_nb _) ?_
      exact ⟨by grind, rfl⟩
    · skip
      refine px_iload_0 dX8_isLetter_12 ?_
      refine px_bipush (103) dX8_isLetter_13 rfl ?_
      refine px_icmp_eq (tgt := 48) dX8_isLetter_15 (by decide) (fun h15 => ?_) (fun h15 => ?_)
      · skip
        refine px_iconst (1) dX8_isLetter_48 rfl ?_
        refine px_goto (tgt := 53) dX8_isLetter_49 (by decide) ?_
        refine px_zret dX8_isLetter_53 (by first | rfl | exact px_nb _) ?_
        exact ⟨by grind, rfl⟩
      · skip
        refine px_iload_0 dX8_isLetter_18 ?_
        refine px_bipush (99) dX8_isLetter_19 rfl ?_
        refine px_icmp_eq (tgt := 48) dX8_isLetter_21 (by decide) (fun h21 => ?_) (fun h21 => ?_)
        · skip
          refine px_iconst (1) dX8_isLetter_48 rfl ?_
          refine px_goto (tgt := 53) dX8_isLetter_49 (by decide) ?_
          refine px_zret dX8_isLetter_53 (by first | rfl | exact px_nb _) ?_
          exact ⟨by grind, rfl⟩
        · skip
          refine px_iload_0 dX8_isLetter_24 ?_
          refine px_bipush (98) dX8_isLetter_25 rfl ?_
          refine px_icmp_eq (tgt := 48) dX8_isLetter_27 (by decide) (fun h27 => ?_) (fun h27 => ?_)
          · skip
            refine px_iconst (1) dX8_isLetter_48 rfl ?_
            refine px_goto (tgt := 53) dX8_isLetter_49 (by decide) ?_
            refine px_zret dX8_isLetter_53 (by first | rfl | exact px_nb _) ?_
            exact ⟨by grind, rfl⟩
          · skip
            refine px_iload_0 dX8_isLetter_30 ?_
            refine px_bipush (115) dX8_isLetter_31 rfl ?_
            refine px_icmp_eq (tgt := 48) dX8_isLetter_33 (by decide) (fun h33 => ?_) (fun h33 => ?_)
            · skip
              refine px_iconst (1) dX8_isLetter_48 rfl ?_
              refine px_goto (tgt := 53) dX8_isLetter_49 (by decide) ?_
              refine px_zret dX8_isLetter_53 (by first | rfl | exact px_nb _) ?_
              exact ⟨by grind, rfl⟩
            · skip
              refine px_iload_0 dX8_isLetter_36 ?_
              refine px_bipush (111) dX8_isLetter_37 rfl ?_
              refine px_icmp_eq (tgt := 48) dX8_isLetter_39 (by decide) (fun h39 => ?_) (fun h39 => ?_)
              · skip
                refine px_iconst (1) dX8_isLetter_48 rfl ?_
                refine px_goto (tgt := 53) dX8_isLetter_49 (by decide) ?_
                refine px_zret dX8_isLetter_53 (by first | rfl | exact px_nb _) ?_
                exact ⟨by grind, rfl⟩
              · skip
                refine px_iload_0 dX8_isLetter_42 ?_
                refine px_bipush (104) dX8_isLetter_43 rfl ?_
                refine px_icmp_ne (tgt := 52) dX8_isLetter_45 (by decide) (fun h45 => ?_) (fun h45 => ?_)
                · skip
                  refine px_iconst (0) dX8_isLetter_52 rfl ?_
                  refine px_zret dX8_isLetter_53 (by first | rfl | exact px_nb _) ?_
                  exact ⟨by grind, rfl⟩
                · skip
                  refine px_iconst (1) dX8_isLetter_48 rfl ?_
                  refine px_goto (tgt := 53) dX8_isLetter_49 (by decide) ?_
                  refine px_zret dX8_isLetter_53 (by first | rfl | exact px_nb _) ?_
                  exact ⟨by grind, rfl⟩
theorem s_X8_between {c : Int32} : px_K l G 0 mX8_between ([.int c]) (μ) (some (.int (f_btw c))) (μ) := by
  refine px_met (M := mX8_between) ([some (.int c)]) (by decide +kernel) rfl (Nat.le_of_ble_eq_true rfl) rfl ?_
  refine px_iload_0 dX8_between_0 ?_
  refine px_bipush (112) dX8_between_1 rfl ?_
  refine px_icmp_ne (tgt := 11) dX8_between_3 (by decide) (fun h3 => ?_) (fun h3 => ?_)
  · skip
    refine px_iload_0 dX8_between_11 ?_
    refine px_bipush (103) dX8_between_12 rfl ?_
    refine px_icmp_eq (tgt := 29) dX8_between_14 (by decide) (fun h14 => ?_) (fun h14 => ?_)
    · skip
      refine px_bipush (58) dX8_between_29 rfl ?_
      refine px_goto (tgt := 36) dX8_between_31 (by decide) ?_
      refine px_iret dX8_between_36 ?_
      exact ⟨by unfold f_btw; grind, rfl⟩
    · skip
      refine px_iload_0 dX8_between_17 ?_
      refine px_bipush (111) dX8_between_18 rfl ?_
      refine px_icmp_eq (tgt := 29) dX8_between_20 (by decide) (fun h20 => ?_) (fun h20 => ?_)
      · skip
        refine px_bipush (58) dX8_between_29 rfl ?_
        refine px_goto (tgt := 36) dX8_between_31 (by decide) ?_
        refine px_iret dX8_between_36 ?_
        exact ⟨by unfold f_btw; grind, rfl⟩
      · skip
        refine px_iload_0 dX8_between_23 ?_
        refine px_bipush (104) dX8_between_24 rfl ?_
        refine px_icmp_ne (tgt := 34) dX8_between_26 (by decide) (fun h26 => ?_) (fun h26 => ?_)
        · skip
          refine px_bipush (42) dX8_between_34 rfl ?_
          refine px_iret dX8_between_36 ?_
          exact ⟨by unfold f_btw; grind, rfl⟩
        · skip
          refine px_bipush (58) dX8_between_29 rfl ?_
          refine px_goto (tgt := 36) dX8_between_31 (by decide) ?_
          refine px_iret dX8_between_36 ?_
          exact ⟨by unfold f_btw; grind, rfl⟩
  · skip
    refine px_bipush (61) dX8_between_6 rfl ?_
    refine px_goto (tgt := 36) dX8_between_8 (by decide) ?_
    refine px_iret dX8_between_36 ?_
    exact ⟨by unfold f_btw; grind, rfl⟩
def q_g0 (p : px_p) (s : Nat) : Bool × Nat := if q_let (q_ch p s) then (false, s + 1) else (true, s)
def q_g1 (p : px_p) (s : Nat) : Bool × Nat := q_go2 (q_g0 p s).1 (q_g0 p s).2 (q_fst p (q_ch p s) (q_g0 p s).2)
def q_g2 (p : px_p) (s : Nat) : Bool × Nat := q_go2 (q_g1 p s).1 (q_g1 p s).2 (q_snd p (q_ch p s) (q_g1 p s).2)
def q_g3 (p : px_p) (s : Nat) : Bool × Nat := q_go2 (q_g2 p s).1 (q_g2 p s).2 (q_tk p (q_g2 p s).2 (f_btw (q_ch p s)) (f_btw (q_ch p s)))
def q_g4 (p : px_p) (s : Nat) : Bool × Nat := q_go2 (q_g3 p s).1 (q_g3 p s).2 (q_num p (q_g3 p s).2)
theorem go2_t {s : Nat} {r : Bool × Nat × Int32} : q_go2 true s r = (true, s) := if_pos rfl
theorem go2_f {s : Nat} {r : Bool × Nat × Int32} : q_go2 false s r = (!r.1, r.2.1) := if_neg (by decide)
theorem ord_g (p : px_p) (s : Nat) : q_g4 p s = (!(q_ord p s).1, (q_ord p s).2.1) ∧ ((q_ord p s).1 = true → q_let (q_ch p s) ∧ (q_g1 p s).1 = false ∧ (q_g2 p s).1 = false ∧ (q_g3 p s).1 = false ∧ (q_ord p s).2.2 = (q_ch p s, (q_fst p (q_ch p s) (q_g0 p s).2).2.2, (q_snd p (q_ch p s) (q_g1 p s).2).2.2, (q_num p (q_g3 p s).2).2.2)) := by
  unfold q_g4 q_g3 q_g2 q_g1 q_g0 q_ord
  dsimp only
  by_cases hl : q_let (q_ch p s)
  · rw [if_pos hl, if_neg (fun q => q hl)]
    dsimp only
    rw [go2_f]
    dsimp only
    cases ha : (q_fst p (q_ch p s) (s + 1)).1
    · rw [if_pos rfl]
      simp only [Bool.not_false, go2_t]
      exact ⟨True.intro, fun z => absurd z (by decide)⟩
    · rw [if_neg (by decide)]
      simp only [Bool.not_true]
      rw [go2_f]
      dsimp only
      cases hb : (q_snd p (q_ch p s) (q_fst p (q_ch p s) (s + 1)).2.1).1
      · rw [if_pos rfl]
        simp only [Bool.not_false, go2_t]
        exact ⟨True.intro, fun z => absurd z (by decide)⟩
      · rw [if_neg (by decide)]
        simp only [Bool.not_true]
        rw [go2_f]
        dsimp only
        cases he : (q_tk p (q_snd p (q_ch p s) (q_fst p (q_ch p s) (s + 1)).2.1).2.1 (f_btw (q_ch p s)) (f_btw (q_ch p s))).1
        · rw [if_pos rfl]
          simp only [Bool.not_false, go2_t]
          exact ⟨True.intro, fun z => absurd z (by decide)⟩
        · rw [if_neg (by decide)]
          simp only [Bool.not_true]
          rw [go2_f]
          try dsimp only
          cases hd : (q_num p (q_tk p (q_snd p (q_ch p s) (q_fst p (q_ch p s) (s + 1)).2.1).2.1 (f_btw (q_ch p s)) (f_btw (q_ch p s))).2.1).1
          · rw [if_pos rfl]
            exact ⟨rfl, fun z => absurd z (show ¬ false = true by decide)⟩
          · rw [if_neg (by decide)]
            exact ⟨rfl, fun _ => ⟨hl, by first | trivial | rfl, by first | trivial | rfl, by first | trivial | rfl, rfl⟩⟩
  · rw [if_neg hl, if_pos hl]
    simp only [go2_t]
    exact ⟨rfl, fun z => absurd z (by decide)⟩
theorem btw0 (c : Int32) : ¬ rg 0 (f_btw c) (f_btw c) := by
  unfold f_btw
  split
  · decide
  · split <;> decide
theorem let0 : ¬ q_let 0 := by decide
theorem g0_le (hs : s ≤ p.1) : (q_g0 p s).2 ≤ p.1 := by
  unfold q_g0
  split
  · rename_i h
    by_cases z : s < p.1
    · exact z
    · rw [q_ch, if_neg z] at h; exact absurd h let0
  · exact hs
theorem g1_le (hs : s ≤ p.1) : (q_g1 p s).2 ≤ p.1 := go2_le (g0_le hs) (fst_le (g0_le hs))
theorem g2_le (hs : s ≤ p.1) : (q_g2 p s).2 ≤ p.1 := go2_le (g1_le hs) (snd_le (g1_le hs))
theorem g3_le (hs : s ≤ p.1) : (q_g3 p s).2 ≤ p.1 := go2_le (g2_le hs) (tk_le (btw0 _) (g2_le hs))
theorem g4_le (hs : s ≤ p.1) : (q_g4 p s).2 ≤ p.1 := go2_le (g3_le hs) (num_le (g3_le hs))
theorem ord_le (hs : s ≤ p.1) : (q_ord p s).2.1 ≤ p.1 := by
  have h := g4_le hs
  rw [(ord_g p s).1] at h
  exact h
def px_Qo (T : px_T) (B : px_I) (J : px_J) (R : px_R) (m : Nat) (r : Bool × Nat × Int32 × Int32 × Int32 × Int32) : Option Value → px_M → Prop := fun v μ' => v = none ∧ ∃ B' : px_I, μ' = (T, px_tk B' m (!r.1) r.2.1, J, R) ∧ (∀ a, a ≠ m → B' a = B a) ∧ (∀ j, j < 11 → B' m j = B m j) ∧ (r.1 = true → B' m 11 = r.2.2.1 ∧ B' m 12 = r.2.2.2.1 ∧ B' m 13 = r.2.2.2.2.1 ∧ B' m 14 = r.2.2.2.2.2)
theorem s_X8_readOrder (hm : px_mo G T R m) (hB : px_bp B m p) (hs : s ≤ p.1) : px_C l G 4 0 0 mX8_readOrder [.ref m] (T, px_tk B m false s, J, R) (px_Qo T B J R m (q_ord p s)) := by
  obtain ⟨og, ov⟩ := ord_g p s
  refine px_met (M := mX8_readOrder) ([some (.ref m), none]) (by decide +kernel) rfl (Nat.le_of_ble_eq_true rfl) rfl ?_
  generalize hQ : px_Qo T B J R m (q_ord p s) = Q
  generalize hc : q_ch p s = c
  rw [hc] at ov
  -- the last number
  have SD : ∀ (B1 : px_I), px_bp B1 m p → (∀ w, ((q_g4 p s).1 = false → w = (q_num p (q_g3 p s).2).2.2) → Q none (T, px_tk (px_up B1 m 14 w) m (q_g4 p s).1 (q_g4 p s).2, J, R)) → ∀ o1, (px_W l G yX8_readOrder cX8_readOrder 2 none (px_rm 4 0 0) (px_Fn G Q 0 0) 139 [some (.ref m), o1] [] 0 0 (T, px_tk B1 m (q_g3 p s).1 (q_g3 p s).2, J, R)) := by
    intro B1 hB1 K o1
    refine px_aload_0 dX8_readOrder_139 ?_
    refine px_aload_0 dX8_readOrder_140 ?_
    refine cg_X8_203 rfl ⟨⟨Nat.le_of_ble_eq_true rfl, Nat.le_of_ble_eq_true rfl⟩, Nat.le_of_ble_eq_true rfl, Nat.le_of_ble_eq_true rfl, Nat.le_of_ble_eq_true rfl⟩ (by first | assumption | exact mo_a hm | exact mo_r0 hm | exact mo_r1 hm | exact mo_r2 hm | exact mo_r4 hm | exact mo_r6 hm | exact mo_r8 hm | exact mo_a1 hm | exact mo_a2 hm | exact mo_a3 hm | exact mo_a4 hm | exact mo_a5 hm | exact mo_a6 hm) dX8_readOrder_141 (s_X8_number hm hB1 (g3_le hs)) ?_
    rintro v μ' ⟨w, rfl, rfl, hw⟩
    refine pf_X8_215 rfl dX8_readOrder_144 (by first | assumption | exact mo_a hm | exact mo_r0 hm | exact mo_r1 hm | exact mo_r2 hm | exact mo_r4 hm | exact mo_r6 hm | exact mo_r8 hm | exact mo_a1 hm | exact mo_a2 hm | exact mo_a3 hm | exact mo_a4 hm | exact mo_a5 hm | exact mo_a6 hm) ?_
    rw [tk_up (by decide) (by decide)]
    refine px_vret dX8_readOrder_147 ?_
    exact K w hw
  have SC : ∀ (B1 : px_I), px_bp B1 m p → B1 m 11 = c → (∀ w, ((q_g4 p s).1 = false → w = (q_num p (q_g3 p s).2).2.2) → Q none (T, px_tk (px_up B1 m 14 w) m (q_g4 p s).1 (q_g4 p s).2, J, R)) → ∀ o1, (px_W l G yX8_readOrder cX8_readOrder 2 none (px_rm 4 0 0) (px_Fn G Q 0 0) 120 [some (.ref m), o1] [] 0 0 (T, px_tk B1 m (q_g2 p s).1 (q_g2 p s).2, J, R)) := by
    intro B1 hB1 h11 K o1
    have ht := s_X8_takes (l := l) (J := J) (f := (q_g2 p s).1) (lo := f_btw c) (hi := f_btw c) hm hB1 (g2_le hs)
    rw [← hc] at ht
    rw [show q_go2 (q_g2 p s).1 (q_g2 p s).2 (q_tk p (q_g2 p s).2 (f_btw (q_ch p s)) (f_btw (q_ch p s))) = q_g3 p s from rfl, hc] at ht
    refine px_aload_0 dX8_readOrder_120 ?_
    refine px_aload_0 dX8_readOrder_121 ?_
    refine gf_X8_197 rfl dX8_readOrder_122 (by first | assumption | exact mo_a hm | exact mo_r0 hm | exact mo_r1 hm | exact mo_r2 hm | exact mo_r4 hm | exact mo_r6 hm | exact mo_r8 hm | exact mo_a1 hm | exact mo_a2 hm | exact mo_a3 hm | exact mo_a4 hm | exact mo_a5 hm | exact mo_a6 hm) ?_
    rw [tk_nj (by decide) (by decide), h11]
    refine cd_X8_212 rfl ⟨⟨Nat.le_of_ble_eq_true rfl, Nat.le_of_ble_eq_true rfl⟩, Nat.le_of_ble_eq_true rfl, Nat.le_of_ble_eq_true rfl, Nat.le_of_ble_eq_true rfl⟩ dX8_readOrder_125 (s_X8_between) ?_
    refine px_aload_0 dX8_readOrder_128 ?_
    refine gf_X8_197 rfl dX8_readOrder_129 (by first | assumption | exact mo_a hm | exact mo_r0 hm | exact mo_r1 hm | exact mo_r2 hm | exact mo_r4 hm | exact mo_r6 hm | exact mo_r8 hm | exact mo_a1 hm | exact mo_a2 hm | exact mo_a3 hm | exact mo_a4 hm | exact mo_a5 hm | exact mo_a6 hm) ?_
    rw [tk_nj (by decide) (by decide), h11]
    refine cd_X8_212 rfl ⟨⟨Nat.le_of_ble_eq_true rfl, Nat.le_of_ble_eq_true rfl⟩, Nat.le_of_ble_eq_true rfl, Nat.le_of_ble_eq_true rfl, Nat.le_of_ble_eq_true rfl⟩ dX8_readOrder_132 (s_X8_between) ?_
    refine cd_X8_191 rfl ⟨⟨Nat.le_of_ble_eq_true rfl, Nat.le_of_ble_eq_true rfl⟩, Nat.le_of_ble_eq_true rfl, Nat.le_of_ble_eq_true rfl, Nat.le_of_ble_eq_true rfl⟩ (by first | assumption | exact mo_a hm | exact mo_r0 hm | exact mo_r1 hm | exact mo_r2 hm | exact mo_r4 hm | exact mo_r6 hm | exact mo_r8 hm | exact mo_a1 hm | exact mo_a2 hm | exact mo_a3 hm | exact mo_a4 hm | exact mo_a5 hm | exact mo_a6 hm) dX8_readOrder_135 (ht) ?_
    refine px_istore_1 dX8_readOrder_138 rfl ?_
    exact SD B1 hB1 K _
  have SB : ∀ (B1 : px_I), px_bp B1 m p → B1 m 11 = c → (∀ u w, ((q_g2 p s).1 = false → u = (q_snd p c (q_g1 p s).2).2.2) → ((q_g4 p s).1 = false → w = (q_num p (q_g3 p s).2).2.2) → Q none (T, px_tk (px_up (px_up B1 m 13 u) m 14 w) m (q_g4 p s).1 (q_g4 p s).2, J, R)) → ∀ o1, (px_W l G yX8_readOrder cX8_readOrder 2 none (px_rm 4 0 0) (px_Fn G Q 0 0) 99 [some (.ref m), o1] [] 0 0 (T, px_tk B1 m (q_g1 p s).1 (q_g1 p s).2, J, R)) := by
    intro B1 hB1 h11 K o1
    by_cases h114 : c = 114
    · have e : q_snd p c (q_g1 p s).2 = q_dig p (q_g1 p s).2 := if_pos h114
      have hd := s_X8_digit (l := l) (J := J) (f := (q_g1 p s).1) hm hB1 (g1_le hs)
      rw [← e, ← hc, show q_go2 (q_g1 p s).1 (q_g1 p s).2 (q_snd p (q_ch p s) (q_g1 p s).2) = q_g2 p s from rfl] at hd
      have hu : (q_g2 p s).1 = false → q_ch p (q_g1 p s).2 - 48 = (q_snd p c (q_g1 p s).2).2.2 := by
        intro z
        rw [e]
        rw [show q_g2 p s = q_go2 (q_g1 p s).1 (q_g1 p s).2 (q_snd p (q_ch p s) (q_g1 p s).2) from rfl, hc, e] at z
        unfold q_go2 at z
        split at z
        · exact absurd z (show ¬ true = false by decide)
        · unfold q_dig at z ⊢
          split
          · rfl
          · rename_i y
            rw [if_neg y] at z
            exact absurd z (show ¬ (!false) = false by decide)
      refine px_aload_0 dX8_readOrder_99 ?_
      refine px_aload_0 dX8_readOrder_100 ?_
      refine gf_X8_197 rfl dX8_readOrder_101 (by first | assumption | exact mo_a hm | exact mo_r0 hm | exact mo_r1 hm | exact mo_r2 hm | exact mo_r4 hm | exact mo_r6 hm | exact mo_r8 hm | exact mo_a1 hm | exact mo_a2 hm | exact mo_a3 hm | exact mo_a4 hm | exact mo_a5 hm | exact mo_a6 hm) ?_
      rw [tk_nj (by decide) (by decide), h11]
      refine px_bipush (114) dX8_readOrder_104 rfl ?_
      refine px_icmp_ne (tgt := 116) dX8_readOrder_106 (by decide) (fun h106 => (by first | exact absurd h106 (h114) | exact absurd (h114) h106)) (fun h106 => ?_)
      refine px_aload_0 dX8_readOrder_109 ?_
      refine cd_X8_194 rfl ⟨⟨Nat.le_of_ble_eq_true rfl, Nat.le_of_ble_eq_true rfl⟩, Nat.le_of_ble_eq_true rfl, Nat.le_of_ble_eq_true rfl, Nat.le_of_ble_eq_true rfl⟩ (by first | assumption | exact mo_a hm | exact mo_r0 hm | exact mo_r1 hm | exact mo_r2 hm | exact mo_r4 hm | exact mo_r6 hm | exact mo_r8 hm | exact mo_a1 hm | exact mo_a2 hm | exact mo_a3 hm | exact mo_a4 hm | exact mo_a5 hm | exact mo_a6 hm) dX8_readOrder_110 (hd) ?_
      refine px_goto (tgt := 117) dX8_readOrder_113 (by decide) ?_
      refine pf_X8_209 rfl dX8_readOrder_117 (by first | assumption | exact mo_a hm | exact mo_r0 hm | exact mo_r1 hm | exact mo_r2 hm | exact mo_r4 hm | exact mo_r6 hm | exact mo_r8 hm | exact mo_a1 hm | exact mo_a2 hm | exact mo_a3 hm | exact mo_a4 hm | exact mo_a5 hm | exact mo_a6 hm) ?_
      rw [tk_up (by decide) (by decide)]
      exact SC _ (B_up hB1 (by decide)) (by rw [px_up_nj (by decide)]; exact h11) (fun w hw => K _ w hu hw) _
    · have e : q_snd p c (q_g1 p s).2 = (true, (q_g1 p s).2, 0) := if_neg h114
      have e2 : q_g2 p s = q_g1 p s := by
        rw [show q_g2 p s = q_go2 (q_g1 p s).1 (q_g1 p s).2 (q_snd p (q_ch p s) (q_g1 p s).2) from rfl, hc, e]
        generalize q_g1 p s = g
        obtain ⟨g1, g2⟩ := g
        cases g1
        · exact go2_f
        · exact go2_t
      rw [← e2]
      rw [← e2] at e
      have SC2 := fun u => SC (px_up B1 m 13 u) (B_up hB1 (by decide)) (by rw [px_up_nj (by decide)]; exact h11)
      refine px_aload_0 dX8_readOrder_99 ?_
      refine px_aload_0 dX8_readOrder_100 ?_
      refine gf_X8_197 rfl dX8_readOrder_101 (by first | assumption | exact mo_a hm | exact mo_r0 hm | exact mo_r1 hm | exact mo_r2 hm | exact mo_r4 hm | exact mo_r6 hm | exact mo_r8 hm | exact mo_a1 hm | exact mo_a2 hm | exact mo_a3 hm | exact mo_a4 hm | exact mo_a5 hm | exact mo_a6 hm) ?_
      rw [tk_nj (by decide) (by decide), h11]
      refine px_bipush (114) dX8_readOrder_104 rfl ?_
      refine px_icmp_ne (tgt := 116) dX8_readOrder_106 (by decide) (fun h106 => ?_) (fun h106 => (by first | exact absurd (h114) h106 | exact absurd h106 (h114)))
      refine px_iconst (0) dX8_readOrder_116 rfl ?_
      refine pf_X8_209 rfl dX8_readOrder_117 (by first | assumption | exact mo_a hm | exact mo_r0 hm | exact mo_r1 hm | exact mo_r2 hm | exact mo_r4 hm | exact mo_r6 hm | exact mo_r8 hm | exact mo_a1 hm | exact mo_a2 hm | exact mo_a3 hm | exact mo_a4 hm | exact mo_a5 hm | exact mo_a6 hm) ?_
      rw [tk_up (by decide) (by decide)]
      exact SC2 0 (fun w hw => K _ w (fun _ => by rw [← e2, e]) hw) _
  have SA : ∀ (B1 : px_I), px_bp B1 m p → B1 m 11 = c → (∀ t u w, ((q_g1 p s).1 = false → t = (q_fst p c (q_g0 p s).2).2.2) → ((q_g2 p s).1 = false → u = (q_snd p c (q_g1 p s).2).2.2) → ((q_g4 p s).1 = false → w = (q_num p (q_g3 p s).2).2.2) → Q none (T, px_tk (px_up (px_up (px_up B1 m 12 t) m 13 u) m 14 w) m (q_g4 p s).1 (q_g4 p s).2, J, R)) → ∀ o1, (px_W l G yX8_readOrder cX8_readOrder 2 none (px_rm 4 0 0) (px_Fn G Q 0 0) 75 [some (.ref m), o1] [] 0 0 (T, px_tk B1 m (q_g0 p s).1 (q_g0 p s).2, J, R)) := by
    intro B1 hB1 h11 K o1
    by_cases h103 : c = 103
    · have e : q_fst p c (q_g0 p s).2 = q_num p (q_g0 p s).2 := if_pos h103
      have hd := s_X8_number (l := l) (J := J) (R := R) (f := (q_g0 p s).1) hm hB1 (g0_le hs)
      rw [← e] at hd
      have e3 : q_go2 (q_g0 p s).1 (q_g0 p s).2 (q_fst p c (q_g0 p s).2) = q_g1 p s := by rw [← hc]; rfl
      unfold px_Qd at hd
      rw [e3] at hd
      refine px_aload_0 dX8_readOrder_75 ?_
      refine px_aload_0 dX8_readOrder_76 ?_
      refine gf_X8_197 rfl dX8_readOrder_77 (by first | assumption | exact mo_a hm | exact mo_r0 hm | exact mo_r1 hm | exact mo_r2 hm | exact mo_r4 hm | exact mo_r6 hm | exact mo_r8 hm | exact mo_a1 hm | exact mo_a2 hm | exact mo_a3 hm | exact mo_a4 hm | exact mo_a5 hm | exact mo_a6 hm) ?_
      rw [tk_nj (by decide) (by decide), h11]
      refine px_bipush (103) dX8_readOrder_80 rfl ?_
      refine px_icmp_ne (tgt := 92) dX8_readOrder_82 (by decide) (fun h82 => (by first | exact absurd h82 (h103) | exact absurd (h103) h82)) (fun h82 => ?_)
      refine px_aload_0 dX8_readOrder_85 ?_
      refine cg_X8_203 rfl ⟨⟨Nat.le_of_ble_eq_true rfl, Nat.le_of_ble_eq_true rfl⟩, Nat.le_of_ble_eq_true rfl, Nat.le_of_ble_eq_true rfl, Nat.le_of_ble_eq_true rfl⟩ (by first | assumption | exact mo_a hm | exact mo_r0 hm | exact mo_r1 hm | exact mo_r2 hm | exact mo_r4 hm | exact mo_r6 hm | exact mo_r8 hm | exact mo_a1 hm | exact mo_a2 hm | exact mo_a3 hm | exact mo_a4 hm | exact mo_a5 hm | exact mo_a6 hm) dX8_readOrder_86 (hd) ?_
      rintro v μ' ⟨w, rfl, rfl, hw⟩
      refine px_goto (tgt := 96) dX8_readOrder_89 (by decide) ?_
      refine pf_X8_206 rfl dX8_readOrder_96 (by first | assumption | exact mo_a hm | exact mo_r0 hm | exact mo_r1 hm | exact mo_r2 hm | exact mo_r4 hm | exact mo_r6 hm | exact mo_r8 hm | exact mo_a1 hm | exact mo_a2 hm | exact mo_a3 hm | exact mo_a4 hm | exact mo_a5 hm | exact mo_a6 hm) ?_
      rw [tk_up (by decide) (by decide)]
      exact SB _ (B_up hB1 (by decide)) (by rw [px_up_nj (by decide)]; exact h11) (fun u w' hu hw' => K _ u w' hw hu hw') _
    · have e : q_fst p c (q_g0 p s).2 = q_dig p (q_g0 p s).2 := if_neg h103
      have hd := s_X8_digit (l := l) (J := J) (f := (q_g0 p s).1) hm hB1 (g0_le hs)
      rw [← e, ← hc, show q_go2 (q_g0 p s).1 (q_g0 p s).2 (q_fst p (q_ch p s) (q_g0 p s).2) = q_g1 p s from rfl] at hd
      have hu : (q_g1 p s).1 = false → q_ch p (q_g0 p s).2 - 48 = (q_fst p c (q_g0 p s).2).2.2 := by
        intro z
        rw [e]
        rw [show q_g1 p s = q_go2 (q_g0 p s).1 (q_g0 p s).2 (q_fst p (q_ch p s) (q_g0 p s).2) from rfl, hc, e] at z
        unfold q_go2 at z
        split at z
        · exact absurd z (show ¬ true = false by decide)
        · unfold q_dig at z ⊢
          split
          · rfl
          · rename_i y
            rw [if_neg y] at z
            exact absurd z (show ¬ (!false) = false by decide)
      refine px_aload_0 dX8_readOrder_75 ?_
      refine px_aload_0 dX8_readOrder_76 ?_
      refine gf_X8_197 rfl dX8_readOrder_77 (by first | assumption | exact mo_a hm | exact mo_r0 hm | exact mo_r1 hm | exact mo_r2 hm | exact mo_r4 hm | exact mo_r6 hm | exact mo_r8 hm | exact mo_a1 hm | exact mo_a2 hm | exact mo_a3 hm | exact mo_a4 hm | exact mo_a5 hm | exact mo_a6 hm) ?_
      rw [tk_nj (by decide) (by decide), h11]
      refine px_bipush (103) dX8_readOrder_80 rfl ?_
      refine px_icmp_ne (tgt := 92) dX8_readOrder_82 (by decide) (fun h82 => ?_) (fun h82 => (by first | exact absurd (h103) h82 | exact absurd h82 (h103)))
      refine px_aload_0 dX8_readOrder_92 ?_
      refine cd_X8_194 rfl ⟨⟨Nat.le_of_ble_eq_true rfl, Nat.le_of_ble_eq_true rfl⟩, Nat.le_of_ble_eq_true rfl, Nat.le_of_ble_eq_true rfl, Nat.le_of_ble_eq_true rfl⟩ (by first | assumption | exact mo_a hm | exact mo_r0 hm | exact mo_r1 hm | exact mo_r2 hm | exact mo_r4 hm | exact mo_r6 hm | exact mo_r8 hm | exact mo_a1 hm | exact mo_a2 hm | exact mo_a3 hm | exact mo_a4 hm | exact mo_a5 hm | exact mo_a6 hm) dX8_readOrder_93 (hd) ?_
      refine pf_X8_206 rfl dX8_readOrder_96 (by first | assumption | exact mo_a hm | exact mo_r0 hm | exact mo_r1 hm | exact mo_r2 hm | exact mo_r4 hm | exact mo_r6 hm | exact mo_r8 hm | exact mo_a1 hm | exact mo_a2 hm | exact mo_a3 hm | exact mo_a4 hm | exact mo_a5 hm | exact mo_a6 hm) ?_
      rw [tk_up (by decide) (by decide)]
      exact SB _ (B_up hB1 (by decide)) (by rw [px_up_nj (by decide)]; exact h11) (fun u w' hu' hw' => K _ u w' hu hu' hw') _
  -- behind the letter
  have S25 : (px_W l G yX8_readOrder cX8_readOrder 2 none (px_rm 4 0 0) (px_Fn G Q 0 0) 25 [some (.ref m), none] [.int c, .ref m] 0 0 (T, px_tk B m false s, J, R)) := by
    have K : ∀ t u w, ((q_g1 p s).1 = false → t = (q_fst p c (q_g0 p s).2).2.2) → ((q_g2 p s).1 = false → u = (q_snd p c (q_g1 p s).2).2.2) → ((q_g4 p s).1 = false → w = (q_num p (q_g3 p s).2).2.2) → Q none (T, px_tk (px_up (px_up (px_up (px_up B m 11 c) m 12 t) m 13 u) m 14 w) m (q_g4 p s).1 (q_g4 p s).2, J, R) := by
      intro t u w ht hu hw
      subst hQ
      refine ⟨rfl, px_up (px_up (px_up (px_up B m 11 c) m 12 t) m 13 u) m 14 w, by rw [og], fun a ha => by rw [px_up_ne ha, px_up_ne ha, px_up_ne ha, px_up_ne ha], fun j hj => by rw [px_up_nj (by omega), px_up_nj (by omega), px_up_nj (by omega), px_up_nj (by omega)], fun z => ?_⟩
      obtain ⟨v1, v2, v3, v4, v5⟩ := ov z
      rw [v5]
      refine ⟨?_, ?_, ?_, ?_⟩
      · rw [px_up_nj (by decide), px_up_nj (by decide), px_up_nj (by decide), px_up_self]
      · rw [px_up_nj (by decide), px_up_nj (by decide), px_up_self]; exact ht v2
      · rw [px_up_nj (by decide), px_up_self]; exact hu v3
      · rw [px_up_self]; exact hw (by rw [og, z]; rfl)
    have hA := SA (px_up B m 11 c) (B_up hB (by decide)) (px_up_self _ _ _ _) K
    by_cases hl : q_let c
    · have e0 : q_g0 p s = (false, s + 1) := by rw [q_g0, hc, if_pos hl]
      rw [e0] at hA
      refine pf_X8_197 rfl dX8_readOrder_25 (by first | assumption | exact mo_a hm | exact mo_r0 hm | exact mo_r1 hm | exact mo_r2 hm | exact mo_r4 hm | exact mo_r6 hm | exact mo_r8 hm | exact mo_a1 hm | exact mo_a2 hm | exact mo_a3 hm | exact mo_a4 hm | exact mo_a5 hm | exact mo_a6 hm) ?_
      rw [tk_up (by decide) (by decide)]
      refine px_aload_0 dX8_readOrder_28 ?_
      refine px_aload_0 dX8_readOrder_29 ?_
      refine gf_X8_187 rfl dX8_readOrder_30 (by first | assumption | exact mo_a hm | exact mo_r0 hm | exact mo_r1 hm | exact mo_r2 hm | exact mo_r4 hm | exact mo_r6 hm | exact mo_r8 hm | exact mo_a1 hm | exact mo_a2 hm | exact mo_a3 hm | exact mo_a4 hm | exact mo_a5 hm | exact mo_a6 hm) ?_
      rw [tk_10]
      refine px_if_ne (tgt := 46) dX8_readOrder_33 (by decide) (fun h33 => (by first | exact absurd h33 (rfl) | exact absurd (rfl) h33)) (fun h33 => ?_)
      refine px_aload_0 dX8_readOrder_36 ?_
      refine gf_X8_197 rfl dX8_readOrder_37 (by first | assumption | exact mo_a hm | exact mo_r0 hm | exact mo_r1 hm | exact mo_r2 hm | exact mo_r4 hm | exact mo_r6 hm | exact mo_r8 hm | exact mo_a1 hm | exact mo_a2 hm | exact mo_a3 hm | exact mo_a4 hm | exact mo_a5 hm | exact mo_a6 hm) ?_
      rw [tk_nj (by decide) (by decide), px_up_self]
      refine cd_X8_200 rfl ⟨⟨Nat.le_of_ble_eq_true rfl, Nat.le_of_ble_eq_true rfl⟩, Nat.le_of_ble_eq_true rfl, Nat.le_of_ble_eq_true rfl, Nat.le_of_ble_eq_true rfl⟩ dX8_readOrder_40 (s_X8_isLetter) ?_
      refine px_ifb_ne (tgt := 50) dX8_readOrder_43 (by decide) (fun h43 => ?_) (fun h43 => (by first | exact absurd (hl) h43 | exact absurd h43 (hl)))
      refine px_iconst (0) dX8_readOrder_50 rfl ?_
      refine pf_X8_187 rfl (by first | exact Or.inl rfl | exact Or.inr rfl) dX8_readOrder_51 (by first | assumption | exact mo_a hm | exact mo_r0 hm | exact mo_r1 hm | exact mo_r2 hm | exact mo_r4 hm | exact mo_r6 hm | exact mo_r8 hm | exact mo_a1 hm | exact mo_a2 hm | exact mo_a3 hm | exact mo_a4 hm | exact mo_a5 hm | exact mo_a6 hm) ?_
      refine px_aload_0 dX8_readOrder_54 ?_
      refine px_dup dX8_readOrder_55 rfl ?_
      refine gf_X8_184 rfl dX8_readOrder_56 (by first | assumption | exact mo_a hm | exact mo_r0 hm | exact mo_r1 hm | exact mo_r2 hm | exact mo_r4 hm | exact mo_r6 hm | exact mo_r8 hm | exact mo_a1 hm | exact mo_a2 hm | exact mo_a3 hm | exact mo_a4 hm | exact mo_a5 hm | exact mo_a6 hm) ?_
      rw [px_up_nj (by decide), tk_9]
      refine px_aload_0 dX8_readOrder_59 ?_
      refine gf_X8_187 rfl dX8_readOrder_60 (by first | assumption | exact mo_a hm | exact mo_r0 hm | exact mo_r1 hm | exact mo_r2 hm | exact mo_r4 hm | exact mo_r6 hm | exact mo_r8 hm | exact mo_a1 hm | exact mo_a2 hm | exact mo_a3 hm | exact mo_a4 hm | exact mo_a5 hm | exact mo_a6 hm) ?_
      rw [px_up_self]
      refine px_if_eq (tgt := 70) dX8_readOrder_63 (by decide) (fun h63 => ?_) (fun h63 => (by first | exact absurd (rfl) h63 | exact absurd h63 (rfl)))
      refine px_iconst (1) dX8_readOrder_70 rfl ?_
      refine px_iadd dX8_readOrder_71 ?_
      rw [nI_1]
      refine pf_X8_184 rfl dX8_readOrder_72 (by first | assumption | exact mo_a hm | exact mo_r0 hm | exact mo_r1 hm | exact mo_r2 hm | exact mo_r4 hm | exact mo_r6 hm | exact mo_r8 hm | exact mo_a1 hm | exact mo_a2 hm | exact mo_a3 hm | exact mo_a4 hm | exact mo_a5 hm | exact mo_a6 hm) ?_
      rw [show (0 : Int32) = if false = true then 1 else 0 from rfl, tk_tk]
      exact hA _
    · have e0 : q_g0 p s = (true, s) := by rw [q_g0, hc, if_neg hl]
      rw [e0] at hA
      refine pf_X8_197 rfl dX8_readOrder_25 (by first | assumption | exact mo_a hm | exact mo_r0 hm | exact mo_r1 hm | exact mo_r2 hm | exact mo_r4 hm | exact mo_r6 hm | exact mo_r8 hm | exact mo_a1 hm | exact mo_a2 hm | exact mo_a3 hm | exact mo_a4 hm | exact mo_a5 hm | exact mo_a6 hm) ?_
      rw [tk_up (by decide) (by decide)]
      refine px_aload_0 dX8_readOrder_28 ?_
      refine px_aload_0 dX8_readOrder_29 ?_
      refine gf_X8_187 rfl dX8_readOrder_30 (by first | assumption | exact mo_a hm | exact mo_r0 hm | exact mo_r1 hm | exact mo_r2 hm | exact mo_r4 hm | exact mo_r6 hm | exact mo_r8 hm | exact mo_a1 hm | exact mo_a2 hm | exact mo_a3 hm | exact mo_a4 hm | exact mo_a5 hm | exact mo_a6 hm) ?_
      rw [tk_10]
      refine px_if_ne (tgt := 46) dX8_readOrder_33 (by decide) (fun h33 => (by first | exact absurd h33 (rfl) | exact absurd (rfl) h33)) (fun h33 => ?_)
      refine px_aload_0 dX8_readOrder_36 ?_
      refine gf_X8_197 rfl dX8_readOrder_37 (by first | assumption | exact mo_a hm | exact mo_r0 hm | exact mo_r1 hm | exact mo_r2 hm | exact mo_r4 hm | exact mo_r6 hm | exact mo_r8 hm | exact mo_a1 hm | exact mo_a2 hm | exact mo_a3 hm | exact mo_a4 hm | exact mo_a5 hm | exact mo_a6 hm) ?_
      rw [tk_nj (by decide) (by decide), px_up_self]
      refine cd_X8_200 rfl ⟨⟨Nat.le_of_ble_eq_true rfl, Nat.le_of_ble_eq_true rfl⟩, Nat.le_of_ble_eq_true rfl, Nat.le_of_ble_eq_true rfl, Nat.le_of_ble_eq_true rfl⟩ dX8_readOrder_40 (s_X8_isLetter) ?_
      refine px_ifb_ne (tgt := 50) dX8_readOrder_43 (by decide) (fun h43 => (by first | exact absurd h43 (hl) | exact absurd (hl) h43)) (fun h43 => ?_)
      refine px_iconst (1) dX8_readOrder_46 rfl ?_
      refine px_goto (tgt := 51) dX8_readOrder_47 (by decide) ?_
      refine pf_X8_187 rfl (by first | exact Or.inl rfl | exact Or.inr rfl) dX8_readOrder_51 (by first | assumption | exact mo_a hm | exact mo_r0 hm | exact mo_r1 hm | exact mo_r2 hm | exact mo_r4 hm | exact mo_r6 hm | exact mo_r8 hm | exact mo_a1 hm | exact mo_a2 hm | exact mo_a3 hm | exact mo_a4 hm | exact mo_a5 hm | exact mo_a6 hm) ?_
      refine px_aload_0 dX8_readOrder_54 ?_
      refine px_dup dX8_readOrder_55 rfl ?_
      refine gf_X8_184 rfl dX8_readOrder_56 (by first | assumption | exact mo_a hm | exact mo_r0 hm | exact mo_r1 hm | exact mo_r2 hm | exact mo_r4 hm | exact mo_r6 hm | exact mo_r8 hm | exact mo_a1 hm | exact mo_a2 hm | exact mo_a3 hm | exact mo_a4 hm | exact mo_a5 hm | exact mo_a6 hm) ?_
      rw [px_up_nj (by decide), tk_9]
      refine px_aload_0 dX8_readOrder_59 ?_
      refine gf_X8_187 rfl dX8_readOrder_60 (by first | assumption | exact mo_a hm | exact mo_r0 hm | exact mo_r1 hm | exact mo_r2 hm | exact mo_r4 hm | exact mo_r6 hm | exact mo_r8 hm | exact mo_a1 hm | exact mo_a2 hm | exact mo_a3 hm | exact mo_a4 hm | exact mo_a5 hm | exact mo_a6 hm) ?_
      rw [px_up_self]
      refine px_if_eq (tgt := 70) dX8_readOrder_63 (by decide) (fun h63 => (by first | exact absurd h63 ((by decide)) | exact absurd ((by decide)) h63)) (fun h63 => ?_)
      refine px_iconst (0) dX8_readOrder_66 rfl ?_
      refine px_goto (tgt := 71) dX8_readOrder_67 (by decide) ?_
      refine px_iadd dX8_readOrder_71 ?_
      rw [show nI s + 0 = nI s from nI_add s 0]
      refine pf_X8_184 rfl dX8_readOrder_72 (by first | assumption | exact mo_a hm | exact mo_r0 hm | exact mo_r1 hm | exact mo_r2 hm | exact mo_r4 hm | exact mo_r6 hm | exact mo_r8 hm | exact mo_a1 hm | exact mo_a2 hm | exact mo_a3 hm | exact mo_a4 hm | exact mo_a5 hm | exact mo_a6 hm) ?_
      rw [show (1 : Int32) = if true = true then 1 else 0 from rfl, tk_tk]
      exact hA _
  obtain ⟨b1, b2, b3⟩ := hB
  by_cases hl : s < p.1
  · have e : c = p.2 s := by rw [← hc]; exact if_pos hl
    rw [e] at S25
    refine px_aload_0 dX8_readOrder_0 ?_
    refine px_aload_0 dX8_readOrder_1 ?_
    refine gf_X8_184 rfl dX8_readOrder_2 (by first | assumption | exact mo_a hm | exact mo_r0 hm | exact mo_r1 hm | exact mo_r2 hm | exact mo_r4 hm | exact mo_r6 hm | exact mo_r8 hm | exact mo_a1 hm | exact mo_a2 hm | exact mo_a3 hm | exact mo_a4 hm | exact mo_a5 hm | exact mo_a6 hm) ?_
    rw [tk_9]
    refine px_aload_0 dX8_readOrder_5 ?_
    refine gf_X8_156 rfl dX8_readOrder_6 (by first | assumption | exact mo_a hm | exact mo_r0 hm | exact mo_r1 hm | exact mo_r2 hm | exact mo_r4 hm | exact mo_r6 hm | exact mo_r8 hm | exact mo_a1 hm | exact mo_a2 hm | exact mo_a3 hm | exact mo_a4 hm | exact mo_a5 hm | exact mo_a6 hm) ?_
    rw [tk_nj (by decide) (by decide), b1]
    refine px_icmp_ge (tgt := 24) dX8_readOrder_9 (by decide) (fun h9 => (by first | exact absurd h9 ((nI_ge hl (by omega))) | exact absurd ((nI_ge hl (by omega))) h9)) (fun h9 => ?_)
    refine px_aload_0 dX8_readOrder_12 ?_
    refine gf_X8_22 rfl dX8_readOrder_13 (by first | assumption | exact mo_a hm | exact mo_r0 hm | exact mo_r1 hm | exact mo_r2 hm | exact mo_r4 hm | exact mo_r6 hm | exact mo_r8 hm | exact mo_a1 hm | exact mo_a2 hm | exact mo_a3 hm | exact mo_a4 hm | exact mo_a5 hm | exact mo_a6 hm) (by first | assumption | exact mo_a hm | exact mo_r0 hm | exact mo_r1 hm | exact mo_r2 hm | exact mo_r4 hm | exact mo_r6 hm | exact mo_r8 hm | exact mo_a1 hm | exact mo_a2 hm | exact mo_a3 hm | exact mo_a4 hm | exact mo_a5 hm | exact mo_a6 hm) ?_
    refine px_aload_0 dX8_readOrder_16 ?_
    refine gf_X8_184 rfl dX8_readOrder_17 (by first | assumption | exact mo_a hm | exact mo_r0 hm | exact mo_r1 hm | exact mo_r2 hm | exact mo_r4 hm | exact mo_r6 hm | exact mo_r8 hm | exact mo_a1 hm | exact mo_a2 hm | exact mo_a3 hm | exact mo_a4 hm | exact mo_a5 hm | exact mo_a6 hm) ?_
    refine px_ialdN dX8_readOrder_20 (by first | assumption | exact mo_a hm | exact mo_r0 hm | exact mo_r1 hm | exact mo_r2 hm | exact mo_r4 hm | exact mo_r6 hm | exact mo_r8 hm | exact mo_a1 hm | exact mo_a2 hm | exact mo_a3 hm | exact mo_a4 hm | exact mo_a5 hm | exact mo_a6 hm) (by exact tk_9) (by omega) ?_
    rw [tk_ne (by omega), b3 s hl]
    refine px_goto (tgt := 25) dX8_readOrder_21 (by decide) ?_
    exact S25
  · have e : c = 0 := by rw [← hc]; exact if_neg hl
    rw [e] at S25
    refine px_aload_0 dX8_readOrder_0 ?_
    refine px_aload_0 dX8_readOrder_1 ?_
    refine gf_X8_184 rfl dX8_readOrder_2 (by first | assumption | exact mo_a hm | exact mo_r0 hm | exact mo_r1 hm | exact mo_r2 hm | exact mo_r4 hm | exact mo_r6 hm | exact mo_r8 hm | exact mo_a1 hm | exact mo_a2 hm | exact mo_a3 hm | exact mo_a4 hm | exact mo_a5 hm | exact mo_a6 hm) ?_
    rw [tk_9]
    refine px_aload_0 dX8_readOrder_5 ?_
    refine gf_X8_156 rfl dX8_readOrder_6 (by first | assumption | exact mo_a hm | exact mo_r0 hm | exact mo_r1 hm | exact mo_r2 hm | exact mo_r4 hm | exact mo_r6 hm | exact mo_r8 hm | exact mo_a1 hm | exact mo_a2 hm | exact mo_a3 hm | exact mo_a4 hm | exact mo_a5 hm | exact mo_a6 hm) ?_
    rw [tk_nj (by decide) (by decide), b1]
    refine px_icmp_ge (tgt := 24) dX8_readOrder_9 (by decide) (fun h9 => ?_) (fun h9 => (by first | exact absurd ((nI_le (Nat.not_lt.mp hl) (by omega))) h9 | exact absurd h9 ((nI_le (Nat.not_lt.mp hl) (by omega)))))
    refine px_iconst (0) dX8_readOrder_24 rfl ?_
    exact S25
/-! what an order does -/
def f_do (σ : px_s) (c a b d : Int32) : Int32 × px_s :=
  if c = 114 then f_road σ a b d else if c = 112 then f_price σ a d else if c = 103 then f_guard σ a d else if c = 99 then f_cart σ a d else if c = 98 then f_buy σ a d else if c = 115 then f_sell σ a d else if c = 104 then f_go σ a d 1 else f_go σ a d 0
theorem V_do (h : px_VV σ) (c a b d : Int32) : px_VV (f_do σ c a b d).2 := by
  unfold f_do
  split
  · exact V_addroad h
  · split
    · exact V_fprice h
    · split
      · exact V_guard h
      · split
        · exact V_addcart h
        · split
          · exact V_buy h
          · split
            · exact V_sell h
            · split
              · exact V_go h
              · exact V_go h
theorem s_X8_does {c a b d : Int32} (hm : px_mo G T R m) (hV : px_VV (I (m + 1))) (h11 : I m 11 = c) (h12 : I m 12 = a) (h13 : I m 13 = b) (h14 : I m 14 = d) (hl : q_let c) : px_K l G 4 mX8_does ([.ref m]) ((T, I, J, R)) (some (.int (f_do (I (m + 1)) c a b d).1)) ((T, px_set I (m + 1) (f_do (I (m + 1)) c a b d).2, J, R)) := by
  have hcoin : ∀ q, q < f_nc (I (m + 1)) → 0 ≤ I (m + 1) (94 + 8 * q + 1) := fun q hq => by
    have := (rg_of (hV.2 q hq)).1
    rw [Int32.le_iff_toInt_le]
    exact this
  refine px_met (M := mX8_does) ([some (.ref m)]) (by decide +kernel) rfl (Nat.le_of_ble_eq_true rfl) rfl ?_
  rcases hl with rfl | rfl | rfl | rfl | rfl | rfl | rfl | rfl
  · rw [show f_do (I (m + 1)) 114 a b d = f_road (I (m + 1)) a b d from if_pos rfl]
    refine px_aload_0 dX8_does_0 ?_
    refine gf_X8_197 rfl dX8_does_1 (by first | assumption | exact mo_a hm | exact mo_r0 hm | exact mo_r1 hm | exact mo_r2 hm | exact mo_r4 hm | exact mo_r6 hm | exact mo_r8 hm | exact mo_a1 hm | exact mo_a2 hm | exact mo_a3 hm | exact mo_a4 hm | exact mo_a5 hm | exact mo_a6 hm) ?_
    rw [h11]
    refine px_tableIn (off := 88) (tgt := 92) dX8_does_4 (by decide) (by decide) rfl (by decide) ?_
    refine px_aload_0 dX8_does_92 ?_
    refine px_aload_0 dX8_does_93 ?_
    refine gf_X8_206 rfl dX8_does_94 (by first | assumption | exact mo_a hm | exact mo_r0 hm | exact mo_r1 hm | exact mo_r2 hm | exact mo_r4 hm | exact mo_r6 hm | exact mo_r8 hm | exact mo_a1 hm | exact mo_a2 hm | exact mo_a3 hm | exact mo_a4 hm | exact mo_a5 hm | exact mo_a6 hm) ?_
    rw [h12]
    refine px_aload_0 dX8_does_97 ?_
    refine gf_X8_209 rfl dX8_does_98 (by first | assumption | exact mo_a hm | exact mo_r0 hm | exact mo_r1 hm | exact mo_r2 hm | exact mo_r4 hm | exact mo_r6 hm | exact mo_r8 hm | exact mo_a1 hm | exact mo_a2 hm | exact mo_a3 hm | exact mo_a4 hm | exact mo_a5 hm | exact mo_a6 hm) ?_
    rw [h13]
    refine px_aload_0 dX8_does_101 ?_
    refine gf_X8_215 rfl dX8_does_102 (by first | assumption | exact mo_a hm | exact mo_r0 hm | exact mo_r1 hm | exact mo_r2 hm | exact mo_r4 hm | exact mo_r6 hm | exact mo_r8 hm | exact mo_a1 hm | exact mo_a2 hm | exact mo_a3 hm | exact mo_a4 hm | exact mo_a5 hm | exact mo_a6 hm) ?_
    rw [h14]
    refine cd_X8_111 rfl ⟨⟨Nat.le_of_ble_eq_true rfl, Nat.le_of_ble_eq_true rfl⟩, Nat.le_of_ble_eq_true rfl, Nat.le_of_ble_eq_true rfl, Nat.le_of_ble_eq_true rfl⟩ (by first | assumption | exact mo_a hm | exact mo_r0 hm | exact mo_r1 hm | exact mo_r2 hm | exact mo_r4 hm | exact mo_r6 hm | exact mo_r8 hm | exact mo_a1 hm | exact mo_a2 hm | exact mo_a3 hm | exact mo_a4 hm | exact mo_a5 hm | exact mo_a6 hm) dX8_does_105 (s_X8_addsRoad hm hV.1) ?_
    refine px_iret dX8_does_108 ?_
    exact ⟨rfl, rfl⟩
  · rw [show f_do (I (m + 1)) 112 a b d = f_price (I (m + 1)) a d by rw [f_do, if_neg (by decide), if_pos rfl]]
    refine px_aload_0 dX8_does_0 ?_
    refine gf_X8_197 rfl dX8_does_1 (by first | assumption | exact mo_a hm | exact mo_r0 hm | exact mo_r1 hm | exact mo_r2 hm | exact mo_r4 hm | exact mo_r6 hm | exact mo_r8 hm | exact mo_a1 hm | exact mo_a2 hm | exact mo_a3 hm | exact mo_a4 hm | exact mo_a5 hm | exact mo_a6 hm) ?_
    rw [h11]
    refine px_tableIn (off := 105) (tgt := 109) dX8_does_4 (by decide) (by decide) rfl (by decide) ?_
    refine px_aload_0 dX8_does_109 ?_
    refine px_aload_0 dX8_does_110 ?_
    refine gf_X8_206 rfl dX8_does_111 (by first | assumption | exact mo_a hm | exact mo_r0 hm | exact mo_r1 hm | exact mo_r2 hm | exact mo_r4 hm | exact mo_r6 hm | exact mo_r8 hm | exact mo_a1 hm | exact mo_a2 hm | exact mo_a3 hm | exact mo_a4 hm | exact mo_a5 hm | exact mo_a6 hm) ?_
    rw [h12]
    refine px_aload_0 dX8_does_114 ?_
    refine gf_X8_215 rfl dX8_does_115 (by first | assumption | exact mo_a hm | exact mo_r0 hm | exact mo_r1 hm | exact mo_r2 hm | exact mo_r4 hm | exact mo_r6 hm | exact mo_r8 hm | exact mo_a1 hm | exact mo_a2 hm | exact mo_a3 hm | exact mo_a4 hm | exact mo_a5 hm | exact mo_a6 hm) ?_
    rw [h14]
    refine cd_X8_115 rfl ⟨⟨Nat.le_of_ble_eq_true rfl, Nat.le_of_ble_eq_true rfl⟩, Nat.le_of_ble_eq_true rfl, Nat.le_of_ble_eq_true rfl, Nat.le_of_ble_eq_true rfl⟩ (by first | assumption | exact mo_a hm | exact mo_r0 hm | exact mo_r1 hm | exact mo_r2 hm | exact mo_r4 hm | exact mo_r6 hm | exact mo_r8 hm | exact mo_a1 hm | exact mo_a2 hm | exact mo_a3 hm | exact mo_a4 hm | exact mo_a5 hm | exact mo_a6 hm) dX8_does_118 (s_X8_prices hm) ?_
    refine px_iret dX8_does_121 ?_
    exact ⟨rfl, rfl⟩
  · rw [show f_do (I (m + 1)) 103 a b d = f_guard (I (m + 1)) a d by rw [f_do, if_neg (by decide), if_neg (by decide), if_pos rfl]]
    refine px_aload_0 dX8_does_0 ?_
    refine gf_X8_197 rfl dX8_does_1 (by first | assumption | exact mo_a hm | exact mo_r0 hm | exact mo_r1 hm | exact mo_r2 hm | exact mo_r4 hm | exact mo_r6 hm | exact mo_r8 hm | exact mo_a1 hm | exact mo_a2 hm | exact mo_a3 hm | exact mo_a4 hm | exact mo_a5 hm | exact mo_a6 hm) ?_
    rw [h11]
    refine px_tableIn (off := 118) (tgt := 122) dX8_does_4 (by decide) (by decide) rfl (by decide) ?_
    refine px_aload_0 dX8_does_122 ?_
    refine px_aload_0 dX8_does_123 ?_
    refine gf_X8_206 rfl dX8_does_124 (by first | assumption | exact mo_a hm | exact mo_r0 hm | exact mo_r1 hm | exact mo_r2 hm | exact mo_r4 hm | exact mo_r6 hm | exact mo_r8 hm | exact mo_a1 hm | exact mo_a2 hm | exact mo_a3 hm | exact mo_a4 hm | exact mo_a5 hm | exact mo_a6 hm) ?_
    rw [h12]
    refine px_aload_0 dX8_does_127 ?_
    refine gf_X8_215 rfl dX8_does_128 (by first | assumption | exact mo_a hm | exact mo_r0 hm | exact mo_r1 hm | exact mo_r2 hm | exact mo_r4 hm | exact mo_r6 hm | exact mo_r8 hm | exact mo_a1 hm | exact mo_a2 hm | exact mo_a3 hm | exact mo_a4 hm | exact mo_a5 hm | exact mo_a6 hm) ?_
    rw [h14]
    refine cd_X8_121 rfl ⟨⟨Nat.le_of_ble_eq_true rfl, Nat.le_of_ble_eq_true rfl⟩, Nat.le_of_ble_eq_true rfl, Nat.le_of_ble_eq_true rfl, Nat.le_of_ble_eq_true rfl⟩ (by first | assumption | exact mo_a hm | exact mo_r0 hm | exact mo_r1 hm | exact mo_r2 hm | exact mo_r4 hm | exact mo_r6 hm | exact mo_r8 hm | exact mo_a1 hm | exact mo_a2 hm | exact mo_a3 hm | exact mo_a4 hm | exact mo_a5 hm | exact mo_a6 hm) dX8_does_131 (s_X8_setsGuards hm hV.1) ?_
    refine px_iret dX8_does_134 ?_
    exact ⟨rfl, rfl⟩
  · rw [show f_do (I (m + 1)) 99 a b d = f_cart (I (m + 1)) a d by rw [f_do, if_neg (by decide), if_neg (by decide), if_neg (by decide), if_pos rfl]]
    refine px_aload_0 dX8_does_0 ?_
    refine gf_X8_197 rfl dX8_does_1 (by first | assumption | exact mo_a hm | exact mo_r0 hm | exact mo_r1 hm | exact mo_r2 hm | exact mo_r4 hm | exact mo_r6 hm | exact mo_r8 hm | exact mo_a1 hm | exact mo_a2 hm | exact mo_a3 hm | exact mo_a4 hm | exact mo_a5 hm | exact mo_a6 hm) ?_
    rw [h11]
    refine px_tableIn (off := 131) (tgt := 135) dX8_does_4 (by decide) (by decide) rfl (by decide) ?_
    refine px_aload_0 dX8_does_135 ?_
    refine px_aload_0 dX8_does_136 ?_
    refine gf_X8_206 rfl dX8_does_137 (by first | assumption | exact mo_a hm | exact mo_r0 hm | exact mo_r1 hm | exact mo_r2 hm | exact mo_r4 hm | exact mo_r6 hm | exact mo_r8 hm | exact mo_a1 hm | exact mo_a2 hm | exact mo_a3 hm | exact mo_a4 hm | exact mo_a5 hm | exact mo_a6 hm) ?_
    rw [h12]
    refine px_aload_0 dX8_does_140 ?_
    refine gf_X8_215 rfl dX8_does_141 (by first | assumption | exact mo_a hm | exact mo_r0 hm | exact mo_r1 hm | exact mo_r2 hm | exact mo_r4 hm | exact mo_r6 hm | exact mo_r8 hm | exact mo_a1 hm | exact mo_a2 hm | exact mo_a3 hm | exact mo_a4 hm | exact mo_a5 hm | exact mo_a6 hm) ?_
    rw [h14]
    refine cd_X8_131 rfl ⟨⟨Nat.le_of_ble_eq_true rfl, Nat.le_of_ble_eq_true rfl⟩, Nat.le_of_ble_eq_true rfl, Nat.le_of_ble_eq_true rfl, Nat.le_of_ble_eq_true rfl⟩ (by first | assumption | exact mo_a hm | exact mo_r0 hm | exact mo_r1 hm | exact mo_r2 hm | exact mo_r4 hm | exact mo_r6 hm | exact mo_r8 hm | exact mo_a1 hm | exact mo_a2 hm | exact mo_a3 hm | exact mo_a4 hm | exact mo_a5 hm | exact mo_a6 hm) dX8_does_144 (s_X8_addsCart hm hV.1) ?_
    refine px_iret dX8_does_147 ?_
    exact ⟨rfl, rfl⟩
  · rw [show f_do (I (m + 1)) 98 a b d = f_buy (I (m + 1)) a d by rw [f_do, if_neg (by decide), if_neg (by decide), if_neg (by decide), if_neg (by decide), if_pos rfl]]
    refine px_aload_0 dX8_does_0 ?_
    refine gf_X8_197 rfl dX8_does_1 (by first | assumption | exact mo_a hm | exact mo_r0 hm | exact mo_r1 hm | exact mo_r2 hm | exact mo_r4 hm | exact mo_r6 hm | exact mo_r8 hm | exact mo_a1 hm | exact mo_a2 hm | exact mo_a3 hm | exact mo_a4 hm | exact mo_a5 hm | exact mo_a6 hm) ?_
    rw [h11]
    refine px_tableIn (off := 144) (tgt := 148) dX8_does_4 (by decide) (by decide) rfl (by decide) ?_
    refine px_aload_0 dX8_does_148 ?_
    refine px_aload_0 dX8_does_149 ?_
    refine gf_X8_206 rfl dX8_does_150 (by first | assumption | exact mo_a hm | exact mo_r0 hm | exact mo_r1 hm | exact mo_r2 hm | exact mo_r4 hm | exact mo_r6 hm | exact mo_r8 hm | exact mo_a1 hm | exact mo_a2 hm | exact mo_a3 hm | exact mo_a4 hm | exact mo_a5 hm | exact mo_a6 hm) ?_
    rw [h12]
    refine px_aload_0 dX8_does_153 ?_
    refine gf_X8_215 rfl dX8_does_154 (by first | assumption | exact mo_a hm | exact mo_r0 hm | exact mo_r1 hm | exact mo_r2 hm | exact mo_r4 hm | exact mo_r6 hm | exact mo_r8 hm | exact mo_a1 hm | exact mo_a2 hm | exact mo_a3 hm | exact mo_a4 hm | exact mo_a5 hm | exact mo_a6 hm) ?_
    rw [h14]
    refine cd_X8_137 rfl ⟨⟨Nat.le_of_ble_eq_true rfl, Nat.le_of_ble_eq_true rfl⟩, Nat.le_of_ble_eq_true rfl, Nat.le_of_ble_eq_true rfl, Nat.le_of_ble_eq_true rfl⟩ (by first | assumption | exact mo_a hm | exact mo_r0 hm | exact mo_r1 hm | exact mo_r2 hm | exact mo_r4 hm | exact mo_r6 hm | exact mo_r8 hm | exact mo_a1 hm | exact mo_a2 hm | exact mo_a3 hm | exact mo_a4 hm | exact mo_a5 hm | exact mo_a6 hm) dX8_does_157 (s_X8_buys hm hV.1) ?_
    refine px_iret dX8_does_160 ?_
    exact ⟨rfl, rfl⟩
  · rw [show f_do (I (m + 1)) 115 a b d = f_sell (I (m + 1)) a d by rw [f_do, if_neg (by decide), if_neg (by decide), if_neg (by decide), if_neg (by decide), if_neg (by decide), if_pos rfl]]
    refine px_aload_0 dX8_does_0 ?_
    refine gf_X8_197 rfl dX8_does_1 (by first | assumption | exact mo_a hm | exact mo_r0 hm | exact mo_r1 hm | exact mo_r2 hm | exact mo_r4 hm | exact mo_r6 hm | exact mo_r8 hm | exact mo_a1 hm | exact mo_a2 hm | exact mo_a3 hm | exact mo_a4 hm | exact mo_a5 hm | exact mo_a6 hm) ?_
    rw [h11]
    refine px_tableIn (off := 157) (tgt := 161) dX8_does_4 (by decide) (by decide) rfl (by decide) ?_
    refine px_aload_0 dX8_does_161 ?_
    refine px_aload_0 dX8_does_162 ?_
    refine gf_X8_206 rfl dX8_does_163 (by first | assumption | exact mo_a hm | exact mo_r0 hm | exact mo_r1 hm | exact mo_r2 hm | exact mo_r4 hm | exact mo_r6 hm | exact mo_r8 hm | exact mo_a1 hm | exact mo_a2 hm | exact mo_a3 hm | exact mo_a4 hm | exact mo_a5 hm | exact mo_a6 hm) ?_
    rw [h12]
    refine px_aload_0 dX8_does_166 ?_
    refine gf_X8_215 rfl dX8_does_167 (by first | assumption | exact mo_a hm | exact mo_r0 hm | exact mo_r1 hm | exact mo_r2 hm | exact mo_r4 hm | exact mo_r6 hm | exact mo_r8 hm | exact mo_a1 hm | exact mo_a2 hm | exact mo_a3 hm | exact mo_a4 hm | exact mo_a5 hm | exact mo_a6 hm) ?_
    rw [h14]
    refine cd_X8_140 rfl ⟨⟨Nat.le_of_ble_eq_true rfl, Nat.le_of_ble_eq_true rfl⟩, Nat.le_of_ble_eq_true rfl, Nat.le_of_ble_eq_true rfl, Nat.le_of_ble_eq_true rfl⟩ (by first | assumption | exact mo_a hm | exact mo_r0 hm | exact mo_r1 hm | exact mo_r2 hm | exact mo_r4 hm | exact mo_r6 hm | exact mo_r8 hm | exact mo_a1 hm | exact mo_a2 hm | exact mo_a3 hm | exact mo_a4 hm | exact mo_a5 hm | exact mo_a6 hm) dX8_does_170 (s_X8_sells hm hV.1) ?_
    refine px_iret dX8_does_173 ?_
    exact ⟨rfl, rfl⟩
  · rw [show f_do (I (m + 1)) 111 a b d = f_go (I (m + 1)) a d 0 by rw [f_do, if_neg (by decide), if_neg (by decide), if_neg (by decide), if_neg (by decide), if_neg (by decide), if_neg (by decide), if_neg (by decide)]]
    refine px_aload_0 dX8_does_0 ?_
    refine gf_X8_197 rfl dX8_does_1 (by first | assumption | exact mo_a hm | exact mo_r0 hm | exact mo_r1 hm | exact mo_r2 hm | exact mo_r4 hm | exact mo_r6 hm | exact mo_r8 hm | exact mo_a1 hm | exact mo_a2 hm | exact mo_a3 hm | exact mo_a4 hm | exact mo_a5 hm | exact mo_a6 hm) ?_
    rw [h11]
    refine px_tableIn (off := 170) (tgt := 174) dX8_does_4 (by decide) (by decide) rfl (by decide) ?_
    refine px_aload_0 dX8_does_174 ?_
    refine px_aload_0 dX8_does_175 ?_
    refine gf_X8_206 rfl dX8_does_176 (by first | assumption | exact mo_a hm | exact mo_r0 hm | exact mo_r1 hm | exact mo_r2 hm | exact mo_r4 hm | exact mo_r6 hm | exact mo_r8 hm | exact mo_a1 hm | exact mo_a2 hm | exact mo_a3 hm | exact mo_a4 hm | exact mo_a5 hm | exact mo_a6 hm) ?_
    rw [h12]
    refine px_aload_0 dX8_does_179 ?_
    refine gf_X8_215 rfl dX8_does_180 (by first | assumption | exact mo_a hm | exact mo_r0 hm | exact mo_r1 hm | exact mo_r2 hm | exact mo_r4 hm | exact mo_r6 hm | exact mo_r8 hm | exact mo_a1 hm | exact mo_a2 hm | exact mo_a3 hm | exact mo_a4 hm | exact mo_a5 hm | exact mo_a6 hm) ?_
    rw [h14]
    refine px_aload_0 dX8_does_183 ?_
    refine gf_X8_197 rfl dX8_does_184 (by first | assumption | exact mo_a hm | exact mo_r0 hm | exact mo_r1 hm | exact mo_r2 hm | exact mo_r4 hm | exact mo_r6 hm | exact mo_r8 hm | exact mo_a1 hm | exact mo_a2 hm | exact mo_a3 hm | exact mo_a4 hm | exact mo_a5 hm | exact mo_a6 hm) ?_
    rw [h11]
    refine px_bipush (104) dX8_does_187 rfl ?_
    refine px_icmp_ne (tgt := 196) dX8_does_189 (by decide) (fun h189 => ?_) (fun h189 => (by first | exact absurd ((by decide)) h189 | exact absurd h189 ((by decide))))
    refine px_iconst (0) dX8_does_196 rfl ?_
    refine cd_X8_153 rfl ⟨⟨Nat.le_of_ble_eq_true rfl, Nat.le_of_ble_eq_true rfl⟩, Nat.le_of_ble_eq_true rfl, Nat.le_of_ble_eq_true rfl, Nat.le_of_ble_eq_true rfl⟩ (by first | assumption | exact mo_a hm | exact mo_r0 hm | exact mo_r1 hm | exact mo_r2 hm | exact mo_r4 hm | exact mo_r6 hm | exact mo_r8 hm | exact mo_a1 hm | exact mo_a2 hm | exact mo_a3 hm | exact mo_a4 hm | exact mo_a5 hm | exact mo_a6 hm) dX8_does_197 (s_X8_goes hm hV.1 hcoin) ?_
    refine px_iret dX8_does_200 ?_
    exact ⟨rfl, rfl⟩
  · rw [show f_do (I (m + 1)) 104 a b d = f_go (I (m + 1)) a d 1 by rw [f_do, if_neg (by decide), if_neg (by decide), if_neg (by decide), if_neg (by decide), if_neg (by decide), if_neg (by decide), if_pos rfl]]
    refine px_aload_0 dX8_does_0 ?_
    refine gf_X8_197 rfl dX8_does_1 (by first | assumption | exact mo_a hm | exact mo_r0 hm | exact mo_r1 hm | exact mo_r2 hm | exact mo_r4 hm | exact mo_r6 hm | exact mo_r8 hm | exact mo_a1 hm | exact mo_a2 hm | exact mo_a3 hm | exact mo_a4 hm | exact mo_a5 hm | exact mo_a6 hm) ?_
    rw [h11]
    refine px_tableIn (off := 170) (tgt := 174) dX8_does_4 (by decide) (by decide) rfl (by decide) ?_
    refine px_aload_0 dX8_does_174 ?_
    refine px_aload_0 dX8_does_175 ?_
    refine gf_X8_206 rfl dX8_does_176 (by first | assumption | exact mo_a hm | exact mo_r0 hm | exact mo_r1 hm | exact mo_r2 hm | exact mo_r4 hm | exact mo_r6 hm | exact mo_r8 hm | exact mo_a1 hm | exact mo_a2 hm | exact mo_a3 hm | exact mo_a4 hm | exact mo_a5 hm | exact mo_a6 hm) ?_
    rw [h12]
    refine px_aload_0 dX8_does_179 ?_
    refine gf_X8_215 rfl dX8_does_180 (by first | assumption | exact mo_a hm | exact mo_r0 hm | exact mo_r1 hm | exact mo_r2 hm | exact mo_r4 hm | exact mo_r6 hm | exact mo_r8 hm | exact mo_a1 hm | exact mo_a2 hm | exact mo_a3 hm | exact mo_a4 hm | exact mo_a5 hm | exact mo_a6 hm) ?_
    rw [h14]
    refine px_aload_0 dX8_does_183 ?_
    refine gf_X8_197 rfl dX8_does_184 (by first | assumption | exact mo_a hm | exact mo_r0 hm | exact mo_r1 hm | exact mo_r2 hm | exact mo_r4 hm | exact mo_r6 hm | exact mo_r8 hm | exact mo_a1 hm | exact mo_a2 hm | exact mo_a3 hm | exact mo_a4 hm | exact mo_a5 hm | exact mo_a6 hm) ?_
    rw [h11]
    refine px_bipush (104) dX8_does_187 rfl ?_
    refine px_icmp_ne (tgt := 196) dX8_does_189 (by decide) (fun h189 => (by first | exact absurd h189 (rfl) | exact absurd (rfl) h189)) (fun h189 => ?_)
    refine px_iconst (1) dX8_does_192 rfl ?_
    refine px_goto (tgt := 197) dX8_does_193 (by decide) ?_
    refine cd_X8_153 rfl ⟨⟨Nat.le_of_ble_eq_true rfl, Nat.le_of_ble_eq_true rfl⟩, Nat.le_of_ble_eq_true rfl, Nat.le_of_ble_eq_true rfl, Nat.le_of_ble_eq_true rfl⟩ (by first | assumption | exact mo_a hm | exact mo_r0 hm | exact mo_r1 hm | exact mo_r2 hm | exact mo_r4 hm | exact mo_r6 hm | exact mo_r8 hm | exact mo_a1 hm | exact mo_a2 hm | exact mo_a3 hm | exact mo_a4 hm | exact mo_a5 hm | exact mo_a6 hm) dX8_does_197 (s_X8_goes hm hV.1 hcoin) ?_
    refine px_iret dX8_does_200 ?_
    exact ⟨rfl, rfl⟩
end MR2

