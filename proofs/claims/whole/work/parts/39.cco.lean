section CCO
variable {l : Launch} {G : px_G} {T : px_T} {I I' : px_I} {J : px_J} {R : px_R} {μ : px_M} {x h w : Nat} {σ τ : px_s} {A : px_a} {kn : Nat} {H : Nat → px_s}
theorem flt_go {p : px_p} (h80 : p.1 ≤ 80) (hf : f_flt p = -6) : q_go p 81 0 = none := by
  cases hg : q_go p 81 0 with
  | none => rfl
  | some z =>
    exfalso
    rw [f_flt, hg] at hf
    have hz : ∀ k s, s ≤ p.1 → ∀ z, q_go p k s = some z → z ≤ p.1 := by
      intro k
      induction k with
      | zero => intro s _ z hz; exact absurd hz (by simp [q_go])
      | succ k ih =>
        intro s hs z hz
        have hle := ord_le (p := p) hs
        rw [q_go] at hz
        split at hz
        · rw [← Option.some.inj hz]; exact hle
        · split at hz
          · rename_i hl
            split at hz
            · exact ih _ hl z hz
            · rw [← Option.some.inj hz]; exact hle
          · exact absurd hz (by simp)
    have hzl := hz 81 0 (Nat.zero_le _) z hg
    exact absurd (show (nI z).toInt = (-6 : Int32).toInt from congrArg Int32.toInt hf) (by rw [nI_ti (by omega), show (-6 : Int32).toInt = -6 from rfl]; omega)
theorem s_X7_carryOut (hx : px_co G T R x) (h : px_CI I x A) (hV : px_AV A) : px_C l G 8 0 0 mX7_carryOut [.ref x] (T, I, J, R) (px_Qx T I J R x (.int (a_co A).1) (a_co A).2) := by
  have hcp := h.2.2.2.2.1
  have h80 := hcp.2.1
  refine px_met (M := mX7_carryOut) ([some (.ref x), none]) (by decide +kernel) rfl (Nat.le_of_ble_eq_true rfl) rfl ?_
  have hff := s_X3_findFault (l := l) (J := J) (co_re hx) (co_pa hx) hcp (by omega)
  by_cases hf : f_flt A.2.2.2 = -6
  · have ha : a_co A = (nI (q_do A.2.2.2 81 0 A.1 0).1, ((q_do A.2.2.2 81 0 A.1 0).2, h_push A.2.1.1 A.2.1.2 A.1, A.2.2.1, (0, A.2.2.2.2))) := if_pos hf
    have hgo := flt_go h80 hf
    rw [ha]
    rw [hf] at hff
    clear ha
    generalize hD : q_do A.2.2.2 81 0 A.1 0 = D
    generalize hQ : px_Qx T I J R x (.int (nI D.1)) (D.2, h_push A.2.1.1 A.2.1.2 A.1, A.2.2.1, (0, A.2.2.2.2)) = Q
    -- the end
    have S75 : ∀ (I1 : px_I) (n : Nat) (τ : px_s), n ≤ 80 → px_VV τ → D = (n, τ) → px_ag I1 (x + 1) τ → px_ch1 I1 (x + 26) A.2.1.1 A.2.1.2 A.1 → (∀ a, (a < x + 1 ∨ x + 203 ≤ a) → a ≠ x + 207 → I1 a = I a) → (px_W l G yX7_carryOut cX7_carryOut 2 (some .int) (px_rm 8 0 0) (px_Fn G Q 0 0) 75 [some (.ref x), some (.int (nI n))] [] 0 0 (T, I1, J, R)) := by
      intro I1 n τ hn hVt hq hA1 c1 g1
      rw [hq] at hQ
      refine px_aload_0 dX7_carryOut_75 ?_
      refine gf_X7_34 rfl dX7_carryOut_76 (by first | assumption | exact co_a hx | exact co_r0 hx | exact co_r1 hx | exact co_r4 hx | exact co_r5 hx | exact co_w hx | exact co_h hx | exact pa_a (co_pa hx) | exact (co_re hx).1) (by first | assumption | exact co_a hx | exact co_r0 hx | exact co_r1 hx | exact co_r4 hx | exact co_r5 hx | exact co_w hx | exact co_h hx | exact pa_a (co_pa hx) | exact (co_re hx).1) ?_
      refine px_iconst (0) dX7_carryOut_79 rfl ?_
      refine pf_X7_113 rfl dX7_carryOut_80 (by first | assumption | exact co_a hx | exact co_r0 hx | exact co_r1 hx | exact co_r4 hx | exact co_r5 hx | exact co_w hx | exact co_h hx | exact pa_a (co_pa hx) | exact (co_re hx).1) ?_
      refine px_aload_0 dX7_carryOut_83 ?_
      refine px_iload_1 dX7_carryOut_84 ?_
      refine cg_X7_71 rfl ⟨⟨Nat.le_of_ble_eq_true rfl, Nat.le_of_ble_eq_true rfl⟩, Nat.le_of_ble_eq_true rfl, Nat.le_of_ble_eq_true rfl, Nat.le_of_ble_eq_true rfl⟩ (by first | assumption | exact co_a hx | exact co_r0 hx | exact co_r1 hx | exact co_r4 hx | exact co_r5 hx | exact co_w hx | exact co_h hx | exact pa_a (co_pa hx) | exact (co_re hx).1) dX7_carryOut_85 (s_X7_recorded hx (ch1_congr c1 hV.2.1 hV.1 (fun a a1 a2 => px_up_ne (by omega))) hV.2.1 hV.1) ?_
      rintro v μ' ⟨rfl, hu⟩; rw [if_neg (nI_pos (by omega))] at hu; obtain ⟨I3, rfl, -, k1, k2⟩ := hu
      refine px_iret dX7_carryOut_88 ?_
      skip
      subst hQ
      have ff : ∀ a, (a < x + 1 ∨ x + 203 ≤ a) → a ≠ x + 207 → a ≠ x + 205 → I3 a = I a := fun a z1 z2 z3 => by rw [k2 a (by omega), px_up_ne z3, g1 a z1 z2]
      refine ⟨rfl, I3, J, rfl, ⟨ag_congr hA1 hVt.1 (fun a a1 a2 => by rw [k2 a (by omega), px_up_ne (by omega)]), k1, ⟨fun s hs => by rw [ff _ (by omega) (by omega) (by omega)]; exact h.2.2.1 s hs, fun s hs hk => ag_congr (h.2.2.2.1 s hs hk) (hV.2.2 s hs hk).1 (fun a a1 a2 => ff a (by omega) (by omega) (by omega)), ⟨by rw [k2 _ (by omega)]; exact px_up_self _ _ _ _, Nat.zero_le _, fun i hi => absurd hi (Nat.not_lt_zero i)⟩, by rw [ff _ (by omega) (by omega) (by omega)]; exact h.2.2.2.2.2.1, by rw [ff _ (by omega) (by omega) (by omega)]; exact h.2.2.2.2.2.2⟩⟩, fun a ha => ff a (by omega) (by omega) (by omega), fun a ha => rfl⟩
    have hcpI : ∀ I1 : px_I, (∀ a, (a < x + 1 ∨ x + 203 ≤ a) → a ≠ x + 207 → I1 a = I a) → px_cp I1 (x + 205) A.2.2.2 := fun I1 g => cp_congr hcp (g _ (by omega) (by omega)) (g _ (by omega) (by omega))
    -- at the end of the text
    have S36 : ∀ (I1 : px_I) (n : Nat) (τ : px_s), n ≤ 80 → px_VV τ → D = (n, τ) → px_ag I1 (x + 1) τ → px_ch1 I1 (x + 26) A.2.1.1 A.2.1.2 A.1 → (∀ a, (a < x + 1 ∨ x + 203 ≤ a) → a ≠ x + 207 → I1 a = I a) → I1 (x + 207) 1 = nI A.2.2.2.1 → (px_W l G yX7_carryOut cX7_carryOut 2 (some .int) (px_rm 8 0 0) (px_Fn G Q 0 0) 36 [some (.ref x), some (.int (nI n))] [] 0 0 (T, I1, J, R)) := by
      intro I1 n τ hn hVt hq hA1 c1 g1 hat
      have ho := s_X3_readOrder (l := l) (J := J) (co_re hx) (co_pa hx) (hcpI I1 g1) hat (Nat.le_refl _) (by omega)
      have e0 : (q_ord A.2.2.2 A.2.2.2.1).1 = false := by
        have e : q_ch A.2.2.2 A.2.2.2.1 = 0 := if_neg (Nat.lt_irrefl _)
        unfold q_ord
        dsimp only
        rw [e, if_pos let0]
      unfold px_Qq at ho
      rw [e0] at ho
      by_cases h8 : n = 80
      · subst h8
        refine px_iload_1 dX7_carryOut_36 ?_
        refine px_bipush (80) dX7_carryOut_37 rfl ?_
        refine px_icmp_ge (tgt := 75) dX7_carryOut_39 (by decide) (fun h39 => ?_) (fun h39 => (by first | exact absurd ((by decide)) h39 | exact absurd h39 ((by decide))))
        exact S75 I1 80 τ hn hVt hq hA1 c1 g1
      · skip
        refine px_iload_1 dX7_carryOut_36 ?_
        refine px_bipush (80) dX7_carryOut_37 rfl ?_
        refine px_icmp_ge (tgt := 75) dX7_carryOut_39 (by decide) (fun h39 => (by first | exact absurd h39 ((nI_ge (a := n) (b := 80) (by omega) (by omega))) | exact absurd ((nI_ge (a := n) (b := 80) (by omega) (by omega))) h39)) (fun h39 => ?_)
        refine px_aload_0 dX7_carryOut_42 ?_
        refine gf_X7_43 rfl dX7_carryOut_43 (by first | assumption | exact co_a hx | exact co_r0 hx | exact co_r1 hx | exact co_r4 hx | exact co_r5 hx | exact co_w hx | exact co_h hx | exact pa_a (co_pa hx) | exact (co_re hx).1) (by first | assumption | exact co_a hx | exact co_r0 hx | exact co_r1 hx | exact co_r4 hx | exact co_r5 hx | exact co_w hx | exact co_h hx | exact pa_a (co_pa hx) | exact (co_re hx).1) ?_
        refine cg_X7_309 rfl ⟨⟨Nat.le_of_ble_eq_true rfl, Nat.le_of_ble_eq_true rfl⟩, Nat.le_of_ble_eq_true rfl, Nat.le_of_ble_eq_true rfl, Nat.le_of_ble_eq_true rfl⟩ (by first | assumption | exact co_a hx | exact co_r0 hx | exact co_r1 hx | exact co_r4 hx | exact co_r5 hx | exact co_w hx | exact co_h hx | exact pa_a (co_pa hx) | exact (co_re hx).1) dX7_carryOut_46 (ho) ?_
        rintro v μ' ⟨rfl, I2, rfl, k1, k2, k3⟩
        refine px_ifb_eq (tgt := 75) dX7_carryOut_49 (by decide) (fun h49 => ?_) (fun h49 => (by first | exact absurd (Bool.false_ne_true) h49 | exact absurd h49 (Bool.false_ne_true)))
        exact S75 I2 n τ hn hVt hq (ag_congr hA1 hVt.1 (fun a a1 a2 => k1 a (by omega))) (ch1_congr c1 hV.2.1 hV.1 (fun a a1 a2 => k1 a (by omega))) (fun a z1 z2 => (k1 a z2).trans (g1 a z1 z2))
    have L : ∀ k s (I1 : px_I) (n : Nat) (τ : px_s), s ≤ A.2.2.2.1 → A.2.2.2.1 < s + k → n ≤ s → px_VV τ → q_go A.2.2.2 k s = none → D = q_do A.2.2.2 k s τ n → px_ag I1 (x + 1) τ → px_ch1 I1 (x + 26) A.2.1.1 A.2.1.2 A.1 → (∀ a, (a < x + 1 ∨ x + 203 ≤ a) → a ≠ x + 207 → I1 a = I a) → I1 (x + 207) 1 = nI s → (px_W l G yX7_carryOut cX7_carryOut 2 (some .int) (px_rm 8 0 0) (px_Fn G Q 0 0) 36 [some (.ref x), some (.int (nI n))] [] 0 0 (T, I1, J, R)) := by
      intro k
      induction k with
      | zero => intro s I1 n τ h1 h2; exact absurd h2 (by omega)
      | succ k ih =>
        intro s I1 n τ hs hk hns hVt hgo2 hq hA1 c1 g1 hat
        have hle := ord_le (p := A.2.2.2) hs
        have ho : (q_ord A.2.2.2 s).1 = true := by
          cases ho : (q_ord A.2.2.2 s).1
          · rw [q_go, if_pos ho] at hgo2; exact absurd hgo2 (by simp)
          · rfl
        have hlt := ord_gt ho
        obtain ⟨-, ov⟩ := ord_g A.2.2.2 s
        obtain ⟨hlet, -, -, -, hov⟩ := ov ho
        have hl2 : q_let (q_ord A.2.2.2 s).2.2.1 := by rw [hov]; exact hlet
        have hord := s_X3_readOrder (l := l) (J := J) (co_re hx) (co_pa hx) (hcpI I1 g1) hat hs (by omega)
        unfold px_Qq at hord
        rw [ho] at hord
        rw [q_do] at hq
        try dsimp only at hq
        have hVd := V_do hVt (q_ord A.2.2.2 s).2.2.1 (q_ord A.2.2.2 s).2.2.2.1 (q_ord A.2.2.2 s).2.2.2.2.1 (q_ord A.2.2.2 s).2.2.2.2.2
        have hdo : ∀ I2 : px_I, (∀ b, b ≠ x + 207 → I2 b = I1 b) → (true = true → I2 (x + 207) 2 = (q_ord A.2.2.2 s).2.2.1 ∧ I2 (x + 207) 3 = (q_ord A.2.2.2 s).2.2.2.1 ∧ ((q_ord A.2.2.2 s).2.2.1 = 114 → I2 (x + 207) 4 = (q_ord A.2.2.2 s).2.2.2.2.1) ∧ I2 (x + 207) 5 = (q_ord A.2.2.2 s).2.2.2.2.2) → px_C l G 5 0 0 mX7_obey [.ref x] (T, I2, J, R) (px_Q1 T I2 J R (x + 1) (f_do τ (q_ord A.2.2.2 s).2.2.1 (q_ord A.2.2.2 s).2.2.2.1 (q_ord A.2.2.2 s).2.2.2.2.1 (q_ord A.2.2.2 s).2.2.2.2.2)) := by
          intro I2 j1 j2
          obtain ⟨e1, e2, e3, e4⟩ := j2 rfl
          exact s_X7_obey hx (ag_congr hA1 hVt.1 (fun a a1 a2 => j1 a (by omega))) hVt e1 e2 e3 e4 hl2
        generalize f_do τ (q_ord A.2.2.2 s).2.2.1 (q_ord A.2.2.2 s).2.2.2.1 (q_ord A.2.2.2 s).2.2.2.2.1 (q_ord A.2.2.2 s).2.2.2.2.2 = q at hdo hq hVd
        have hn80 : ¬ nI 80 ≤ nI n := nI_ge (a := n) (b := 80) (by omega) (by omega)
        by_cases hneg : q.1 < 0
        · rw [if_pos hneg] at hq
          refine px_iload_1 dX7_carryOut_36 ?_
          refine px_bipush (80) dX7_carryOut_37 rfl ?_
          refine px_icmp_ge (tgt := 75) dX7_carryOut_39 (by decide) (fun h39 => (by first | exact absurd h39 (hn80) | exact absurd (hn80) h39)) (fun h39 => ?_)
          refine px_aload_0 dX7_carryOut_42 ?_
          refine gf_X7_43 rfl dX7_carryOut_43 (by first | assumption | exact co_a hx | exact co_r0 hx | exact co_r1 hx | exact co_r4 hx | exact co_r5 hx | exact co_w hx | exact co_h hx | exact pa_a (co_pa hx) | exact (co_re hx).1) (by first | assumption | exact co_a hx | exact co_r0 hx | exact co_r1 hx | exact co_r4 hx | exact co_r5 hx | exact co_w hx | exact co_h hx | exact pa_a (co_pa hx) | exact (co_re hx).1) ?_
          refine cg_X7_309 rfl ⟨⟨Nat.le_of_ble_eq_true rfl, Nat.le_of_ble_eq_true rfl⟩, Nat.le_of_ble_eq_true rfl, Nat.le_of_ble_eq_true rfl, Nat.le_of_ble_eq_true rfl⟩ (by first | assumption | exact co_a hx | exact co_r0 hx | exact co_r1 hx | exact co_r4 hx | exact co_r5 hx | exact co_w hx | exact co_h hx | exact pa_a (co_pa hx) | exact (co_re hx).1) dX7_carryOut_46 (hord) ?_
          rintro v μ' ⟨rfl, I2, rfl, k1, k2, k3⟩
          refine px_ifb_eq (tgt := 75) dX7_carryOut_49 (by decide) (fun h49 => (by first | exact absurd h49 (rfl) | exact absurd (rfl) h49)) (fun h49 => ?_)
          refine px_aload_0 dX7_carryOut_52 ?_
          refine cg_X7_312 rfl ⟨⟨Nat.le_of_ble_eq_true rfl, Nat.le_of_ble_eq_true rfl⟩, Nat.le_of_ble_eq_true rfl, Nat.le_of_ble_eq_true rfl, Nat.le_of_ble_eq_true rfl⟩ (by first | assumption | exact co_a hx | exact co_r0 hx | exact co_r1 hx | exact co_r4 hx | exact co_r5 hx | exact co_w hx | exact co_h hx | exact pa_a (co_pa hx) | exact (co_re hx).1) dX7_carryOut_53 (hdo I2 k1 k3) ?_
          rintro v μ' ⟨I3, rfl, rfl, j1, j2⟩
          refine px_if_lt (tgt := 75) dX7_carryOut_56 (by decide) (fun h56 => ?_) (fun h56 => (by first | exact absurd (hneg) h56 | exact absurd h56 (hneg)))
          exact S75 I3 n q.2 (by omega) hVd hq j1 (ch1_congr c1 hV.2.1 hV.1 (fun a a1 a2 => by rw [j2 a (by omega), k1 a (by omega)])) (fun a z1 z2 => by rw [j2 a (by omega), k1 a z2, g1 a z1 z2])
        · rw [if_neg hneg] at hq
          by_cases hl : (q_ord A.2.2.2 s).2.1 < A.2.2.2.1
          · rw [if_pos hl] at hq
            have h59 : q_ch A.2.2.2 (q_ord A.2.2.2 s).2.1 = 59 := by
              refine Classical.byContradiction (fun z => ?_)
              rw [q_go, if_neg (by rw [ho]; decide), if_pos hl, if_neg z] at hgo2
              exact absurd hgo2 (by simp)
            have hgo3 : q_go A.2.2.2 k ((q_ord A.2.2.2 s).2.1 + 1) = none := by rw [q_go, if_neg (by rw [ho]; decide), if_pos hl, if_pos h59] at hgo2; exact hgo2
            refine px_iload_1 dX7_carryOut_36 ?_
            refine px_bipush (80) dX7_carryOut_37 rfl ?_
            refine px_icmp_ge (tgt := 75) dX7_carryOut_39 (by decide) (fun h39 => (by first | exact absurd h39 (hn80) | exact absurd (hn80) h39)) (fun h39 => ?_)
            refine px_aload_0 dX7_carryOut_42 ?_
            refine gf_X7_43 rfl dX7_carryOut_43 (by first | assumption | exact co_a hx | exact co_r0 hx | exact co_r1 hx | exact co_r4 hx | exact co_r5 hx | exact co_w hx | exact co_h hx | exact pa_a (co_pa hx) | exact (co_re hx).1) (by first | assumption | exact co_a hx | exact co_r0 hx | exact co_r1 hx | exact co_r4 hx | exact co_r5 hx | exact co_w hx | exact co_h hx | exact pa_a (co_pa hx) | exact (co_re hx).1) ?_
            refine cg_X7_309 rfl ⟨⟨Nat.le_of_ble_eq_true rfl, Nat.le_of_ble_eq_true rfl⟩, Nat.le_of_ble_eq_true rfl, Nat.le_of_ble_eq_true rfl, Nat.le_of_ble_eq_true rfl⟩ (by first | assumption | exact co_a hx | exact co_r0 hx | exact co_r1 hx | exact co_r4 hx | exact co_r5 hx | exact co_w hx | exact co_h hx | exact pa_a (co_pa hx) | exact (co_re hx).1) dX7_carryOut_46 (hord) ?_
            rintro v μ' ⟨rfl, I2, rfl, k1, k2, k3⟩
            refine px_ifb_eq (tgt := 75) dX7_carryOut_49 (by decide) (fun h49 => (by first | exact absurd h49 (rfl) | exact absurd (rfl) h49)) (fun h49 => ?_)
            refine px_aload_0 dX7_carryOut_52 ?_
            refine cg_X7_312 rfl ⟨⟨Nat.le_of_ble_eq_true rfl, Nat.le_of_ble_eq_true rfl⟩, Nat.le_of_ble_eq_true rfl, Nat.le_of_ble_eq_true rfl, Nat.le_of_ble_eq_true rfl⟩ (by first | assumption | exact co_a hx | exact co_r0 hx | exact co_r1 hx | exact co_r4 hx | exact co_r5 hx | exact co_w hx | exact co_h hx | exact pa_a (co_pa hx) | exact (co_re hx).1) dX7_carryOut_53 (hdo I2 k1 k3) ?_
            rintro v μ' ⟨I3, rfl, rfl, j1, j2⟩; have g3 : ∀ a, (a < x + 1 ∨ x + 203 ≤ a) → a ≠ x + 207 → I3 a = I a := fun a z1 z2 => (by rw [j2 a (by omega), k1 a z2, g1 a z1 z2]); have hat3 : I3 (x + 207) 1 = nI (q_ord A.2.2.2 s).2.1 := (by rw [j2 _ (by omega)]; exact k2); have hsg := s_X3_readSign (l := l) (J := J) (c := 59) (co_re hx) (co_pa hx) (hcpI I3 g3) hat3 (by omega); rw [if_pos (c := q_ch A.2.2.2 (q_ord A.2.2.2 s).2.1 = 59) (t := px_up I3 (x + 207) 1 (nI ((q_ord A.2.2.2 s).2.1 + 1))) h59] at hsg
            refine px_if_lt (tgt := 75) dX7_carryOut_56 (by decide) (fun h56 => (by first | exact absurd h56 (hneg) | exact absurd (hneg) h56)) (fun h56 => ?_)
            refine px_iinc_1 dX7_carryOut_59 rfl ?_
            refine px_aload_0 dX7_carryOut_62 ?_
            refine gf_X7_43 rfl dX7_carryOut_63 (by first | assumption | exact co_a hx | exact co_r0 hx | exact co_r1 hx | exact co_r4 hx | exact co_r5 hx | exact co_w hx | exact co_h hx | exact pa_a (co_pa hx) | exact (co_re hx).1) (by first | assumption | exact co_a hx | exact co_r0 hx | exact co_r1 hx | exact co_r4 hx | exact co_r5 hx | exact co_w hx | exact co_h hx | exact pa_a (co_pa hx) | exact (co_re hx).1) ?_
            refine px_bipush (59) dX7_carryOut_66 rfl ?_
            refine cd_X7_315 rfl ⟨⟨Nat.le_of_ble_eq_true rfl, Nat.le_of_ble_eq_true rfl⟩, Nat.le_of_ble_eq_true rfl, Nat.le_of_ble_eq_true rfl, Nat.le_of_ble_eq_true rfl⟩ (by first | assumption | exact co_a hx | exact co_r0 hx | exact co_r1 hx | exact co_r4 hx | exact co_r5 hx | exact co_w hx | exact co_h hx | exact pa_a (co_pa hx) | exact (co_re hx).1) dX7_carryOut_68 (hsg) ?_
            refine px_pop dX7_carryOut_71 rfl ?_
            refine px_goto (tgt := 36) dX7_carryOut_72 (by decide) ?_
            rw [inc_nI]; exact ih _ _ _ _ hl (by omega) (by omega) hVd hgo3 hq (ag_congr j1 hVd.1 (fun a a1 a2 => px_up_ne (by omega))) (ch1_congr c1 hV.2.1 hV.1 (fun a a1 a2 => by rw [px_up_ne (by omega), j2 a (by omega), k1 a (by omega)])) (fun a z1 z2 => by rw [px_up_ne z2]; exact g3 a z1 z2) (px_up_self _ _ _ _)
          · rw [if_neg hl] at hq
            have he : (q_ord A.2.2.2 s).2.1 = A.2.2.2.1 := by omega
            have h59 : ¬ q_ch A.2.2.2 (q_ord A.2.2.2 s).2.1 = 59 := by rw [q_ch, if_neg hl]; decide
            refine px_iload_1 dX7_carryOut_36 ?_
            refine px_bipush (80) dX7_carryOut_37 rfl ?_
            refine px_icmp_ge (tgt := 75) dX7_carryOut_39 (by decide) (fun h39 => (by first | exact absurd h39 (hn80) | exact absurd (hn80) h39)) (fun h39 => ?_)
            refine px_aload_0 dX7_carryOut_42 ?_
            refine gf_X7_43 rfl dX7_carryOut_43 (by first | assumption | exact co_a hx | exact co_r0 hx | exact co_r1 hx | exact co_r4 hx | exact co_r5 hx | exact co_w hx | exact co_h hx | exact pa_a (co_pa hx) | exact (co_re hx).1) (by first | assumption | exact co_a hx | exact co_r0 hx | exact co_r1 hx | exact co_r4 hx | exact co_r5 hx | exact co_w hx | exact co_h hx | exact pa_a (co_pa hx) | exact (co_re hx).1) ?_
            refine cg_X7_309 rfl ⟨⟨Nat.le_of_ble_eq_true rfl, Nat.le_of_ble_eq_true rfl⟩, Nat.le_of_ble_eq_true rfl, Nat.le_of_ble_eq_true rfl, Nat.le_of_ble_eq_true rfl⟩ (by first | assumption | exact co_a hx | exact co_r0 hx | exact co_r1 hx | exact co_r4 hx | exact co_r5 hx | exact co_w hx | exact co_h hx | exact pa_a (co_pa hx) | exact (co_re hx).1) dX7_carryOut_46 (hord) ?_
            rintro v μ' ⟨rfl, I2, rfl, k1, k2, k3⟩
            refine px_ifb_eq (tgt := 75) dX7_carryOut_49 (by decide) (fun h49 => (by first | exact absurd h49 (rfl) | exact absurd (rfl) h49)) (fun h49 => ?_)
            refine px_aload_0 dX7_carryOut_52 ?_
            refine cg_X7_312 rfl ⟨⟨Nat.le_of_ble_eq_true rfl, Nat.le_of_ble_eq_true rfl⟩, Nat.le_of_ble_eq_true rfl, Nat.le_of_ble_eq_true rfl, Nat.le_of_ble_eq_true rfl⟩ (by first | assumption | exact co_a hx | exact co_r0 hx | exact co_r1 hx | exact co_r4 hx | exact co_r5 hx | exact co_w hx | exact co_h hx | exact pa_a (co_pa hx) | exact (co_re hx).1) dX7_carryOut_53 (hdo I2 k1 k3) ?_
            rintro v μ' ⟨I3, rfl, rfl, j1, j2⟩; have g3 : ∀ a, (a < x + 1 ∨ x + 203 ≤ a) → a ≠ x + 207 → I3 a = I a := fun a z1 z2 => (by rw [j2 a (by omega), k1 a z2, g1 a z1 z2]); have hat3 : I3 (x + 207) 1 = nI (q_ord A.2.2.2 s).2.1 := (by rw [j2 _ (by omega)]; exact k2); have hsg := s_X3_readSign (l := l) (J := J) (c := 59) (co_re hx) (co_pa hx) (hcpI I3 g3) hat3 (by omega); rw [if_neg (c := q_ch A.2.2.2 (q_ord A.2.2.2 s).2.1 = 59) (t := px_up I3 (x + 207) 1 (nI ((q_ord A.2.2.2 s).2.1 + 1))) h59] at hsg
            refine px_if_lt (tgt := 75) dX7_carryOut_56 (by decide) (fun h56 => (by first | exact absurd h56 (hneg) | exact absurd (hneg) h56)) (fun h56 => ?_)
            refine px_iinc_1 dX7_carryOut_59 rfl ?_
            refine px_aload_0 dX7_carryOut_62 ?_
            refine gf_X7_43 rfl dX7_carryOut_63 (by first | assumption | exact co_a hx | exact co_r0 hx | exact co_r1 hx | exact co_r4 hx | exact co_r5 hx | exact co_w hx | exact co_h hx | exact pa_a (co_pa hx) | exact (co_re hx).1) (by first | assumption | exact co_a hx | exact co_r0 hx | exact co_r1 hx | exact co_r4 hx | exact co_r5 hx | exact co_w hx | exact co_h hx | exact pa_a (co_pa hx) | exact (co_re hx).1) ?_
            refine px_bipush (59) dX7_carryOut_66 rfl ?_
            refine cd_X7_315 rfl ⟨⟨Nat.le_of_ble_eq_true rfl, Nat.le_of_ble_eq_true rfl⟩, Nat.le_of_ble_eq_true rfl, Nat.le_of_ble_eq_true rfl, Nat.le_of_ble_eq_true rfl⟩ (by first | assumption | exact co_a hx | exact co_r0 hx | exact co_r1 hx | exact co_r4 hx | exact co_r5 hx | exact co_w hx | exact co_h hx | exact pa_a (co_pa hx) | exact (co_re hx).1) dX7_carryOut_68 (hsg) ?_
            refine px_pop dX7_carryOut_71 rfl ?_
            refine px_goto (tgt := 36) dX7_carryOut_72 (by decide) ?_
            rw [inc_nI]; exact S36 I3 (n + 1) q.2 (by omega) hVd hq j1 (ch1_congr c1 hV.2.1 hV.1 (fun a a1 a2 => by rw [j2 a (by omega), k1 a (by omega)])) g3 (by rw [hat3, he])
    refine px_aload_0 dX7_carryOut_0 ?_
    refine gf_X7_43 rfl dX7_carryOut_1 (by first | assumption | exact co_a hx | exact co_r0 hx | exact co_r1 hx | exact co_r4 hx | exact co_r5 hx | exact co_w hx | exact co_h hx | exact pa_a (co_pa hx) | exact (co_re hx).1) (by first | assumption | exact co_a hx | exact co_r0 hx | exact co_r1 hx | exact co_r4 hx | exact co_r5 hx | exact co_w hx | exact co_h hx | exact pa_a (co_pa hx) | exact (co_re hx).1) ?_
    refine cg_X7_303 rfl ⟨⟨Nat.le_of_ble_eq_true rfl, Nat.le_of_ble_eq_true rfl⟩, Nat.le_of_ble_eq_true rfl, Nat.le_of_ble_eq_true rfl, Nat.le_of_ble_eq_true rfl⟩ (by first | assumption | exact co_a hx | exact co_r0 hx | exact co_r1 hx | exact co_r4 hx | exact co_r5 hx | exact co_w hx | exact co_h hx | exact pa_a (co_pa hx) | exact (co_re hx).1) dX7_carryOut_4 (hff) ?_
    rintro v μ' ⟨rfl, I1, rfl, g1⟩; have hA1 := ag_congr h.1 hV.1.1 (fun a a1 a2 => g1 a (by omega)); have hch1 := ch_congr h.2.1 hV.2.1 (fun a a1 a2 => g1 a (by omega))
    refine px_bipush (-6) dX7_carryOut_7 rfl ?_
    refine px_icmp_eq (tgt := 15) dX7_carryOut_9 (by decide) (fun h9 => ?_) (fun h9 => (by first | exact absurd (rfl) h9 | exact absurd h9 (rfl)))
    refine px_aload_0 dX7_carryOut_15 ?_
    refine gf_X7_19 rfl dX7_carryOut_16 (by first | assumption | exact co_a hx | exact co_r0 hx | exact co_r1 hx | exact co_r4 hx | exact co_r5 hx | exact co_w hx | exact co_h hx | exact pa_a (co_pa hx) | exact (co_re hx).1) (by first | assumption | exact co_a hx | exact co_r0 hx | exact co_r1 hx | exact co_r4 hx | exact co_r5 hx | exact co_w hx | exact co_h hx | exact pa_a (co_pa hx) | exact (co_re hx).1) ?_
    refine px_aload_0 dX7_carryOut_19 ?_
    refine gf_X7_10 rfl dX7_carryOut_20 (by first | assumption | exact co_a hx | exact co_r0 hx | exact co_r1 hx | exact co_r4 hx | exact co_r5 hx | exact co_w hx | exact co_h hx | exact pa_a (co_pa hx) | exact (co_re hx).1) (by first | assumption | exact co_a hx | exact co_r0 hx | exact co_r1 hx | exact co_r4 hx | exact co_r5 hx | exact co_w hx | exact co_h hx | exact pa_a (co_pa hx) | exact (co_re hx).1) ?_
    refine cg_X7_63 rfl ⟨⟨Nat.le_of_ble_eq_true rfl, Nat.le_of_ble_eq_true rfl⟩, Nat.le_of_ble_eq_true rfl, Nat.le_of_ble_eq_true rfl, Nat.le_of_ble_eq_true rfl⟩ (by first | assumption | exact co_a hx | exact co_r0 hx | exact co_r1 hx | exact co_r4 hx | exact co_r5 hx | exact co_w hx | exact co_h hx | exact pa_a (co_pa hx) | exact (co_re hx).1) dX7_carryOut_23 (s_X1_keepInMind (co_hs hx) (co_wo hx) (by omega) hch1 hV.2.1 hA1 hV.1.1) ?_
    rintro v μ' ⟨I2, rfl, rfl, c1, f1⟩
    refine px_aload_0 dX7_carryOut_26 ?_
    refine gf_X7_43 rfl dX7_carryOut_27 (by first | assumption | exact co_a hx | exact co_r0 hx | exact co_r1 hx | exact co_r4 hx | exact co_r5 hx | exact co_w hx | exact co_h hx | exact pa_a (co_pa hx) | exact (co_re hx).1) (by first | assumption | exact co_a hx | exact co_r0 hx | exact co_r1 hx | exact co_r4 hx | exact co_r5 hx | exact co_w hx | exact co_h hx | exact pa_a (co_pa hx) | exact (co_re hx).1) ?_
    refine px_iconst (0) dX7_carryOut_30 rfl ?_
    refine pf_X7_306 rfl dX7_carryOut_31 (by first | assumption | exact co_a hx | exact co_r0 hx | exact co_r1 hx | exact co_r4 hx | exact co_r5 hx | exact co_w hx | exact co_h hx | exact pa_a (co_pa hx) | exact (co_re hx).1) ?_
    refine px_iconst (0) dX7_carryOut_34 rfl ?_
    refine px_istore_1 dX7_carryOut_35 rfl ?_
    exact L 81 0 _ 0 A.1 (Nat.zero_le _) (by omega) (Nat.le_refl _) hV.1 hgo hD.symm (ag_congr hA1 hV.1.1 (fun a a1 a2 => by rw [px_up_ne (by omega), f1 a (by omega)])) (ch1_congr c1 hV.2.1 hV.1 (fun a a1 a2 => px_up_ne (by omega))) (fun a z1 z2 => by rw [px_up_ne z2, f1 a (by omega), g1 a z2]) (px_up_self _ _ _ _)
  · have ha : a_co A = (-3, A) := if_neg hf
    rw [ha]
    refine px_aload_0 dX7_carryOut_0 ?_
    refine gf_X7_43 rfl dX7_carryOut_1 (by first | assumption | exact co_a hx | exact co_r0 hx | exact co_r1 hx | exact co_r4 hx | exact co_r5 hx | exact co_w hx | exact co_h hx | exact pa_a (co_pa hx) | exact (co_re hx).1) (by first | assumption | exact co_a hx | exact co_r0 hx | exact co_r1 hx | exact co_r4 hx | exact co_r5 hx | exact co_w hx | exact co_h hx | exact pa_a (co_pa hx) | exact (co_re hx).1) ?_
    refine cg_X7_303 rfl ⟨⟨Nat.le_of_ble_eq_true rfl, Nat.le_of_ble_eq_true rfl⟩, Nat.le_of_ble_eq_true rfl, Nat.le_of_ble_eq_true rfl, Nat.le_of_ble_eq_true rfl⟩ (by first | assumption | exact co_a hx | exact co_r0 hx | exact co_r1 hx | exact co_r4 hx | exact co_r5 hx | exact co_w hx | exact co_h hx | exact pa_a (co_pa hx) | exact (co_re hx).1) dX7_carryOut_4 (hff) ?_
    rintro v μ' ⟨rfl, I1, rfl, g⟩
    refine px_bipush (-6) dX7_carryOut_7 rfl ?_
    refine px_icmp_eq (tgt := 15) dX7_carryOut_9 (by decide) (fun h9 => (by first | exact absurd h9 (hf) | exact absurd (hf) h9)) (fun h9 => ?_)
    refine px_bipush (-3) dX7_carryOut_12 rfl ?_
    refine px_iret dX7_carryOut_14 ?_
    skip
    exact ⟨rfl, I1, J, rfl, ⟨ag_congr h.1 hV.1.1 (fun a a1 a2 => g a (by omega)), ch_congr h.2.1 hV.2.1 (fun a a1 a2 => g a (by omega)), ⟨fun s hs => by rw [g _ (by omega)]; exact h.2.2.1 s hs, fun s hs hk => ag_congr (h.2.2.2.1 s hs hk) (hV.2.2 s hs hk).1 (fun a a1 a2 => g a (by omega)), cp_congr h.2.2.2.2.1 (g _ (by omega)) (g _ (by omega)), by rw [g _ (by omega)]; exact h.2.2.2.2.2.1, by rw [g _ (by omega)]; exact h.2.2.2.2.2.2⟩⟩, fun a ha => g a (by omega), fun a ha => rfl⟩
end CCO

