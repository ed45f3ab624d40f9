section MQ3
variable {l : Launch} {G : px_G} {T : px_T} {I : px_I} {J : px_J} {R : px_R} {μ : px_M} {m : Nat} {σ : px_s}
theorem one_sub {u : Int32} {k : Nat} (e : u = nI k) (hk : k < 2) : 1 - u = nI (1 - k) := by rw [e]; exact pk_sub (a := 1) (by omega)
theorem s_X8_isHonest {v u : Int32} {r k : Nat} [Decidable (f_hon (I (m + 1)) r k)] (hm : px_mo G T R m) (hV : px_V (I (m + 1))) (e : v = nI r) (hr : r < f_nr (I (m + 1))) (e2 : u = nI k) (hk : k < 2) : px_K l G 3 mX8_isHonest ([.ref m, .int v, .int u]) ((T, I, J, R)) (some (.int (if f_hon (I (m + 1)) r k then 1 else 0))) ((T, I, J, R)) := by
  have h14 := hV.1.2.1
  obtain ⟨hf, h1, h2⟩ := ends_of hV hr hk
  obtain ⟨x1, l1⟩ := ix_of_nI h1
  obtain ⟨x2, l2⟩ := ix_of_nI h2
  refine px_met (M := mX8_isHonest) ([some (.ref m), some (.int v), some (.int u)]) (by decide +kernel) rfl (Nat.le_of_ble_eq_true rfl) rfl ?_
  refine px_aload_0 dX8_isHonest_0 ?_
  refine gf_X8_7 rfl dX8_isHonest_1 (by first | assumption | exact mo_a hm | exact mo_r0 hm | exact mo_r1 hm | exact mo_r2 hm | exact mo_r4 hm | exact mo_r6 hm | exact mo_r8 hm | exact mo_a1 hm | exact mo_a2 hm | exact mo_a3 hm | exact mo_a4 hm | exact mo_a5 hm | exact mo_a6 hm) (by first | assumption | exact mo_a hm | exact mo_r0 hm | exact mo_r1 hm | exact mo_r2 hm | exact mo_r4 hm | exact mo_r6 hm | exact mo_r8 hm | exact mo_a1 hm | exact mo_a2 hm | exact mo_a3 hm | exact mo_a4 hm | exact mo_a5 hm | exact mo_a6 hm) ?_
  refine px_iconst (0) dX8_isHonest_4 rfl ?_
  refine px_aload_0 dX8_isHonest_5 ?_
  refine px_iload_1 dX8_isHonest_6 ?_
  refine px_iconst (1) dX8_isHonest_7 rfl ?_
  refine px_iload_2 dX8_isHonest_8 ?_
  refine px_isub dX8_isHonest_9 ?_
  refine cd_X8_48 rfl ⟨⟨Nat.le_of_ble_eq_true rfl, Nat.le_of_ble_eq_true rfl⟩, Nat.le_of_ble_eq_true rfl, Nat.le_of_ble_eq_true rfl, Nat.le_of_ble_eq_true rfl⟩ (by first | assumption | exact mo_a hm | exact mo_r0 hm | exact mo_r1 hm | exact mo_r2 hm | exact mo_r4 hm | exact mo_r6 hm | exact mo_r8 hm | exact mo_a1 hm | exact mo_a2 hm | exact mo_a3 hm | exact mo_a4 hm | exact mo_a5 hm | exact mo_a6 hm) dX8_isHonest_10 (s_X8_end hm e (by omega) (one_sub e2 hk) (by omega)) ?_
  refine px_iadd dX8_isHonest_13 ?_
  rw [z_add]
  refine px_ialdN dX8_isHonest_14 (by first | assumption | exact mo_a hm | exact mo_r0 hm | exact mo_r1 hm | exact mo_r2 hm | exact mo_r4 hm | exact mo_r6 hm | exact mo_r8 hm | exact mo_a1 hm | exact mo_a2 hm | exact mo_a3 hm | exact mo_a4 hm | exact mo_a5 hm | exact mo_a6 hm) (by exact x2) (by omega) ?_
  refine px_aload_0 dX8_isHonest_15 ?_
  refine px_iload_1 dX8_isHonest_16 ?_
  refine px_iload_2 dX8_isHonest_17 ?_
  refine cd_X8_57 rfl ⟨⟨Nat.le_of_ble_eq_true rfl, Nat.le_of_ble_eq_true rfl⟩, Nat.le_of_ble_eq_true rfl, Nat.le_of_ble_eq_true rfl, Nat.le_of_ble_eq_true rfl⟩ (by first | assumption | exact mo_a hm | exact mo_r0 hm | exact mo_r1 hm | exact mo_r2 hm | exact mo_r4 hm | exact mo_r6 hm | exact mo_r8 hm | exact mo_a1 hm | exact mo_a2 hm | exact mo_a3 hm | exact mo_a4 hm | exact mo_a5 hm | exact mo_a6 hm) dX8_isHonest_18 (s_X8_mostAt hm e (by omega) e2 hk ⟨x1, l1⟩) ?_
  refine px_icmp_gt (tgt := 28) dX8_isHonest_21 (by decide) (fun h21 => ?_) (fun h21 => ?_)
  · skip
    refine px_iconst (0) dX8_isHonest_28 rfl ?_
    refine px_zret dX8_isHonest_29 (by first | rfl | exact px_nb _) ?_
    first | exact ⟨by rw [if_pos (show f_hon _ r k from Int32.not_lt.mp h21)], rfl⟩ | exact ⟨by rw [if_neg (show ¬ f_hon _ r k from Int32.not_le.mpr h21)], rfl⟩
  · skip
    refine px_iconst (1) dX8_isHonest_24 rfl ?_
    refine px_goto (tgt := 29) dX8_isHonest_25 (by decide) ?_
    refine px_zret dX8_isHonest_29 (by first | rfl | exact px_nb _) ?_
    first | exact ⟨by rw [if_pos (show f_hon _ r k from Int32.not_lt.mp h21)], rfl⟩ | exact ⟨by rw [if_neg (show ¬ f_hon _ r k from Int32.not_le.mpr h21)], rfl⟩
/-- what dishonest tells of the ends from place n on -/
def f_dis (σ : px_s) (n : Nat) (d : Int32) : Prop := (d = -6 ∧ ∀ q, n ≤ q → q < 2 * f_nr σ → f_hon σ (q / 2) (q % 2)) ∨ ∃ q, q < 2 * f_nr σ ∧ d = nI q ∧ ¬ f_hon σ (q / 2) (q % 2)
theorem dec_m1 (x : Int32) : x + Int32.ofInt (-1) = x - 1 := by rw [Int32.sub_eq_add_neg]; rfl
theorem s_X8_dishonest (hm : px_mo G T R m) (hV : px_V (I (m + 1))) : px_C l G 4 0 0 mX8_dishonest [.ref m] (T, I, J, R) (fun v μ' => μ' = (T, I, J, R) ∧ ∃ d, v = some (.int d) ∧ f_dis (I (m + 1)) 0 d) := by
  have hn := hV.1.1
  have h14 := hV.1.2.1
  refine px_met (M := mX8_dishonest) ([some (.ref m), none, none]) (by decide +kernel) rfl (Nat.le_of_ble_eq_true rfl) rfl ?_
  generalize hQ : (fun v μ' => μ' = (T, I, J, R) ∧ ∃ d, v = some (.int d) ∧ f_dis (I (m + 1)) 0 d : Option Value → px_M → Prop) = Q
  have L : ∀ n, n ≤ 2 * f_nr (I (m + 1)) → ∀ d, f_dis (I (m + 1)) n d → (px_W l G yX8_dishonest cX8_dishonest 3 (some .int) (px_rm 4 0 0) (px_Fn G Q 0 0) 15 [some (.ref m), some (.int d), some (.int (nI n - 1))] [] 0 0 (T, I, J, R)) := by
    intro n
    induction n with
    | zero =>
      intro _ d hd
      refine px_iload_2 dX8_dishonest_15 ?_
      refine px_if_lt (tgt := 44) dX8_dishonest_16 (by decide) (fun h16 => ?_) (fun h16 => (by first | exact absurd ((by decide)) h16 | exact absurd h16 ((by decide))))
      refine px_iload_1 dX8_dishonest_44 ?_
      refine px_iret dX8_dishonest_45 ?_
      subst hQ; exact ⟨rfl, d, rfl, hd⟩
    | succ n ih =>
      intro hle d hd
      rw [nI_pred]
      have hnl : ¬ nI n < 0 := nI_pos (by omega)
      have hq : n / 2 < f_nr (I (m + 1)) := by omega
      have e1 : nI n / 2 = nI (n / 2) := pk_div (d := 2) (by omega) (by decide) (by decide)
      have e2 : nI n - nI n / 2 * 2 = nI (n % 2) := pk_rem (d := 2) (by omega) (by decide) (by decide)
      have hk : n % 2 < 2 := Nat.mod_lt _ (by decide)
      letI := Classical.propDecidable (f_hon (I (m + 1)) (n / 2) (n % 2))
      have hi := s_X8_isHonest (l := l) (J := J) (v := nI n / 2) (u := nI n - nI n / 2 * 2) hm hV e1 hq e2 hk
      by_cases hh : f_hon (I (m + 1)) (n / 2) (n % 2)
      · have hd2 : f_dis (I (m + 1)) n d := by
          rcases hd with ⟨rfl, g⟩ | g
          · refine Or.inl ⟨rfl, fun q h1 h2 => ?_⟩
            rcases (by omega : q = n ∨ n + 1 ≤ q) with rfl | q1
            · exact hh
            · exact g q q1 h2
          · exact Or.inr g
        refine px_iload_2 dX8_dishonest_15 ?_
        refine px_if_lt (tgt := 44) dX8_dishonest_16 (by decide) (fun h16 => (by first | exact absurd h16 (hnl) | exact absurd (hnl) h16)) (fun h16 => ?_)
        refine px_aload_0 dX8_dishonest_19 ?_
        refine px_iload_2 dX8_dishonest_20 ?_
        refine px_iconst (2) dX8_dishonest_21 rfl ?_
        refine px_idiv dX8_dishonest_22 (by decide) ?_
        refine px_iload_2 dX8_dishonest_23 ?_
        refine px_iconst (2) dX8_dishonest_24 rfl ?_
        refine px_irem dX8_dishonest_25 (by decide) ?_
        refine cd_X8_60 rfl ⟨⟨Nat.le_of_ble_eq_true rfl, Nat.le_of_ble_eq_true rfl⟩, Nat.le_of_ble_eq_true rfl, Nat.le_of_ble_eq_true rfl, Nat.le_of_ble_eq_true rfl⟩ (by first | assumption | exact mo_a hm | exact mo_r0 hm | exact mo_r1 hm | exact mo_r2 hm | exact mo_r4 hm | exact mo_r6 hm | exact mo_r8 hm | exact mo_a1 hm | exact mo_a2 hm | exact mo_a3 hm | exact mo_a4 hm | exact mo_a5 hm | exact mo_a6 hm) dX8_dishonest_26 (hi) ?_
        refine px_ifb_eq (tgt := 36) dX8_dishonest_29 (by decide) (fun h29 => (by first | exact absurd h29 (hh) | exact absurd (hh) h29)) (fun h29 => ?_)
        refine px_iload_1 dX8_dishonest_32 ?_
        refine px_goto (tgt := 37) dX8_dishonest_33 (by decide) ?_
        refine px_istore_1 dX8_dishonest_37 rfl ?_
        refine px_iinc_2 dX8_dishonest_38 rfl ?_
        refine px_goto (tgt := 15) dX8_dishonest_41 (by decide) ?_
        rw [dec_m1]; exact ih (by omega) d hd2
      · skip
        refine px_iload_2 dX8_dishonest_15 ?_
        refine px_if_lt (tgt := 44) dX8_dishonest_16 (by decide) (fun h16 => (by first | exact absurd h16 (hnl) | exact absurd (hnl) h16)) (fun h16 => ?_)
        refine px_aload_0 dX8_dishonest_19 ?_
        refine px_iload_2 dX8_dishonest_20 ?_
        refine px_iconst (2) dX8_dishonest_21 rfl ?_
        refine px_idiv dX8_dishonest_22 (by decide) ?_
        refine px_iload_2 dX8_dishonest_23 ?_
        refine px_iconst (2) dX8_dishonest_24 rfl ?_
        refine px_irem dX8_dishonest_25 (by decide) ?_
        refine cd_X8_60 rfl ⟨⟨Nat.le_of_ble_eq_true rfl, Nat.le_of_ble_eq_true rfl⟩, Nat.le_of_ble_eq_true rfl, Nat.le_of_ble_eq_true rfl, Nat.le_of_ble_eq_true rfl⟩ (by first | assumption | exact mo_a hm | exact mo_r0 hm | exact mo_r1 hm | exact mo_r2 hm | exact mo_r4 hm | exact mo_r6 hm | exact mo_r8 hm | exact mo_a1 hm | exact mo_a2 hm | exact mo_a3 hm | exact mo_a4 hm | exact mo_a5 hm | exact mo_a6 hm) dX8_dishonest_26 (hi) ?_
        refine px_ifb_eq (tgt := 36) dX8_dishonest_29 (by decide) (fun h29 => ?_) (fun h29 => (by first | exact absurd (hh) h29 | exact absurd h29 (hh)))
        refine px_iload_2 dX8_dishonest_36 ?_
        refine px_istore_1 dX8_dishonest_37 rfl ?_
        refine px_iinc_2 dX8_dishonest_38 rfl ?_
        refine px_goto (tgt := 15) dX8_dishonest_41 (by decide) ?_
        rw [dec_m1]; exact ih (by omega) (nI n) (Or.inr ⟨n, by omega, rfl, hh⟩)
  refine px_bipush (-6) dX8_dishonest_0 rfl ?_
  refine px_istore_1 dX8_dishonest_2 rfl ?_
  refine px_iconst (2) dX8_dishonest_3 rfl ?_
  refine px_aload_0 dX8_dishonest_4 ?_
  refine gf_X8_7 rfl dX8_dishonest_5 (by first | assumption | exact mo_a hm | exact mo_r0 hm | exact mo_r1 hm | exact mo_r2 hm | exact mo_r4 hm | exact mo_r6 hm | exact mo_r8 hm | exact mo_a1 hm | exact mo_a2 hm | exact mo_a3 hm | exact mo_a4 hm | exact mo_a5 hm | exact mo_a6 hm) (by first | assumption | exact mo_a hm | exact mo_r0 hm | exact mo_r1 hm | exact mo_r2 hm | exact mo_r4 hm | exact mo_r6 hm | exact mo_r8 hm | exact mo_a1 hm | exact mo_a2 hm | exact mo_a3 hm | exact mo_a4 hm | exact mo_a5 hm | exact mo_a6 hm) ?_
  refine px_bipush (8) dX8_dishonest_8 rfl ?_
  refine px_ialdN (j := 8) dX8_dishonest_10 (by first | assumption | exact mo_a hm | exact mo_r0 hm | exact mo_r1 hm | exact mo_r2 hm | exact mo_r4 hm | exact mo_r6 hm | exact mo_r8 hm | exact mo_a1 hm | exact mo_a2 hm | exact mo_a3 hm | exact mo_a4 hm | exact mo_a5 hm | exact mo_a6 hm) (by first | rfl | exact ix_eq (by assumption)) (by first | decide | omega) ?_
  refine px_imul dX8_dishonest_11 ?_
  refine px_iconst (1) dX8_dishonest_12 rfl ?_
  refine px_isub dX8_dishonest_13 ?_
  refine px_istore_2 dX8_dishonest_14 rfl ?_
  skip
  have e8 : (2 : Int32) * I (m + 1) 8 - 1 = nI (2 * f_nr (I (m + 1))) - 1 := by rw [hn, show (2 : Int32) * nI (f_nr (I (m + 1))) = nI 2 * nI (f_nr (I (m + 1))) from rfl, pk_mul]
  rw [e8]
  exact L _ (Nat.le_refl _) (-6) (Or.inl ⟨rfl, fun q h1 h2 => by omega⟩)
abbrev f_bnd (σ : px_s) (r k : Nat) (c : Int32) : Prop := σ (ix (σ (9 + 6 * r + (1 - k)))) ≤ f_mh σ (σ (ix (σ (9 + 6 * r + k)))) c
abbrev f_okg (σ : px_s) (r g : Nat) : Prop := f_bnd σ r 0 (f_ch σ (nI g)) ∧ f_bnd σ r 1 (f_ch σ (nI g))
/-- the first from g on, of n, that is enough -/
def f_fst (p : Nat → Prop) [DecidablePred p] (g : Nat) : Nat → Int32
  | 0 => -6
  | n + 1 => if p g then nI g else f_fst p (g + 1) n
theorem s_X8_isBound {v u c : Int32} {r k : Nat} (hm : px_mo G T R m) (hV : px_V (I (m + 1))) (e : v = nI r) (hr : r < f_nr (I (m + 1))) (e2 : u = nI k) (hk : k < 2) (hc : ¬ 100 - c = 0) : px_K l G 2 mX8_isBound ([.ref m, .int v, .int u, .int c]) ((T, I, J, R)) (some (.int (if f_bnd (I (m + 1)) r k c then 1 else 0))) ((T, I, J, R)) := by
  have h14 := hV.1.2.1
  obtain ⟨hf, h1, h2⟩ := ends_of hV hr hk
  obtain ⟨x1, l1⟩ := ix_of_nI h1
  obtain ⟨x2, l2⟩ := ix_of_nI h2
  refine px_met (M := mX8_isBound) ([some (.ref m), some (.int v), some (.int u), some (.int c)]) (by decide +kernel) rfl (Nat.le_of_ble_eq_true rfl) rfl ?_
  refine px_aload_0 dX8_isBound_0 ?_
  refine gf_X8_7 rfl dX8_isBound_1 (by first | assumption | exact mo_a hm | exact mo_r0 hm | exact mo_r1 hm | exact mo_r2 hm | exact mo_r4 hm | exact mo_r6 hm | exact mo_r8 hm | exact mo_a1 hm | exact mo_a2 hm | exact mo_a3 hm | exact mo_a4 hm | exact mo_a5 hm | exact mo_a6 hm) (by first | assumption | exact mo_a hm | exact mo_r0 hm | exact mo_r1 hm | exact mo_r2 hm | exact mo_r4 hm | exact mo_r6 hm | exact mo_r8 hm | exact mo_a1 hm | exact mo_a2 hm | exact mo_a3 hm | exact mo_a4 hm | exact mo_a5 hm | exact mo_a6 hm) ?_
  refine px_iconst (0) dX8_isBound_4 rfl ?_
  refine px_aload_0 dX8_isBound_5 ?_
  refine px_iload_1 dX8_isBound_6 ?_
  refine px_iconst (1) dX8_isBound_7 rfl ?_
  refine px_iload_2 dX8_isBound_8 ?_
  refine px_isub dX8_isBound_9 ?_
  refine cd_X8_48 rfl ⟨⟨Nat.le_of_ble_eq_true rfl, Nat.le_of_ble_eq_true rfl⟩, Nat.le_of_ble_eq_true rfl, Nat.le_of_ble_eq_true rfl, Nat.le_of_ble_eq_true rfl⟩ (by first | assumption | exact mo_a hm | exact mo_r0 hm | exact mo_r1 hm | exact mo_r2 hm | exact mo_r4 hm | exact mo_r6 hm | exact mo_r8 hm | exact mo_a1 hm | exact mo_a2 hm | exact mo_a3 hm | exact mo_a4 hm | exact mo_a5 hm | exact mo_a6 hm) dX8_isBound_10 (s_X8_end hm e (by omega) (one_sub e2 hk) (by omega)) ?_
  refine px_iadd dX8_isBound_13 ?_
  rw [z_add]
  refine px_ialdN dX8_isBound_14 (by first | assumption | exact mo_a hm | exact mo_r0 hm | exact mo_r1 hm | exact mo_r2 hm | exact mo_r4 hm | exact mo_r6 hm | exact mo_r8 hm | exact mo_a1 hm | exact mo_a2 hm | exact mo_a3 hm | exact mo_a4 hm | exact mo_a5 hm | exact mo_a6 hm) (by exact x2) (by omega) ?_
  refine px_aload_0 dX8_isBound_15 ?_
  refine px_aload_0 dX8_isBound_16 ?_
  refine gf_X8_7 rfl dX8_isBound_17 (by first | assumption | exact mo_a hm | exact mo_r0 hm | exact mo_r1 hm | exact mo_r2 hm | exact mo_r4 hm | exact mo_r6 hm | exact mo_r8 hm | exact mo_a1 hm | exact mo_a2 hm | exact mo_a3 hm | exact mo_a4 hm | exact mo_a5 hm | exact mo_a6 hm) (by first | assumption | exact mo_a hm | exact mo_r0 hm | exact mo_r1 hm | exact mo_r2 hm | exact mo_r4 hm | exact mo_r6 hm | exact mo_r8 hm | exact mo_a1 hm | exact mo_a2 hm | exact mo_a3 hm | exact mo_a4 hm | exact mo_a5 hm | exact mo_a6 hm) ?_
  refine px_iconst (0) dX8_isBound_20 rfl ?_
  refine px_aload_0 dX8_isBound_21 ?_
  refine px_iload_1 dX8_isBound_22 ?_
  refine px_iload_2 dX8_isBound_23 ?_
  refine cd_X8_48 rfl ⟨⟨Nat.le_of_ble_eq_true rfl, Nat.le_of_ble_eq_true rfl⟩, Nat.le_of_ble_eq_true rfl, Nat.le_of_ble_eq_true rfl, Nat.le_of_ble_eq_true rfl⟩ (by first | assumption | exact mo_a hm | exact mo_r0 hm | exact mo_r1 hm | exact mo_r2 hm | exact mo_r4 hm | exact mo_r6 hm | exact mo_r8 hm | exact mo_a1 hm | exact mo_a2 hm | exact mo_a3 hm | exact mo_a4 hm | exact mo_a5 hm | exact mo_a6 hm) dX8_isBound_24 (s_X8_end hm e (by omega) e2 (by omega)) ?_
  refine px_iadd dX8_isBound_27 ?_
  rw [z_add]
  refine px_ialdN dX8_isBound_28 (by first | assumption | exact mo_a hm | exact mo_r0 hm | exact mo_r1 hm | exact mo_r2 hm | exact mo_r4 hm | exact mo_r6 hm | exact mo_r8 hm | exact mo_a1 hm | exact mo_a2 hm | exact mo_a3 hm | exact mo_a4 hm | exact mo_a5 hm | exact mo_a6 hm) (by exact x1) (by omega) ?_
  refine px_iload_3 dX8_isBound_29 ?_
  refine cd_X8_54 rfl ⟨⟨Nat.le_of_ble_eq_true rfl, Nat.le_of_ble_eq_true rfl⟩, Nat.le_of_ble_eq_true rfl, Nat.le_of_ble_eq_true rfl, Nat.le_of_ble_eq_true rfl⟩ (by first | assumption | exact mo_a hm | exact mo_r0 hm | exact mo_r1 hm | exact mo_r2 hm | exact mo_r4 hm | exact mo_r6 hm | exact mo_r8 hm | exact mo_a1 hm | exact mo_a2 hm | exact mo_a3 hm | exact mo_a4 hm | exact mo_a5 hm | exact mo_a6 hm) dX8_isBound_30 (s_X8_mostHidden hm hc) ?_
  refine px_icmp_gt (tgt := 40) dX8_isBound_33 (by decide) (fun h33 => ?_) (fun h33 => ?_)
  · skip
    refine px_iconst (0) dX8_isBound_40 rfl ?_
    refine px_zret dX8_isBound_41 (by first | rfl | exact px_nb _) ?_
    first | exact ⟨by rw [if_pos (show f_bnd _ r k c from Int32.not_lt.mp h33)], rfl⟩ | exact ⟨by rw [if_neg (show ¬ f_bnd _ r k c from Int32.not_le.mpr h33)], rfl⟩
  · skip
    refine px_iconst (1) dX8_isBound_36 rfl ?_
    refine px_goto (tgt := 41) dX8_isBound_37 (by decide) ?_
    refine px_zret dX8_isBound_41 (by first | rfl | exact px_nb _) ?_
    first | exact ⟨by rw [if_pos (show f_bnd _ r k c from Int32.not_lt.mp h33)], rfl⟩ | exact ⟨by rw [if_neg (show ¬ f_bnd _ r k c from Int32.not_le.mpr h33)], rfl⟩
def f_fg (σ : px_s) (a : Int32) : Int32 := if ¬ rg a 0 (σ 8 - 1) then -1 else f_fst (f_okg σ (ix a)) 0 41
theorem s_X8_fewestGuards {a : Int32} (hm : px_mo G T R m) (hV : px_V (I (m + 1))) : px_K l G 3 mX8_fewestGuards ([.ref m, .int a]) ((T, I, J, R)) (some (.int (f_fg (I (m + 1)) a))) ((T, I, J, R)) := by
  refine px_met (M := mX8_fewestGuards) ([some (.ref m), some (.int a), none, none, none]) (by decide +kernel) rfl (Nat.le_of_ble_eq_true rfl) rfl ?_
  by_cases hr : rg a 0 (I (m + 1) 8 - 1)
  · obtain ⟨ha, hl, h14⟩ := rd_lt hV hr
    have hf : f_fg (I (m + 1)) a = f_fst (f_okg (I (m + 1)) (ix a)) 0 41 := if_neg (fun q => q hr)
    rw [hf]
    generalize hQ : (fun v m_1 => v = some (Value.int (f_fst (f_okg (I (m + 1)) (ix a)) 0 41)) ∧ m_1 = (T, I, J, R) : Option Value → px_M → Prop) = Q
    have L : ∀ n, n ≤ 41 → ∀ o, (px_W l G yX8_fewestGuards cX8_fewestGuards 5 (some .int) (px_rm 3 0 0) (px_Fn G Q 0 0) 16 [some (.ref m), some (.int a), some (.int (f_fst (f_okg (I (m + 1)) (ix a)) n (41 - n))), some (.int (nI n - 1)), o] [] 0 0 (T, I, J, R)) := by
      intro n
      induction n with
      | zero =>
        intro _ o
        refine px_iload_3 dX8_fewestGuards_16 ?_
        refine px_if_lt (tgt := 61) dX8_fewestGuards_17 (by decide) (fun h17 => ?_) (fun h17 => (by first | exact absurd ((by decide)) h17 | exact absurd h17 ((by decide))))
        refine px_iload_2 dX8_fewestGuards_61 ?_
        refine px_iret dX8_fewestGuards_62 ?_
        subst hQ; exact ⟨rfl, rfl⟩
      | succ n ih =>
        intro hle o
        rw [nI_pred]
        have hnl : ¬ nI n < 0 := nI_pos (by omega)
        have e41 : 41 - n = (41 - (n + 1)) + 1 := by omega
        have hb0 := s_X8_isBound (l := l) (J := J) (u := 0) (k := 0) (c := f_ch (I (m + 1)) (nI n)) hm hV ha hl rfl (by decide) ch_ne
        have hb1 := s_X8_isBound (l := l) (J := J) (u := 1) (k := 1) (c := f_ch (I (m + 1)) (nI n)) hm hV ha hl rfl (by decide) ch_ne
        by_cases h0 : f_bnd (I (m + 1)) (ix a) 0 (f_ch (I (m + 1)) (nI n))
        · by_cases h1 : f_bnd (I (m + 1)) (ix a) 1 (f_ch (I (m + 1)) (nI n))
          · have ee : f_fst (f_okg (I (m + 1)) (ix a)) n (41 - n) = nI n := by rw [e41, f_fst, if_pos ⟨h0, h1⟩]
            rw [ee] at ih
            refine px_iload_3 dX8_fewestGuards_16 ?_
            refine px_if_lt (tgt := 61) dX8_fewestGuards_17 (by decide) (fun h17 => (by first | exact absurd h17 (hnl) | exact absurd (hnl) h17)) (fun h17 => ?_)
            refine px_aload_0 dX8_fewestGuards_20 ?_
            refine px_iload_3 dX8_fewestGuards_21 ?_
            refine cd_X8_44 rfl ⟨⟨Nat.le_of_ble_eq_true rfl, Nat.le_of_ble_eq_true rfl⟩, Nat.le_of_ble_eq_true rfl, Nat.le_of_ble_eq_true rfl, Nat.le_of_ble_eq_true rfl⟩ (by first | assumption | exact mo_a hm | exact mo_r0 hm | exact mo_r1 hm | exact mo_r2 hm | exact mo_r4 hm | exact mo_r6 hm | exact mo_r8 hm | exact mo_a1 hm | exact mo_a2 hm | exact mo_a3 hm | exact mo_a4 hm | exact mo_a5 hm | exact mo_a6 hm) dX8_fewestGuards_22 (s_X8_chanceBy hm) ?_
            refine px_istore_4 dX8_fewestGuards_25 rfl ?_
            refine px_aload_0 dX8_fewestGuards_27 ?_
            refine px_iload_1 dX8_fewestGuards_28 ?_
            refine px_iconst (0) dX8_fewestGuards_29 rfl ?_
            refine px_iload_4 dX8_fewestGuards_30 ?_
            refine cd_X8_176 rfl ⟨⟨Nat.le_of_ble_eq_true rfl, Nat.le_of_ble_eq_true rfl⟩, Nat.le_of_ble_eq_true rfl, Nat.le_of_ble_eq_true rfl, Nat.le_of_ble_eq_true rfl⟩ (by first | assumption | exact mo_a hm | exact mo_r0 hm | exact mo_r1 hm | exact mo_r2 hm | exact mo_r4 hm | exact mo_r6 hm | exact mo_r8 hm | exact mo_a1 hm | exact mo_a2 hm | exact mo_a3 hm | exact mo_a4 hm | exact mo_a5 hm | exact mo_a6 hm) dX8_fewestGuards_32 (hb0) ?_
            refine px_ifb_eq (tgt := 53) dX8_fewestGuards_35 (by decide) (fun h35 => (by first | exact absurd h35 (h0) | exact absurd (h0) h35)) (fun h35 => ?_)
            refine px_aload_0 dX8_fewestGuards_38 ?_
            refine px_iload_1 dX8_fewestGuards_39 ?_
            refine px_iconst (1) dX8_fewestGuards_40 rfl ?_
            refine px_iload_4 dX8_fewestGuards_41 ?_
            refine cd_X8_176 rfl ⟨⟨Nat.le_of_ble_eq_true rfl, Nat.le_of_ble_eq_true rfl⟩, Nat.le_of_ble_eq_true rfl, Nat.le_of_ble_eq_true rfl, Nat.le_of_ble_eq_true rfl⟩ (by first | assumption | exact mo_a hm | exact mo_r0 hm | exact mo_r1 hm | exact mo_r2 hm | exact mo_r4 hm | exact mo_r6 hm | exact mo_r8 hm | exact mo_a1 hm | exact mo_a2 hm | exact mo_a3 hm | exact mo_a4 hm | exact mo_a5 hm | exact mo_a6 hm) dX8_fewestGuards_43 (hb1) ?_
            refine px_ifb_eq (tgt := 53) dX8_fewestGuards_46 (by decide) (fun h46 => (by first | exact absurd h46 (h1) | exact absurd (h1) h46)) (fun h46 => ?_)
            refine px_iload_3 dX8_fewestGuards_49 ?_
            refine px_goto (tgt := 54) dX8_fewestGuards_50 (by decide) ?_
            refine px_istore_2 dX8_fewestGuards_54 rfl ?_
            refine px_iinc_3 dX8_fewestGuards_55 rfl ?_
            refine px_goto (tgt := 16) dX8_fewestGuards_58 (by decide) ?_
            rw [dec_m1]; exact ih (by omega) _
          · have ee : f_fst (f_okg (I (m + 1)) (ix a)) n (41 - n) = f_fst (f_okg (I (m + 1)) (ix a)) (n + 1) (41 - (n + 1)) := by rw [e41, f_fst, if_neg (fun q => h1 q.2)]
            rw [ee] at ih
            refine px_iload_3 dX8_fewestGuards_16 ?_
            refine px_if_lt (tgt := 61) dX8_fewestGuards_17 (by decide) (fun h17 => (by first | exact absurd h17 (hnl) | exact absurd (hnl) h17)) (fun h17 => ?_)
            refine px_aload_0 dX8_fewestGuards_20 ?_
            refine px_iload_3 dX8_fewestGuards_21 ?_
            refine cd_X8_44 rfl ⟨⟨Nat.le_of_ble_eq_true rfl, Nat.le_of_ble_eq_true rfl⟩, Nat.le_of_ble_eq_true rfl, Nat.le_of_ble_eq_true rfl, Nat.le_of_ble_eq_true rfl⟩ (by first | assumption | exact mo_a hm | exact mo_r0 hm | exact mo_r1 hm | exact mo_r2 hm | exact mo_r4 hm | exact mo_r6 hm | exact mo_r8 hm | exact mo_a1 hm | exact mo_a2 hm | exact mo_a3 hm | exact mo_a4 hm | exact mo_a5 hm | exact mo_a6 hm) dX8_fewestGuards_22 (s_X8_chanceBy hm) ?_
            refine px_istore_4 dX8_fewestGuards_25 rfl ?_
            refine px_aload_0 dX8_fewestGuards_27 ?_
            refine px_iload_1 dX8_fewestGuards_28 ?_
            refine px_iconst (0) dX8_fewestGuards_29 rfl ?_
            refine px_iload_4 dX8_fewestGuards_30 ?_
            refine cd_X8_176 rfl ⟨⟨Nat.le_of_ble_eq_true rfl, Nat.le_of_ble_eq_true rfl⟩, Nat.le_of_ble_eq_true rfl, Nat.le_of_ble_eq_true rfl, Nat.le_of_ble_eq_true rfl⟩ (by first | assumption | exact mo_a hm | exact mo_r0 hm | exact mo_r1 hm | exact mo_r2 hm | exact mo_r4 hm | exact mo_r6 hm | exact mo_r8 hm | exact mo_a1 hm | exact mo_a2 hm | exact mo_a3 hm | exact mo_a4 hm | exact mo_a5 hm | exact mo_a6 hm) dX8_fewestGuards_32 (hb0) ?_
            refine px_ifb_eq (tgt := 53) dX8_fewestGuards_35 (by decide) (fun h35 => (by first | exact absurd h35 (h0) | exact absurd (h0) h35)) (fun h35 => ?_)
            refine px_aload_0 dX8_fewestGuards_38 ?_
            refine px_iload_1 dX8_fewestGuards_39 ?_
            refine px_iconst (1) dX8_fewestGuards_40 rfl ?_
            refine px_iload_4 dX8_fewestGuards_41 ?_
            refine cd_X8_176 rfl ⟨⟨Nat.le_of_ble_eq_true rfl, Nat.le_of_ble_eq_true rfl⟩, Nat.le_of_ble_eq_true rfl, Nat.le_of_ble_eq_true rfl, Nat.le_of_ble_eq_true rfl⟩ (by first | assumption | exact mo_a hm | exact mo_r0 hm | exact mo_r1 hm | exact mo_r2 hm | exact mo_r4 hm | exact mo_r6 hm | exact mo_r8 hm | exact mo_a1 hm | exact mo_a2 hm | exact mo_a3 hm | exact mo_a4 hm | exact mo_a5 hm | exact mo_a6 hm) dX8_fewestGuards_43 (hb1) ?_
            refine px_ifb_eq (tgt := 53) dX8_fewestGuards_46 (by decide) (fun h46 => ?_) (fun h46 => (by first | exact absurd (h1) h46 | exact absurd h46 (h1)))
            refine px_iload_2 dX8_fewestGuards_53 ?_
            refine px_istore_2 dX8_fewestGuards_54 rfl ?_
            refine px_iinc_3 dX8_fewestGuards_55 rfl ?_
            refine px_goto (tgt := 16) dX8_fewestGuards_58 (by decide) ?_
            rw [dec_m1]; exact ih (by omega) _
        · have ee : f_fst (f_okg (I (m + 1)) (ix a)) n (41 - n) = f_fst (f_okg (I (m + 1)) (ix a)) (n + 1) (41 - (n + 1)) := by rw [e41, f_fst, if_neg (fun q => h0 q.1)]
          rw [ee] at ih
          refine px_iload_3 dX8_fewestGuards_16 ?_
          refine px_if_lt (tgt := 61) dX8_fewestGuards_17 (by decide) (fun h17 => (by first | exact absurd h17 (hnl) | exact absurd (hnl) h17)) (fun h17 => ?_)
          refine px_aload_0 dX8_fewestGuards_20 ?_
          refine px_iload_3 dX8_fewestGuards_21 ?_
          refine cd_X8_44 rfl ⟨⟨Nat.le_of_ble_eq_true rfl, Nat.le_of_ble_eq_true rfl⟩, Nat.le_of_ble_eq_true rfl, Nat.le_of_ble_eq_true rfl, Nat.le_of_ble_eq_true rfl⟩ (by first | assumption | exact mo_a hm | exact mo_r0 hm | exact mo_r1 hm | exact mo_r2 hm | exact mo_r4 hm | exact mo_r6 hm | exact mo_r8 hm | exact mo_a1 hm | exact mo_a2 hm | exact mo_a3 hm | exact mo_a4 hm | exact mo_a5 hm | exact mo_a6 hm) dX8_fewestGuards_22 (s_X8_chanceBy hm) ?_
          refine px_istore_4 dX8_fewestGuards_25 rfl ?_
          refine px_aload_0 dX8_fewestGuards_27 ?_
          refine px_iload_1 dX8_fewestGuards_28 ?_
          refine px_iconst (0) dX8_fewestGuards_29 rfl ?_
          refine px_iload_4 dX8_fewestGuards_30 ?_
          refine cd_X8_176 rfl ⟨⟨Nat.le_of_ble_eq_true rfl, Nat.le_of_ble_eq_true rfl⟩, Nat.le_of_ble_eq_true rfl, Nat.le_of_ble_eq_true rfl, Nat.le_of_ble_eq_true rfl⟩ (by first | assumption | exact mo_a hm | exact mo_r0 hm | exact mo_r1 hm | exact mo_r2 hm | exact mo_r4 hm | exact mo_r6 hm | exact mo_r8 hm | exact mo_a1 hm | exact mo_a2 hm | exact mo_a3 hm | exact mo_a4 hm | exact mo_a5 hm | exact mo_a6 hm) dX8_fewestGuards_32 (hb0) ?_
          refine px_ifb_eq (tgt := 53) dX8_fewestGuards_35 (by decide) (fun h35 => ?_) (fun h35 => (by first | exact absurd (h0) h35 | exact absurd h35 (h0)))
          refine px_iload_2 dX8_fewestGuards_53 ?_
          refine px_istore_2 dX8_fewestGuards_54 rfl ?_
          refine px_iinc_3 dX8_fewestGuards_55 rfl ?_
          refine px_goto (tgt := 16) dX8_fewestGuards_58 (by decide) ?_
          rw [dec_m1]; exact ih (by omega) _
    refine px_aload_0 dX8_fewestGuards_0 ?_
    refine px_iload_1 dX8_fewestGuards_1 ?_
    refine cd_X8_118 rfl ⟨⟨Nat.le_of_ble_eq_true rfl, Nat.le_of_ble_eq_true rfl⟩, Nat.le_of_ble_eq_true rfl, Nat.le_of_ble_eq_true rfl, Nat.le_of_ble_eq_true rfl⟩ (by first | assumption | exact mo_a hm | exact mo_r0 hm | exact mo_r1 hm | exact mo_r2 hm | exact mo_r4 hm | exact mo_r6 hm | exact mo_r8 hm | exact mo_a1 hm | exact mo_a2 hm | exact mo_a3 hm | exact mo_a4 hm | exact mo_a5 hm | exact mo_a6 hm) dX8_fewestGuards_2 (s_X8_isRoad hm) ?_
    refine px_ifb_ne (tgt := 10) dX8_fewestGuards_5 (by decide) (fun h5 => ?_) (fun h5 => (by first | exact absurd (hr) h5 | exact absurd h5 (hr)))
    refine px_bipush (-6) dX8_fewestGuards_10 rfl ?_
    refine px_istore_2 dX8_fewestGuards_12 rfl ?_
    refine px_bipush (40) dX8_fewestGuards_13 rfl ?_
    refine px_istore_3 dX8_fewestGuards_15 rfl ?_
    exact L 41 (by decide) _
  · have hf : f_fg (I (m + 1)) a = -1 := if_pos hr
    rw [hf]
    refine px_aload_0 dX8_fewestGuards_0 ?_
    refine px_iload_1 dX8_fewestGuards_1 ?_
    refine cd_X8_118 rfl ⟨⟨Nat.le_of_ble_eq_true rfl, Nat.le_of_ble_eq_true rfl⟩, Nat.le_of_ble_eq_true rfl, Nat.le_of_ble_eq_true rfl, Nat.le_of_ble_eq_true rfl⟩ (by first | assumption | exact mo_a hm | exact mo_r0 hm | exact mo_r1 hm | exact mo_r2 hm | exact mo_r4 hm | exact mo_r6 hm | exact mo_r8 hm | exact mo_a1 hm | exact mo_a2 hm | exact mo_a3 hm | exact mo_a4 hm | exact mo_a5 hm | exact mo_a6 hm) dX8_fewestGuards_2 (s_X8_isRoad hm) ?_
    refine px_ifb_ne (tgt := 10) dX8_fewestGuards_5 (by decide) (fun h5 => (by first | exact absurd h5 (hr) | exact absurd (hr) h5)) (fun h5 => ?_)
    refine px_iconst (-1) dX8_fewestGuards_8 rfl ?_
    refine px_iret dX8_fewestGuards_9 ?_
    exact ⟨rfl, rfl⟩
/-- the most at town t by the first so many ends -/
def f_mp (σ : px_s) (t : Int32) : Nat → Int32
  | 0 => 999
  | i + 1 => if σ (9 + 6 * (i / 2) + (1 - i % 2)) = t ∧ f_ma σ (i / 2) (σ (ix (σ (9 + 6 * (i / 2) + i % 2)))) < f_mp σ t i then f_ma σ (i / 2) (σ (ix (σ (9 + 6 * (i / 2) + i % 2)))) else f_mp σ t i
def f_most (σ : px_s) (t : Int32) : Int32 := if ¬ rg t 0 7 then -1 else f_mp σ t (2 * f_nr σ)
theorem s_X8_mostPrice {a : Int32} (hm : px_mo G T R m) (hV : px_V (I (m + 1))) : px_K l G 3 mX8_mostPrice ([.ref m, .int a]) ((T, I, J, R)) (some (.int (f_most (I (m + 1)) a))) ((T, I, J, R)) := by
  have hn := hV.1.1
  have h14 := hV.1.2.1
  refine px_met (M := mX8_mostPrice) ([some (.ref m), some (.int a), none, none, none, none]) (by decide +kernel) rfl (Nat.le_of_ble_eq_true rfl) rfl ?_
  by_cases hr : rg a 0 7
  · have hf : f_most (I (m + 1)) a = f_mp (I (m + 1)) a (2 * f_nr (I (m + 1))) := if_neg (fun q => q hr)
    rw [hf]
    have e8 : I (m + 1) 8 * 2 = nI (2 * f_nr (I (m + 1))) := by rw [hn, show nI (f_nr (I (m + 1))) * 2 = nI (f_nr (I (m + 1))) * nI 2 from rfl, pk_mul, Nat.mul_comm]
    have e8' : 2 * I (m + 1) 8 = nI (2 * f_nr (I (m + 1))) := by rw [hn, show (2 : Int32) * nI (f_nr (I (m + 1))) = nI 2 * nI (f_nr (I (m + 1))) from rfl, pk_mul]
    generalize hQ : (fun v m_1 => v = some (Value.int (f_mp (I (m + 1)) a (2 * f_nr (I (m + 1))))) ∧ m_1 = (T, I, J, R) : Option Value → px_M → Prop) = Q
    have L : ∀ n i, i + n = 2 * f_nr (I (m + 1)) → ∀ o1 o2, (px_W l G yX8_mostPrice cX8_mostPrice 6 (some .int) (px_rm 3 0 0) (px_Fn G Q 0 0) 15 [some (.ref m), some (.int a), some (.int (f_mp (I (m + 1)) a i)), some (.int (nI i)), o1, o2] [] 0 0 (T, I, J, R)) := by
      intro n
      induction n with
      | zero =>
        intro i hi o1 o2
        obtain rfl : i = 2 * f_nr (I (m + 1)) := by omega
        refine px_iload_3 dX8_mostPrice_15 ?_
        refine px_iconst (2) dX8_mostPrice_16 rfl ?_
        refine px_aload_0 dX8_mostPrice_17 ?_
        refine gf_X8_7 rfl dX8_mostPrice_18 (by first | assumption | exact mo_a hm | exact mo_r0 hm | exact mo_r1 hm | exact mo_r2 hm | exact mo_r4 hm | exact mo_r6 hm | exact mo_r8 hm | exact mo_a1 hm | exact mo_a2 hm | exact mo_a3 hm | exact mo_a4 hm | exact mo_a5 hm | exact mo_a6 hm) (by first | assumption | exact mo_a hm | exact mo_r0 hm | exact mo_r1 hm | exact mo_r2 hm | exact mo_r4 hm | exact mo_r6 hm | exact mo_r8 hm | exact mo_a1 hm | exact mo_a2 hm | exact mo_a3 hm | exact mo_a4 hm | exact mo_a5 hm | exact mo_a6 hm) ?_
        refine px_bipush (8) dX8_mostPrice_21 rfl ?_
        refine px_ialdN (j := 8) dX8_mostPrice_23 (by first | assumption | exact mo_a hm | exact mo_r0 hm | exact mo_r1 hm | exact mo_r2 hm | exact mo_r4 hm | exact mo_r6 hm | exact mo_r8 hm | exact mo_a1 hm | exact mo_a2 hm | exact mo_a3 hm | exact mo_a4 hm | exact mo_a5 hm | exact mo_a6 hm) (by first | rfl | exact ix_eq (by assumption)) (by first | decide | omega) ?_
        refine px_imul dX8_mostPrice_24 ?_
        rw [e8']
        refine px_icmp_ge (tgt := 87) dX8_mostPrice_25 (by decide) (fun h25 => ?_) (fun h25 => (by first | exact absurd ((nI_le (Nat.le_refl _) (by omega))) h25 | exact absurd h25 ((nI_le (Nat.le_refl _) (by omega)))))
        refine px_iload_2 dX8_mostPrice_87 ?_
        refine px_iret dX8_mostPrice_88 ?_
        subst hQ; exact ⟨rfl, rfl⟩
      | succ n ih =>
        intro i hi o1 o2
        have hq : i / 2 < f_nr (I (m + 1)) := by omega
        have e1 : nI i / 2 = nI (i / 2) := pk_div (d := 2) (by omega) (by decide) (by decide)
        have e2 : nI i - nI i / 2 * 2 = nI (i % 2) := pk_rem (d := 2) (by omega) (by decide) (by decide)
        have hk : i % 2 < 2 := Nat.mod_lt _ (by decide)
        obtain ⟨-, h1, h2⟩ := ends_of hV hq hk
        have hend := s_X8_end (l := l) (I := I) (J := J) (v := nI i / 2) (u := 1 - (nI i - nI i / 2 * 2)) hm e1 (by omega) (one_sub e2 hk) (by omega)
        have hma := s_X8_mostAt (l := l) (I := I) (J := J) (v := nI i / 2) (u := nI i - nI i / 2 * 2) hm e1 (by omega) e2 hk (ix_of_nI h1)
        have hlt : ¬ nI (2 * f_nr (I (m + 1))) ≤ nI i := nI_ge (by omega) (by omega)
        by_cases he : I (m + 1) (9 + 6 * (i / 2) + (1 - i % 2)) = a
        · by_cases hv : f_ma (I (m + 1)) (i / 2) (I (m + 1) (ix (I (m + 1) (9 + 6 * (i / 2) + i % 2)))) < f_mp (I (m + 1)) a i
          · have ee : f_mp (I (m + 1)) a (i + 1) = f_ma (I (m + 1)) (i / 2) (I (m + 1) (ix (I (m + 1) (9 + 6 * (i / 2) + i % 2)))) := by rw [f_mp, if_pos ⟨he, hv⟩]
            have ih2 := ih (i + 1) (by omega)
            rw [ee] at ih2
            refine px_iload_3 dX8_mostPrice_15 ?_
            refine px_iconst (2) dX8_mostPrice_16 rfl ?_
            refine px_aload_0 dX8_mostPrice_17 ?_
            refine gf_X8_7 rfl dX8_mostPrice_18 (by first | assumption | exact mo_a hm | exact mo_r0 hm | exact mo_r1 hm | exact mo_r2 hm | exact mo_r4 hm | exact mo_r6 hm | exact mo_r8 hm | exact mo_a1 hm | exact mo_a2 hm | exact mo_a3 hm | exact mo_a4 hm | exact mo_a5 hm | exact mo_a6 hm) (by first | assumption | exact mo_a hm | exact mo_r0 hm | exact mo_r1 hm | exact mo_r2 hm | exact mo_r4 hm | exact mo_r6 hm | exact mo_r8 hm | exact mo_a1 hm | exact mo_a2 hm | exact mo_a3 hm | exact mo_a4 hm | exact mo_a5 hm | exact mo_a6 hm) ?_
            refine px_bipush (8) dX8_mostPrice_21 rfl ?_
            refine px_ialdN (j := 8) dX8_mostPrice_23 (by first | assumption | exact mo_a hm | exact mo_r0 hm | exact mo_r1 hm | exact mo_r2 hm | exact mo_r4 hm | exact mo_r6 hm | exact mo_r8 hm | exact mo_a1 hm | exact mo_a2 hm | exact mo_a3 hm | exact mo_a4 hm | exact mo_a5 hm | exact mo_a6 hm) (by first | rfl | exact ix_eq (by assumption)) (by first | decide | omega) ?_
            refine px_imul dX8_mostPrice_24 ?_
            rw [e8']
            refine px_icmp_ge (tgt := 87) dX8_mostPrice_25 (by decide) (fun h25 => (by first | exact absurd h25 (hlt) | exact absurd (hlt) h25)) (fun h25 => ?_)
            refine px_aload_0 dX8_mostPrice_28 ?_
            refine px_iload_3 dX8_mostPrice_29 ?_
            refine px_iconst (2) dX8_mostPrice_30 rfl ?_
            refine px_idiv dX8_mostPrice_31 (by decide) ?_
            refine px_iconst (1) dX8_mostPrice_32 rfl ?_
            refine px_iload_3 dX8_mostPrice_33 ?_
            refine px_iconst (2) dX8_mostPrice_34 rfl ?_
            refine px_irem dX8_mostPrice_35 (by decide) ?_
            refine px_isub dX8_mostPrice_36 ?_
            refine cd_X8_48 rfl ⟨⟨Nat.le_of_ble_eq_true rfl, Nat.le_of_ble_eq_true rfl⟩, Nat.le_of_ble_eq_true rfl, Nat.le_of_ble_eq_true rfl, Nat.le_of_ble_eq_true rfl⟩ (by first | assumption | exact mo_a hm | exact mo_r0 hm | exact mo_r1 hm | exact mo_r2 hm | exact mo_r4 hm | exact mo_r6 hm | exact mo_r8 hm | exact mo_a1 hm | exact mo_a2 hm | exact mo_a3 hm | exact mo_a4 hm | exact mo_a5 hm | exact mo_a6 hm) dX8_mostPrice_37 (hend) ?_
            refine px_iload_1 dX8_mostPrice_40 ?_
            refine px_icmp_ne (tgt := 48) dX8_mostPrice_41 (by decide) (fun h41 => (by first | exact absurd h41 (he) | exact absurd (he) h41)) (fun h41 => ?_)
            refine px_iconst (1) dX8_mostPrice_44 rfl ?_
            refine px_goto (tgt := 49) dX8_mostPrice_45 (by decide) ?_
            refine px_istore_4 dX8_mostPrice_49 rfl ?_
            refine px_aload_0 dX8_mostPrice_51 ?_
            refine px_iload_3 dX8_mostPrice_52 ?_
            refine px_iconst (2) dX8_mostPrice_53 rfl ?_
            refine px_idiv dX8_mostPrice_54 (by decide) ?_
            refine px_iload_3 dX8_mostPrice_55 ?_
            refine px_iconst (2) dX8_mostPrice_56 rfl ?_
            refine px_irem dX8_mostPrice_57 (by decide) ?_
            refine cd_X8_57 rfl ⟨⟨Nat.le_of_ble_eq_true rfl, Nat.le_of_ble_eq_true rfl⟩, Nat.le_of_ble_eq_true rfl, Nat.le_of_ble_eq_true rfl, Nat.le_of_ble_eq_true rfl⟩ (by first | assumption | exact mo_a hm | exact mo_r0 hm | exact mo_r1 hm | exact mo_r2 hm | exact mo_r4 hm | exact mo_r6 hm | exact mo_r8 hm | exact mo_a1 hm | exact mo_a2 hm | exact mo_a3 hm | exact mo_a4 hm | exact mo_a5 hm | exact mo_a6 hm) dX8_mostPrice_58 (hma) ?_
            refine px_istore_5 dX8_mostPrice_61 rfl ?_
            refine px_iload_4 dX8_mostPrice_63 ?_
            refine px_if_eq (tgt := 79) dX8_mostPrice_65 (by decide) (fun h65 => (by first | exact absurd h65 ((by decide)) | exact absurd ((by decide)) h65)) (fun h65 => ?_)
            refine px_iload_5 dX8_mostPrice_68 ?_
            refine px_iload_2 dX8_mostPrice_70 ?_
            refine px_icmp_ge (tgt := 79) dX8_mostPrice_71 (by decide) (fun h71 => (by first | exact absurd h71 ((Int32.not_le.mpr hv)) | exact absurd ((Int32.not_le.mpr hv)) h71)) (fun h71 => ?_)
            refine px_iload_5 dX8_mostPrice_74 ?_
            refine px_goto (tgt := 80) dX8_mostPrice_76 (by decide) ?_
            refine px_istore_2 dX8_mostPrice_80 rfl ?_
            refine px_iinc_3 dX8_mostPrice_81 rfl ?_
            refine px_goto (tgt := 15) dX8_mostPrice_84 (by decide) ?_
            rw [inc_nI]; exact ih2 _ _
          · have ee : f_mp (I (m + 1)) a (i + 1) = f_mp (I (m + 1)) a i := by rw [f_mp, if_neg (fun q => hv q.2)]
            have ih2 := ih (i + 1) (by omega)
            rw [ee] at ih2
            refine px_iload_3 dX8_mostPrice_15 ?_
            refine px_iconst (2) dX8_mostPrice_16 rfl ?_
            refine px_aload_0 dX8_mostPrice_17 ?_
            refine gf_X8_7 rfl dX8_mostPrice_18 (by first | assumption | exact mo_a hm | exact mo_r0 hm | exact mo_r1 hm | exact mo_r2 hm | exact mo_r4 hm | exact mo_r6 hm | exact mo_r8 hm | exact mo_a1 hm | exact mo_a2 hm | exact mo_a3 hm | exact mo_a4 hm | exact mo_a5 hm | exact mo_a6 hm) (by first | assumption | exact mo_a hm | exact mo_r0 hm | exact mo_r1 hm | exact mo_r2 hm | exact mo_r4 hm | exact mo_r6 hm | exact mo_r8 hm | exact mo_a1 hm | exact mo_a2 hm | exact mo_a3 hm | exact mo_a4 hm | exact mo_a5 hm | exact mo_a6 hm) ?_
            refine px_bipush (8) dX8_mostPrice_21 rfl ?_
            refine px_ialdN (j := 8) dX8_mostPrice_23 (by first | assumption | exact mo_a hm | exact mo_r0 hm | exact mo_r1 hm | exact mo_r2 hm | exact mo_r4 hm | exact mo_r6 hm | exact mo_r8 hm | exact mo_a1 hm | exact mo_a2 hm | exact mo_a3 hm | exact mo_a4 hm | exact mo_a5 hm | exact mo_a6 hm) (by first | rfl | exact ix_eq (by assumption)) (by first | decide | omega) ?_
            refine px_imul dX8_mostPrice_24 ?_
            rw [e8']
            refine px_icmp_ge (tgt := 87) dX8_mostPrice_25 (by decide) (fun h25 => (by first | exact absurd h25 (hlt) | exact absurd (hlt) h25)) (fun h25 => ?_)
            refine px_aload_0 dX8_mostPrice_28 ?_
            refine px_iload_3 dX8_mostPrice_29 ?_
            refine px_iconst (2) dX8_mostPrice_30 rfl ?_
            refine px_idiv dX8_mostPrice_31 (by decide) ?_
            refine px_iconst (1) dX8_mostPrice_32 rfl ?_
            refine px_iload_3 dX8_mostPrice_33 ?_
            refine px_iconst (2) dX8_mostPrice_34 rfl ?_
            refine px_irem dX8_mostPrice_35 (by decide) ?_
            refine px_isub dX8_mostPrice_36 ?_
            refine cd_X8_48 rfl ⟨⟨Nat.le_of_ble_eq_true rfl, Nat.le_of_ble_eq_true rfl⟩, Nat.le_of_ble_eq_true rfl, Nat.le_of_ble_eq_true rfl, Nat.le_of_ble_eq_true rfl⟩ (by first | assumption | exact mo_a hm | exact mo_r0 hm | exact mo_r1 hm | exact mo_r2 hm | exact mo_r4 hm | exact mo_r6 hm | exact mo_r8 hm | exact mo_a1 hm | exact mo_a2 hm | exact mo_a3 hm | exact mo_a4 hm | exact mo_a5 hm | exact mo_a6 hm) dX8_mostPrice_37 (hend) ?_
            refine px_iload_1 dX8_mostPrice_40 ?_
            refine px_icmp_ne (tgt := 48) dX8_mostPrice_41 (by decide) (fun h41 => (by first | exact absurd h41 (he) | exact absurd (he) h41)) (fun h41 => ?_)
            refine px_iconst (1) dX8_mostPrice_44 rfl ?_
            refine px_goto (tgt := 49) dX8_mostPrice_45 (by decide) ?_
            refine px_istore_4 dX8_mostPrice_49 rfl ?_
            refine px_aload_0 dX8_mostPrice_51 ?_
            refine px_iload_3 dX8_mostPrice_52 ?_
            refine px_iconst (2) dX8_mostPrice_53 rfl ?_
            refine px_idiv dX8_mostPrice_54 (by decide) ?_
            refine px_iload_3 dX8_mostPrice_55 ?_
            refine px_iconst (2) dX8_mostPrice_56 rfl ?_
            refine px_irem dX8_mostPrice_57 (by decide) ?_
            refine cd_X8_57 rfl ⟨⟨Nat.le_of_ble_eq_true rfl, Nat.le_of_ble_eq_true rfl⟩, Nat.le_of_ble_eq_true rfl, Nat.le_of_ble_eq_true rfl, Nat.le_of_ble_eq_true rfl⟩ (by first | assumption | exact mo_a hm | exact mo_r0 hm | exact mo_r1 hm | exact mo_r2 hm | exact mo_r4 hm | exact mo_r6 hm | exact mo_r8 hm | exact mo_a1 hm | exact mo_a2 hm | exact mo_a3 hm | exact mo_a4 hm | exact mo_a5 hm | exact mo_a6 hm) dX8_mostPrice_58 (hma) ?_
            refine px_istore_5 dX8_mostPrice_61 rfl ?_
            refine px_iload_4 dX8_mostPrice_63 ?_
            refine px_if_eq (tgt := 79) dX8_mostPrice_65 (by decide) (fun h65 => (by first | exact absurd h65 ((by decide)) | exact absurd ((by decide)) h65)) (fun h65 => ?_)
            refine px_iload_5 dX8_mostPrice_68 ?_
            refine px_iload_2 dX8_mostPrice_70 ?_
            refine px_icmp_ge (tgt := 79) dX8_mostPrice_71 (by decide) (fun h71 => ?_) (fun h71 => (by first | exact absurd ((Int32.not_lt.mp hv)) h71 | exact absurd h71 ((Int32.not_lt.mp hv))))
            refine px_iload_2 dX8_mostPrice_79 ?_
            refine px_istore_2 dX8_mostPrice_80 rfl ?_
            refine px_iinc_3 dX8_mostPrice_81 rfl ?_
            refine px_goto (tgt := 15) dX8_mostPrice_84 (by decide) ?_
            rw [inc_nI]; exact ih2 _ _
        · have ee : f_mp (I (m + 1)) a (i + 1) = f_mp (I (m + 1)) a i := by rw [f_mp, if_neg (fun q => he q.1)]
          have ih2 := ih (i + 1) (by omega)
          rw [ee] at ih2
          refine px_iload_3 dX8_mostPrice_15 ?_
          refine px_iconst (2) dX8_mostPrice_16 rfl ?_
          refine px_aload_0 dX8_mostPrice_17 ?_
          refine gf_X8_7 rfl dX8_mostPrice_18 (by first | assumption | exact mo_a hm | exact mo_r0 hm | exact mo_r1 hm | exact mo_r2 hm | exact mo_r4 hm | exact mo_r6 hm | exact mo_r8 hm | exact mo_a1 hm | exact mo_a2 hm | exact mo_a3 hm | exact mo_a4 hm | exact mo_a5 hm | exact mo_a6 hm) (by first | assumption | exact mo_a hm | exact mo_r0 hm | exact mo_r1 hm | exact mo_r2 hm | exact mo_r4 hm | exact mo_r6 hm | exact mo_r8 hm | exact mo_a1 hm | exact mo_a2 hm | exact mo_a3 hm | exact mo_a4 hm | exact mo_a5 hm | exact mo_a6 hm) ?_
          refine px_bipush (8) dX8_mostPrice_21 rfl ?_
          refine px_ialdN (j := 8) dX8_mostPrice_23 (by first | assumption | exact mo_a hm | exact mo_r0 hm | exact mo_r1 hm | exact mo_r2 hm | exact mo_r4 hm | exact mo_r6 hm | exact mo_r8 hm | exact mo_a1 hm | exact mo_a2 hm | exact mo_a3 hm | exact mo_a4 hm | exact mo_a5 hm | exact mo_a6 hm) (by first | rfl | exact ix_eq (by assumption)) (by first | decide | omega) ?_
          refine px_imul dX8_mostPrice_24 ?_
          rw [e8']
          refine px_icmp_ge (tgt := 87) dX8_mostPrice_25 (by decide) (fun h25 => (by first | exact absurd h25 (hlt) | exact absurd (hlt) h25)) (fun h25 => ?_)
          refine px_aload_0 dX8_mostPrice_28 ?_
          refine px_iload_3 dX8_mostPrice_29 ?_
          refine px_iconst (2) dX8_mostPrice_30 rfl ?_
          refine px_idiv dX8_mostPrice_31 (by decide) ?_
          refine px_iconst (1) dX8_mostPrice_32 rfl ?_
          refine px_iload_3 dX8_mostPrice_33 ?_
          refine px_iconst (2) dX8_mostPrice_34 rfl ?_
          refine px_irem dX8_mostPrice_35 (by decide) ?_
          refine px_isub dX8_mostPrice_36 ?_
          refine cd_X8_48 rfl ⟨⟨Nat.le_of_ble_eq_true rfl, Nat.le_of_ble_eq_true rfl⟩, Nat.le_of_ble_eq_true rfl, Nat.le_of_ble_eq_true rfl, Nat.le_of_ble_eq_true rfl⟩ (by first | assumption | exact mo_a hm | exact mo_r0 hm | exact mo_r1 hm | exact mo_r2 hm | exact mo_r4 hm | exact mo_r6 hm | exact mo_r8 hm | exact mo_a1 hm | exact mo_a2 hm | exact mo_a3 hm | exact mo_a4 hm | exact mo_a5 hm | exact mo_a6 hm) dX8_mostPrice_37 (hend) ?_
          refine px_iload_1 dX8_mostPrice_40 ?_
          refine px_icmp_ne (tgt := 48) dX8_mostPrice_41 (by decide) (fun h41 => ?_) (fun h41 => (by first | exact absurd (he) h41 | exact absurd h41 (he)))
          refine px_iconst (0) dX8_mostPrice_48 rfl ?_
          refine px_istore_4 dX8_mostPrice_49 rfl ?_
          refine px_aload_0 dX8_mostPrice_51 ?_
          refine px_iload_3 dX8_mostPrice_52 ?_
          refine px_iconst (2) dX8_mostPrice_53 rfl ?_
          refine px_idiv dX8_mostPrice_54 (by decide) ?_
          refine px_iload_3 dX8_mostPrice_55 ?_
          refine px_iconst (2) dX8_mostPrice_56 rfl ?_
          refine px_irem dX8_mostPrice_57 (by decide) ?_
          refine cd_X8_57 rfl ⟨⟨Nat.le_of_ble_eq_true rfl, Nat.le_of_ble_eq_true rfl⟩, Nat.le_of_ble_eq_true rfl, Nat.le_of_ble_eq_true rfl, Nat.le_of_ble_eq_true rfl⟩ (by first | assumption | exact mo_a hm | exact mo_r0 hm | exact mo_r1 hm | exact mo_r2 hm | exact mo_r4 hm | exact mo_r6 hm | exact mo_r8 hm | exact mo_a1 hm | exact mo_a2 hm | exact mo_a3 hm | exact mo_a4 hm | exact mo_a5 hm | exact mo_a6 hm) dX8_mostPrice_58 (hma) ?_
          refine px_istore_5 dX8_mostPrice_61 rfl ?_
          refine px_iload_4 dX8_mostPrice_63 ?_
          refine px_if_eq (tgt := 79) dX8_mostPrice_65 (by decide) (fun h65 => ?_) (fun h65 => (by first | exact absurd (rfl) h65 | exact absurd h65 (rfl)))
          refine px_iload_2 dX8_mostPrice_79 ?_
          refine px_istore_2 dX8_mostPrice_80 rfl ?_
          refine px_iinc_3 dX8_mostPrice_81 rfl ?_
          refine px_goto (tgt := 15) dX8_mostPrice_84 (by decide) ?_
          rw [inc_nI]; exact ih2 _ _
    refine px_iload_1 dX8_mostPrice_0 ?_
    refine cd_X8_108 rfl ⟨⟨Nat.le_of_ble_eq_true rfl, Nat.le_of_ble_eq_true rfl⟩, Nat.le_of_ble_eq_true rfl, Nat.le_of_ble_eq_true rfl, Nat.le_of_ble_eq_true rfl⟩ dX8_mostPrice_1 (s_X8_isTown) ?_
    refine px_ifb_ne (tgt := 9) dX8_mostPrice_4 (by decide) (fun h4 => ?_) (fun h4 => (by first | exact absurd (hr) h4 | exact absurd h4 (hr)))
    refine px_sipush (999) dX8_mostPrice_9 rfl ?_
    refine px_istore_2 dX8_mostPrice_12 rfl ?_
    refine px_iconst (0) dX8_mostPrice_13 rfl ?_
    refine px_istore_3 dX8_mostPrice_14 rfl ?_
    exact L _ 0 (Nat.zero_add _) _ _
  · have hf : f_most (I (m + 1)) a = -1 := if_pos hr
    rw [hf]
    refine px_iload_1 dX8_mostPrice_0 ?_
    refine cd_X8_108 rfl ⟨⟨Nat.le_of_ble_eq_true rfl, Nat.le_of_ble_eq_true rfl⟩, Nat.le_of_ble_eq_true rfl, Nat.le_of_ble_eq_true rfl, Nat.le_of_ble_eq_true rfl⟩ dX8_mostPrice_1 (s_X8_isTown) ?_
    refine px_ifb_ne (tgt := 9) dX8_mostPrice_4 (by decide) (fun h4 => (by first | exact absurd h4 (hr) | exact absurd (hr) h4)) (fun h4 => ?_)
    refine px_iconst (-1) dX8_mostPrice_7 rfl ?_
    refine px_iret dX8_mostPrice_8 ?_
    exact ⟨rfl, rfl⟩
def f_wh (σ : px_s) (a b f : Int32) : Int32 := if ¬ rg a 0 (σ 93 - 1) ∨ ¬ rg b 0 (σ 8 - 1) then -1 else if ¬ rg f 0 1 then -2 else if ¬ f_at σ (ix b) (σ (94 + 8 * ix a + 0)) then -5 else if f = 1 then σ (94 + 8 * ix a + 1) - f_fine σ (ix a) else σ (94 + 8 * ix a + 1) + σ (94 + 8 * ix a + 2) * σ (ix (f_far σ (ix b) (σ (94 + 8 * ix a + 0))))
theorem s_X8_wouldHave {a b f : Int32} (hm : px_mo G T R m) (hV : px_V (I (m + 1))) : px_K l G 3 mX8_wouldHave ([.ref m, .int a, .int b, .int f]) ((T, I, J, R)) (some (.int (f_wh (I (m + 1)) a b f))) ((T, I, J, R)) := by
  refine px_met (M := mX8_wouldHave) ([some (.ref m), some (.int a), some (.int b), some (.int f), none, none, none]) (by decide +kernel) rfl (Nat.le_of_ble_eq_true rfl) rfl ?_
  by_cases hr : rg a 0 (I (m + 1) 93 - 1)
  · by_cases hr2 : rg b 0 (I (m + 1) 8 - 1)
    · by_cases hr3 : rg f 0 1
      · obtain ⟨ha, hl, h6⟩ := ct_lt hV hr
        obtain ⟨hb, hl2, h14⟩ := rd_lt hV hr2
        have heo := s_X8_endOf (l := l) (I := I) (J := J) hm ha (show ix a < 6 by omega) hb (show ix b < 14 by omega)
        by_cases hat : f_at (I (m + 1)) (ix b) (I (m + 1) (94 + 8 * ix a + 0))
        · obtain ⟨k, hk, ek, ef⟩ : ∃ k, k < 2 ∧ (if I (m + 1) (9 + 6 * ix b + 0) = I (m + 1) (94 + 8 * ix a + 0) then 0 else if I (m + 1) (9 + 6 * ix b + 1) = I (m + 1) (94 + 8 * ix a + 0) then 1 else -6 : Int32) = nI k ∧ f_far (I (m + 1)) (ix b) (I (m + 1) (94 + 8 * ix a + 0)) = I (m + 1) (9 + 6 * ix b + (1 - k)) := by
            by_cases q : I (m + 1) (9 + 6 * ix b + 0) = I (m + 1) (94 + 8 * ix a + 0)
            · exact ⟨0, by decide, by rw [if_pos q]; rfl, by rw [f_far, if_pos q]⟩
            · exact ⟨1, by decide, by rw [if_neg q, if_pos (hat.resolve_left q)]; rfl, by rw [f_far, if_neg q]⟩
          rw [ek] at heo
          have k6 : ¬ nI k = -6 := by rcases (by omega : k = 0 ∨ k = 1) with rfl | rfl <;> decide
          obtain ⟨-, h1, h2⟩ := ends_of hV hl2 hk
          obtain ⟨x2, l2⟩ := ix_of_nI h2
          by_cases hf1 : f = 1
          · have hf : f_wh (I (m + 1)) a b f = I (m + 1) (94 + 8 * ix a + 1) - f_fine (I (m + 1)) (ix a) := by clear ha hb heo ek ef x2 h1 h2 hV; grind [f_wh]
            rw [hf]
            refine px_aload_0 dX8_wouldHave_0 ?_
            refine px_iload_1 dX8_wouldHave_1 ?_
            refine cd_X8_134 rfl ⟨⟨Nat.le_of_ble_eq_true rfl, Nat.le_of_ble_eq_true rfl⟩, Nat.le_of_ble_eq_true rfl, Nat.le_of_ble_eq_true rfl, Nat.le_of_ble_eq_true rfl⟩ (by first | assumption | exact mo_a hm | exact mo_r0 hm | exact mo_r1 hm | exact mo_r2 hm | exact mo_r4 hm | exact mo_r6 hm | exact mo_r8 hm | exact mo_a1 hm | exact mo_a2 hm | exact mo_a3 hm | exact mo_a4 hm | exact mo_a5 hm | exact mo_a6 hm) dX8_wouldHave_2 (s_X8_isCart hm) ?_
            refine px_ifb_eq (tgt := 16) dX8_wouldHave_5 (by decide) (fun h5 => (by first | exact absurd h5 (hr) | exact absurd (hr) h5)) (fun h5 => ?_)
            refine px_aload_0 dX8_wouldHave_8 ?_
            refine px_iload_2 dX8_wouldHave_9 ?_
            refine cd_X8_118 rfl ⟨⟨Nat.le_of_ble_eq_true rfl, Nat.le_of_ble_eq_true rfl⟩, Nat.le_of_ble_eq_true rfl, Nat.le_of_ble_eq_true rfl, Nat.le_of_ble_eq_true rfl⟩ (by first | assumption | exact mo_a hm | exact mo_r0 hm | exact mo_r1 hm | exact mo_r2 hm | exact mo_r4 hm | exact mo_r6 hm | exact mo_r8 hm | exact mo_a1 hm | exact mo_a2 hm | exact mo_a3 hm | exact mo_a4 hm | exact mo_a5 hm | exact mo_a6 hm) dX8_wouldHave_10 (s_X8_isRoad hm) ?_
            refine px_ifb_ne (tgt := 18) dX8_wouldHave_13 (by decide) (fun h13 => ?_) (fun h13 => (by first | exact absurd (hr2) h13 | exact absurd h13 (hr2)))
            refine px_iload_3 dX8_wouldHave_18 ?_
            refine px_iconst (0) dX8_wouldHave_19 rfl ?_
            refine px_iconst (1) dX8_wouldHave_20 rfl ?_
            refine cd_X8_29 rfl ⟨⟨Nat.le_of_ble_eq_true rfl, Nat.le_of_ble_eq_true rfl⟩, Nat.le_of_ble_eq_true rfl, Nat.le_of_ble_eq_true rfl, Nat.le_of_ble_eq_true rfl⟩ dX8_wouldHave_21 (s_X8_in) ?_
            refine px_ifb_ne (tgt := 30) dX8_wouldHave_24 (by decide) (fun h24 => ?_) (fun h24 => (by first | exact absurd (hr3) h24 | exact absurd h24 (hr3)))
            refine px_aload_0 dX8_wouldHave_30 ?_
            refine px_iload_1 dX8_wouldHave_31 ?_
            refine px_iload_2 dX8_wouldHave_32 ?_
            refine cd_X8_147 rfl ⟨⟨Nat.le_of_ble_eq_true rfl, Nat.le_of_ble_eq_true rfl⟩, Nat.le_of_ble_eq_true rfl, Nat.le_of_ble_eq_true rfl, Nat.le_of_ble_eq_true rfl⟩ (by first | assumption | exact mo_a hm | exact mo_r0 hm | exact mo_r1 hm | exact mo_r2 hm | exact mo_r4 hm | exact mo_r6 hm | exact mo_r8 hm | exact mo_a1 hm | exact mo_a2 hm | exact mo_a3 hm | exact mo_a4 hm | exact mo_a5 hm | exact mo_a6 hm) dX8_wouldHave_33 (heo) ?_
            refine px_istore_4 dX8_wouldHave_36 rfl ?_
            refine px_iload_4 dX8_wouldHave_38 ?_
            refine px_bipush (-6) dX8_wouldHave_40 rfl ?_
            refine px_icmp_ne (tgt := 48) dX8_wouldHave_42 (by decide) (fun h42 => ?_) (fun h42 => (by first | exact absurd (k6) h42 | exact absurd h42 (k6)))
            refine px_aload_0 dX8_wouldHave_48 ?_
            refine gf_X8_7 rfl dX8_wouldHave_49 (by first | assumption | exact mo_a hm | exact mo_r0 hm | exact mo_r1 hm | exact mo_r2 hm | exact mo_r4 hm | exact mo_r6 hm | exact mo_r8 hm | exact mo_a1 hm | exact mo_a2 hm | exact mo_a3 hm | exact mo_a4 hm | exact mo_a5 hm | exact mo_a6 hm) (by first | assumption | exact mo_a hm | exact mo_r0 hm | exact mo_r1 hm | exact mo_r2 hm | exact mo_r4 hm | exact mo_r6 hm | exact mo_r8 hm | exact mo_a1 hm | exact mo_a2 hm | exact mo_a3 hm | exact mo_a4 hm | exact mo_a5 hm | exact mo_a6 hm) ?_
            refine px_iload_1 dX8_wouldHave_52 ?_
            refine px_iconst (1) dX8_wouldHave_53 rfl ?_
            refine cd_X8_128 rfl ⟨⟨Nat.le_of_ble_eq_true rfl, Nat.le_of_ble_eq_true rfl⟩, Nat.le_of_ble_eq_true rfl, Nat.le_of_ble_eq_true rfl, Nat.le_of_ble_eq_true rfl⟩ dX8_wouldHave_54 (s_X8_ofOneCart (j := 1) ha) ?_
            refine px_ialdN dX8_wouldHave_57 (by first | assumption | exact mo_a hm | exact mo_r0 hm | exact mo_r1 hm | exact mo_r2 hm | exact mo_r4 hm | exact mo_r6 hm | exact mo_r8 hm | exact mo_a1 hm | exact mo_a2 hm | exact mo_a3 hm | exact mo_a4 hm | exact mo_a5 hm | exact mo_a6 hm) (by first | rfl | exact ix_eq (by assumption)) (by first | decide | omega) ?_
            refine px_istore_5 dX8_wouldHave_58 rfl ?_
            refine px_aload_0 dX8_wouldHave_60 ?_
            refine gf_X8_7 rfl dX8_wouldHave_61 (by first | assumption | exact mo_a hm | exact mo_r0 hm | exact mo_r1 hm | exact mo_r2 hm | exact mo_r4 hm | exact mo_r6 hm | exact mo_r8 hm | exact mo_a1 hm | exact mo_a2 hm | exact mo_a3 hm | exact mo_a4 hm | exact mo_a5 hm | exact mo_a6 hm) (by first | assumption | exact mo_a hm | exact mo_r0 hm | exact mo_r1 hm | exact mo_r2 hm | exact mo_r4 hm | exact mo_r6 hm | exact mo_r8 hm | exact mo_a1 hm | exact mo_a2 hm | exact mo_a3 hm | exact mo_a4 hm | exact mo_a5 hm | exact mo_a6 hm) ?_
            refine px_iload_1 dX8_wouldHave_64 ?_
            refine px_iconst (2) dX8_wouldHave_65 rfl ?_
            refine cd_X8_128 rfl ⟨⟨Nat.le_of_ble_eq_true rfl, Nat.le_of_ble_eq_true rfl⟩, Nat.le_of_ble_eq_true rfl, Nat.le_of_ble_eq_true rfl, Nat.le_of_ble_eq_true rfl⟩ dX8_wouldHave_66 (s_X8_ofOneCart (j := 2) ha) ?_
            refine px_ialdN dX8_wouldHave_69 (by first | assumption | exact mo_a hm | exact mo_r0 hm | exact mo_r1 hm | exact mo_r2 hm | exact mo_r4 hm | exact mo_r6 hm | exact mo_r8 hm | exact mo_a1 hm | exact mo_a2 hm | exact mo_a3 hm | exact mo_a4 hm | exact mo_a5 hm | exact mo_a6 hm) (by first | rfl | exact ix_eq (by assumption)) (by first | decide | omega) ?_
            refine px_aload_0 dX8_wouldHave_70 ?_
            refine gf_X8_7 rfl dX8_wouldHave_71 (by first | assumption | exact mo_a hm | exact mo_r0 hm | exact mo_r1 hm | exact mo_r2 hm | exact mo_r4 hm | exact mo_r6 hm | exact mo_r8 hm | exact mo_a1 hm | exact mo_a2 hm | exact mo_a3 hm | exact mo_a4 hm | exact mo_a5 hm | exact mo_a6 hm) (by first | assumption | exact mo_a hm | exact mo_r0 hm | exact mo_r1 hm | exact mo_r2 hm | exact mo_r4 hm | exact mo_r6 hm | exact mo_r8 hm | exact mo_a1 hm | exact mo_a2 hm | exact mo_a3 hm | exact mo_a4 hm | exact mo_a5 hm | exact mo_a6 hm) ?_
            refine px_iconst (0) dX8_wouldHave_74 rfl ?_
            refine px_aload_0 dX8_wouldHave_75 ?_
            refine px_iload_2 dX8_wouldHave_76 ?_
            refine px_iconst (1) dX8_wouldHave_77 rfl ?_
            refine px_iload_4 dX8_wouldHave_78 ?_
            refine px_isub dX8_wouldHave_80 ?_
            refine cd_X8_48 rfl ⟨⟨Nat.le_of_ble_eq_true rfl, Nat.le_of_ble_eq_true rfl⟩, Nat.le_of_ble_eq_true rfl, Nat.le_of_ble_eq_true rfl, Nat.le_of_ble_eq_true rfl⟩ (by first | assumption | exact mo_a hm | exact mo_r0 hm | exact mo_r1 hm | exact mo_r2 hm | exact mo_r4 hm | exact mo_r6 hm | exact mo_r8 hm | exact mo_a1 hm | exact mo_a2 hm | exact mo_a3 hm | exact mo_a4 hm | exact mo_a5 hm | exact mo_a6 hm) dX8_wouldHave_81 (s_X8_end hm hb (by omega) (one_sub rfl hk) (by omega)) ?_
            refine px_iadd dX8_wouldHave_84 ?_
            rw [z_add]
            refine px_ialdN dX8_wouldHave_85 (by first | assumption | exact mo_a hm | exact mo_r0 hm | exact mo_r1 hm | exact mo_r2 hm | exact mo_r4 hm | exact mo_r6 hm | exact mo_r8 hm | exact mo_a1 hm | exact mo_a2 hm | exact mo_a3 hm | exact mo_a4 hm | exact mo_a5 hm | exact mo_a6 hm) (by exact x2) (by omega) ?_
            refine px_imul dX8_wouldHave_86 ?_
            refine px_istore_6 dX8_wouldHave_87 rfl ?_
            refine px_iload_3 dX8_wouldHave_89 ?_
            refine px_iconst (1) dX8_wouldHave_90 rfl ?_
            refine px_icmp_ne (tgt := 105) dX8_wouldHave_91 (by decide) (fun h91 => (by first | exact absurd h91 (hf1) | exact absurd (hf1) h91)) (fun h91 => ?_)
            refine px_iload_5 dX8_wouldHave_94 ?_
            refine px_aload_0 dX8_wouldHave_96 ?_
            refine px_iload_1 dX8_wouldHave_97 ?_
            refine cd_X8_144 rfl ⟨⟨Nat.le_of_ble_eq_true rfl, Nat.le_of_ble_eq_true rfl⟩, Nat.le_of_ble_eq_true rfl, Nat.le_of_ble_eq_true rfl, Nat.le_of_ble_eq_true rfl⟩ (by first | assumption | exact mo_a hm | exact mo_r0 hm | exact mo_r1 hm | exact mo_r2 hm | exact mo_r4 hm | exact mo_r6 hm | exact mo_r8 hm | exact mo_a1 hm | exact mo_a2 hm | exact mo_a3 hm | exact mo_a4 hm | exact mo_a5 hm | exact mo_a6 hm) dX8_wouldHave_98 (s_X8_fineFor hm ha (by omega)) ?_
            refine px_isub dX8_wouldHave_101 ?_
            refine px_goto (tgt := 110) dX8_wouldHave_102 (by decide) ?_
            refine px_iret dX8_wouldHave_110 ?_
            exact ⟨rfl, rfl⟩
          · have hf : f_wh (I (m + 1)) a b f = I (m + 1) (94 + 8 * ix a + 1) + I (m + 1) (94 + 8 * ix a + 2) * I (m + 1) (ix (I (m + 1) (9 + 6 * ix b + (1 - k)))) := by rw [← ef]; clear ha hb heo ek ef x2 h1 h2 hV; grind [f_wh]
            rw [hf]
            refine px_aload_0 dX8_wouldHave_0 ?_
            refine px_iload_1 dX8_wouldHave_1 ?_
            refine cd_X8_134 rfl ⟨⟨Nat.le_of_ble_eq_true rfl, Nat.le_of_ble_eq_true rfl⟩, Nat.le_of_ble_eq_true rfl, Nat.le_of_ble_eq_true rfl, Nat.le_of_ble_eq_true rfl⟩ (by first | assumption | exact mo_a hm | exact mo_r0 hm | exact mo_r1 hm | exact mo_r2 hm | exact mo_r4 hm | exact mo_r6 hm | exact mo_r8 hm | exact mo_a1 hm | exact mo_a2 hm | exact mo_a3 hm | exact mo_a4 hm | exact mo_a5 hm | exact mo_a6 hm) dX8_wouldHave_2 (s_X8_isCart hm) ?_
            refine px_ifb_eq (tgt := 16) dX8_wouldHave_5 (by decide) (fun h5 => (by first | exact absurd h5 (hr) | exact absurd (hr) h5)) (fun h5 => ?_)
            refine px_aload_0 dX8_wouldHave_8 ?_
            refine px_iload_2 dX8_wouldHave_9 ?_
            refine cd_X8_118 rfl ⟨⟨Nat.le_of_ble_eq_true rfl, Nat.le_of_ble_eq_true rfl⟩, Nat.le_of_ble_eq_true rfl, Nat.le_of_ble_eq_true rfl, Nat.le_of_ble_eq_true rfl⟩ (by first | assumption | exact mo_a hm | exact mo_r0 hm | exact mo_r1 hm | exact mo_r2 hm | exact mo_r4 hm | exact mo_r6 hm | exact mo_r8 hm | exact mo_a1 hm | exact mo_a2 hm | exact mo_a3 hm | exact mo_a4 hm | exact mo_a5 hm | exact mo_a6 hm) dX8_wouldHave_10 (s_X8_isRoad hm) ?_
            refine px_ifb_ne (tgt := 18) dX8_wouldHave_13 (by decide) (fun h13 => ?_) (fun h13 => (by first | exact absurd (hr2) h13 | exact absurd h13 (hr2)))
            refine px_iload_3 dX8_wouldHave_18 ?_
            refine px_iconst (0) dX8_wouldHave_19 rfl ?_
            refine px_iconst (1) dX8_wouldHave_20 rfl ?_
            refine cd_X8_29 rfl ⟨⟨Nat.le_of_ble_eq_true rfl, Nat.le_of_ble_eq_true rfl⟩, Nat.le_of_ble_eq_true rfl, Nat.le_of_ble_eq_true rfl, Nat.le_of_ble_eq_true rfl⟩ dX8_wouldHave_21 (s_X8_in) ?_
            refine px_ifb_ne (tgt := 30) dX8_wouldHave_24 (by decide) (fun h24 => ?_) (fun h24 => (by first | exact absurd (hr3) h24 | exact absurd h24 (hr3)))
            refine px_aload_0 dX8_wouldHave_30 ?_
            refine px_iload_1 dX8_wouldHave_31 ?_
            refine px_iload_2 dX8_wouldHave_32 ?_
            refine cd_X8_147 rfl ⟨⟨Nat.le_of_ble_eq_true rfl, Nat.le_of_ble_eq_true rfl⟩, Nat.le_of_ble_eq_true rfl, Nat.le_of_ble_eq_true rfl, Nat.le_of_ble_eq_true rfl⟩ (by first | assumption | exact mo_a hm | exact mo_r0 hm | exact mo_r1 hm | exact mo_r2 hm | exact mo_r4 hm | exact mo_r6 hm | exact mo_r8 hm | exact mo_a1 hm | exact mo_a2 hm | exact mo_a3 hm | exact mo_a4 hm | exact mo_a5 hm | exact mo_a6 hm) dX8_wouldHave_33 (heo) ?_
            refine px_istore_4 dX8_wouldHave_36 rfl ?_
            refine px_iload_4 dX8_wouldHave_38 ?_
            refine px_bipush (-6) dX8_wouldHave_40 rfl ?_
            refine px_icmp_ne (tgt := 48) dX8_wouldHave_42 (by decide) (fun h42 => ?_) (fun h42 => (by first | exact absurd (k6) h42 | exact absurd h42 (k6)))
            refine px_aload_0 dX8_wouldHave_48 ?_
            refine gf_X8_7 rfl dX8_wouldHave_49 (by first | assumption | exact mo_a hm | exact mo_r0 hm | exact mo_r1 hm | exact mo_r2 hm | exact mo_r4 hm | exact mo_r6 hm | exact mo_r8 hm | exact mo_a1 hm | exact mo_a2 hm | exact mo_a3 hm | exact mo_a4 hm | exact mo_a5 hm | exact mo_a6 hm) (by first | assumption | exact mo_a hm | exact mo_r0 hm | exact mo_r1 hm | exact mo_r2 hm | exact mo_r4 hm | exact mo_r6 hm | exact mo_r8 hm | exact mo_a1 hm | exact mo_a2 hm | exact mo_a3 hm | exact mo_a4 hm | exact mo_a5 hm | exact mo_a6 hm) ?_
            refine px_iload_1 dX8_wouldHave_52 ?_
            refine px_iconst (1) dX8_wouldHave_53 rfl ?_
            refine cd_X8_128 rfl ⟨⟨Nat.le_of_ble_eq_true rfl, Nat.le_of_ble_eq_true rfl⟩, Nat.le_of_ble_eq_true rfl, Nat.le_of_ble_eq_true rfl, Nat.le_of_ble_eq_true rfl⟩ dX8_wouldHave_54 (s_X8_ofOneCart (j := 1) ha) ?_
            refine px_ialdN dX8_wouldHave_57 (by first | assumption | exact mo_a hm | exact mo_r0 hm | exact mo_r1 hm | exact mo_r2 hm | exact mo_r4 hm | exact mo_r6 hm | exact mo_r8 hm | exact mo_a1 hm | exact mo_a2 hm | exact mo_a3 hm | exact mo_a4 hm | exact mo_a5 hm | exact mo_a6 hm) (by first | rfl | exact ix_eq (by assumption)) (by first | decide | omega) ?_
            refine px_istore_5 dX8_wouldHave_58 rfl ?_
            refine px_aload_0 dX8_wouldHave_60 ?_
            refine gf_X8_7 rfl dX8_wouldHave_61 (by first | assumption | exact mo_a hm | exact mo_r0 hm | exact mo_r1 hm | exact mo_r2 hm | exact mo_r4 hm | exact mo_r6 hm | exact mo_r8 hm | exact mo_a1 hm | exact mo_a2 hm | exact mo_a3 hm | exact mo_a4 hm | exact mo_a5 hm | exact mo_a6 hm) (by first | assumption | exact mo_a hm | exact mo_r0 hm | exact mo_r1 hm | exact mo_r2 hm | exact mo_r4 hm | exact mo_r6 hm | exact mo_r8 hm | exact mo_a1 hm | exact mo_a2 hm | exact mo_a3 hm | exact mo_a4 hm | exact mo_a5 hm | exact mo_a6 hm) ?_
            refine px_iload_1 dX8_wouldHave_64 ?_
            refine px_iconst (2) dX8_wouldHave_65 rfl ?_
            refine cd_X8_128 rfl ⟨⟨Nat.le_of_ble_eq_true rfl, Nat.le_of_ble_eq_true rfl⟩, Nat.le_of_ble_eq_true rfl, Nat.le_of_ble_eq_true rfl, Nat.le_of_ble_eq_true rfl⟩ dX8_wouldHave_66 (s_X8_ofOneCart (j := 2) ha) ?_
            refine px_ialdN dX8_wouldHave_69 (by first | assumption | exact mo_a hm | exact mo_r0 hm | exact mo_r1 hm | exact mo_r2 hm | exact mo_r4 hm | exact mo_r6 hm | exact mo_r8 hm | exact mo_a1 hm | exact mo_a2 hm | exact mo_a3 hm | exact mo_a4 hm | exact mo_a5 hm | exact mo_a6 hm) (by first | rfl | exact ix_eq (by assumption)) (by first | decide | omega) ?_
            refine px_aload_0 dX8_wouldHave_70 ?_
            refine gf_X8_7 rfl dX8_wouldHave_71 (by first | assumption | exact mo_a hm | exact mo_r0 hm | exact mo_r1 hm | exact mo_r2 hm | exact mo_r4 hm | exact mo_r6 hm | exact mo_r8 hm | exact mo_a1 hm | exact mo_a2 hm | exact mo_a3 hm | exact mo_a4 hm | exact mo_a5 hm | exact mo_a6 hm) (by first | assumption | exact mo_a hm | exact mo_r0 hm | exact mo_r1 hm | exact mo_r2 hm | exact mo_r4 hm | exact mo_r6 hm | exact mo_r8 hm | exact mo_a1 hm | exact mo_a2 hm | exact mo_a3 hm | exact mo_a4 hm | exact mo_a5 hm | exact mo_a6 hm) ?_
            refine px_iconst (0) dX8_wouldHave_74 rfl ?_
            refine px_aload_0 dX8_wouldHave_75 ?_
            refine px_iload_2 dX8_wouldHave_76 ?_
            refine px_iconst (1) dX8_wouldHave_77 rfl ?_
            refine px_iload_4 dX8_wouldHave_78 ?_
            refine px_isub dX8_wouldHave_80 ?_
            refine cd_X8_48 rfl ⟨⟨Nat.le_of_ble_eq_true rfl, Nat.le_of_ble_eq_true rfl⟩, Nat.le_of_ble_eq_true rfl, Nat.le_of_ble_eq_true rfl, Nat.le_of_ble_eq_true rfl⟩ (by first | assumption | exact mo_a hm | exact mo_r0 hm | exact mo_r1 hm | exact mo_r2 hm | exact mo_r4 hm | exact mo_r6 hm | exact mo_r8 hm | exact mo_a1 hm | exact mo_a2 hm | exact mo_a3 hm | exact mo_a4 hm | exact mo_a5 hm | exact mo_a6 hm) dX8_wouldHave_81 (s_X8_end hm hb (by omega) (one_sub rfl hk) (by omega)) ?_
            refine px_iadd dX8_wouldHave_84 ?_
            rw [z_add]
            refine px_ialdN dX8_wouldHave_85 (by first | assumption | exact mo_a hm | exact mo_r0 hm | exact mo_r1 hm | exact mo_r2 hm | exact mo_r4 hm | exact mo_r6 hm | exact mo_r8 hm | exact mo_a1 hm | exact mo_a2 hm | exact mo_a3 hm | exact mo_a4 hm | exact mo_a5 hm | exact mo_a6 hm) (by exact x2) (by omega) ?_
            refine px_imul dX8_wouldHave_86 ?_
            refine px_istore_6 dX8_wouldHave_87 rfl ?_
            refine px_iload_3 dX8_wouldHave_89 ?_
            refine px_iconst (1) dX8_wouldHave_90 rfl ?_
            refine px_icmp_ne (tgt := 105) dX8_wouldHave_91 (by decide) (fun h91 => ?_) (fun h91 => (by first | exact absurd (hf1) h91 | exact absurd h91 (hf1)))
            refine px_iload_5 dX8_wouldHave_105 ?_
            refine px_iload_6 dX8_wouldHave_107 ?_
            refine px_iadd dX8_wouldHave_109 ?_
            refine px_iret dX8_wouldHave_110 ?_
            exact ⟨rfl, rfl⟩
        · have ek : (if I (m + 1) (9 + 6 * ix b + 0) = I (m + 1) (94 + 8 * ix a + 0) then 0 else if I (m + 1) (9 + 6 * ix b + 1) = I (m + 1) (94 + 8 * ix a + 0) then 1 else -6 : Int32) = -6 := by rw [if_neg (fun q => hat (Or.inl q)), if_neg (fun q => hat (Or.inr q))]
          rw [ek] at heo
          have hf : f_wh (I (m + 1)) a b f = -5 := by clear ha hb heo ek hV; grind [f_wh]
          rw [hf]
          refine px_aload_0 dX8_wouldHave_0 ?_
          refine px_iload_1 dX8_wouldHave_1 ?_
          refine cd_X8_134 rfl ⟨⟨Nat.le_of_ble_eq_true rfl, Nat.le_of_ble_eq_true rfl⟩, Nat.le_of_ble_eq_true rfl, Nat.le_of_ble_eq_true rfl, Nat.le_of_ble_eq_true rfl⟩ (by first | assumption | exact mo_a hm | exact mo_r0 hm | exact mo_r1 hm | exact mo_r2 hm | exact mo_r4 hm | exact mo_r6 hm | exact mo_r8 hm | exact mo_a1 hm | exact mo_a2 hm | exact mo_a3 hm | exact mo_a4 hm | exact mo_a5 hm | exact mo_a6 hm) dX8_wouldHave_2 (s_X8_isCart hm) ?_
          refine px_ifb_eq (tgt := 16) dX8_wouldHave_5 (by decide) (fun h5 => (by first | exact absurd h5 (hr) | exact absurd (hr) h5)) (fun h5 => ?_)
          refine px_aload_0 dX8_wouldHave_8 ?_
          refine px_iload_2 dX8_wouldHave_9 ?_
          refine cd_X8_118 rfl ⟨⟨Nat.le_of_ble_eq_true rfl, Nat.le_of_ble_eq_true rfl⟩, Nat.le_of_ble_eq_true rfl, Nat.le_of_ble_eq_true rfl, Nat.le_of_ble_eq_true rfl⟩ (by first | assumption | exact mo_a hm | exact mo_r0 hm | exact mo_r1 hm | exact mo_r2 hm | exact mo_r4 hm | exact mo_r6 hm | exact mo_r8 hm | exact mo_a1 hm | exact mo_a2 hm | exact mo_a3 hm | exact mo_a4 hm | exact mo_a5 hm | exact mo_a6 hm) dX8_wouldHave_10 (s_X8_isRoad hm) ?_
          refine px_ifb_ne (tgt := 18) dX8_wouldHave_13 (by decide) (fun h13 => ?_) (fun h13 => (by first | exact absurd (hr2) h13 | exact absurd h13 (hr2)))
          refine px_iload_3 dX8_wouldHave_18 ?_
          refine px_iconst (0) dX8_wouldHave_19 rfl ?_
          refine px_iconst (1) dX8_wouldHave_20 rfl ?_
          refine cd_X8_29 rfl ⟨⟨Nat.le_of_ble_eq_true rfl, Nat.le_of_ble_eq_true rfl⟩, Nat.le_of_ble_eq_true rfl, Nat.le_of_ble_eq_true rfl, Nat.le_of_ble_eq_true rfl⟩ dX8_wouldHave_21 (s_X8_in) ?_
          refine px_ifb_ne (tgt := 30) dX8_wouldHave_24 (by decide) (fun h24 => ?_) (fun h24 => (by first | exact absurd (hr3) h24 | exact absurd h24 (hr3)))
          refine px_aload_0 dX8_wouldHave_30 ?_
          refine px_iload_1 dX8_wouldHave_31 ?_
          refine px_iload_2 dX8_wouldHave_32 ?_
          refine cd_X8_147 rfl ⟨⟨Nat.le_of_ble_eq_true rfl, Nat.le_of_ble_eq_true rfl⟩, Nat.le_of_ble_eq_true rfl, Nat.le_of_ble_eq_true rfl, Nat.le_of_ble_eq_true rfl⟩ (by first | assumption | exact mo_a hm | exact mo_r0 hm | exact mo_r1 hm | exact mo_r2 hm | exact mo_r4 hm | exact mo_r6 hm | exact mo_r8 hm | exact mo_a1 hm | exact mo_a2 hm | exact mo_a3 hm | exact mo_a4 hm | exact mo_a5 hm | exact mo_a6 hm) dX8_wouldHave_33 (heo) ?_
          refine px_istore_4 dX8_wouldHave_36 rfl ?_
          refine px_iload_4 dX8_wouldHave_38 ?_
          refine px_bipush (-6) dX8_wouldHave_40 rfl ?_
          refine px_icmp_ne (tgt := 48) dX8_wouldHave_42 (by decide) (fun h42 => (by first | exact absurd h42 (rfl) | exact absurd (rfl) h42)) (fun h42 => ?_)
          refine px_bipush (-5) dX8_wouldHave_45 rfl ?_
          refine px_iret dX8_wouldHave_47 ?_
          exact ⟨rfl, rfl⟩
      · have hf : f_wh (I (m + 1)) a b f = -2 := by clear hV; grind [f_wh]
        rw [hf]
        refine px_aload_0 dX8_wouldHave_0 ?_
        refine px_iload_1 dX8_wouldHave_1 ?_
        refine cd_X8_134 rfl ⟨⟨Nat.le_of_ble_eq_true rfl, Nat.le_of_ble_eq_true rfl⟩, Nat.le_of_ble_eq_true rfl, Nat.le_of_ble_eq_true rfl, Nat.le_of_ble_eq_true rfl⟩ (by first | assumption | exact mo_a hm | exact mo_r0 hm | exact mo_r1 hm | exact mo_r2 hm | exact mo_r4 hm | exact mo_r6 hm | exact mo_r8 hm | exact mo_a1 hm | exact mo_a2 hm | exact mo_a3 hm | exact mo_a4 hm | exact mo_a5 hm | exact mo_a6 hm) dX8_wouldHave_2 (s_X8_isCart hm) ?_
        refine px_ifb_eq (tgt := 16) dX8_wouldHave_5 (by decide) (fun h5 => (by first | exact absurd h5 (hr) | exact absurd (hr) h5)) (fun h5 => ?_)
        refine px_aload_0 dX8_wouldHave_8 ?_
        refine px_iload_2 dX8_wouldHave_9 ?_
        refine cd_X8_118 rfl ⟨⟨Nat.le_of_ble_eq_true rfl, Nat.le_of_ble_eq_true rfl⟩, Nat.le_of_ble_eq_true rfl, Nat.le_of_ble_eq_true rfl, Nat.le_of_ble_eq_true rfl⟩ (by first | assumption | exact mo_a hm | exact mo_r0 hm | exact mo_r1 hm | exact mo_r2 hm | exact mo_r4 hm | exact mo_r6 hm | exact mo_r8 hm | exact mo_a1 hm | exact mo_a2 hm | exact mo_a3 hm | exact mo_a4 hm | exact mo_a5 hm | exact mo_a6 hm) dX8_wouldHave_10 (s_X8_isRoad hm) ?_
        refine px_ifb_ne (tgt := 18) dX8_wouldHave_13 (by decide) (fun h13 => ?_) (fun h13 => (by first | exact absurd (hr2) h13 | exact absurd h13 (hr2)))
        refine px_iload_3 dX8_wouldHave_18 ?_
        refine px_iconst (0) dX8_wouldHave_19 rfl ?_
        refine px_iconst (1) dX8_wouldHave_20 rfl ?_
        refine cd_X8_29 rfl ⟨⟨Nat.le_of_ble_eq_true rfl, Nat.le_of_ble_eq_true rfl⟩, Nat.le_of_ble_eq_true rfl, Nat.le_of_ble_eq_true rfl, Nat.le_of_ble_eq_true rfl⟩ dX8_wouldHave_21 (s_X8_in) ?_
        refine px_ifb_ne (tgt := 30) dX8_wouldHave_24 (by decide) (fun h24 => (by first | exact absurd h24 (hr3) | exact absurd (hr3) h24)) (fun h24 => ?_)
        refine px_bipush (-2) dX8_wouldHave_27 rfl ?_
        refine px_iret dX8_wouldHave_29 ?_
        exact ⟨rfl, rfl⟩
    · have hf : f_wh (I (m + 1)) a b f = -1 := by clear hV; grind [f_wh]
      rw [hf]
      refine px_aload_0 dX8_wouldHave_0 ?_
      refine px_iload_1 dX8_wouldHave_1 ?_
      refine cd_X8_134 rfl ⟨⟨Nat.le_of_ble_eq_true rfl, Nat.le_of_ble_eq_true rfl⟩, Nat.le_of_ble_eq_true rfl, Nat.le_of_ble_eq_true rfl, Nat.le_of_ble_eq_true rfl⟩ (by first | assumption | exact mo_a hm | exact mo_r0 hm | exact mo_r1 hm | exact mo_r2 hm | exact mo_r4 hm | exact mo_r6 hm | exact mo_r8 hm | exact mo_a1 hm | exact mo_a2 hm | exact mo_a3 hm | exact mo_a4 hm | exact mo_a5 hm | exact mo_a6 hm) dX8_wouldHave_2 (s_X8_isCart hm) ?_
      refine px_ifb_eq (tgt := 16) dX8_wouldHave_5 (by decide) (fun h5 => (by first | exact absurd h5 (hr) | exact absurd (hr) h5)) (fun h5 => ?_)
      refine px_aload_0 dX8_wouldHave_8 ?_
      refine px_iload_2 dX8_wouldHave_9 ?_
      refine cd_X8_118 rfl ⟨⟨Nat.le_of_ble_eq_true rfl, Nat.le_of_ble_eq_true rfl⟩, Nat.le_of_ble_eq_true rfl, Nat.le_of_ble_eq_true rfl, Nat.le_of_ble_eq_true rfl⟩ (by first | assumption | exact mo_a hm | exact mo_r0 hm | exact mo_r1 hm | exact mo_r2 hm | exact mo_r4 hm | exact mo_r6 hm | exact mo_r8 hm | exact mo_a1 hm | exact mo_a2 hm | exact mo_a3 hm | exact mo_a4 hm | exact mo_a5 hm | exact mo_a6 hm) dX8_wouldHave_10 (s_X8_isRoad hm) ?_
      refine px_ifb_ne (tgt := 18) dX8_wouldHave_13 (by decide) (fun h13 => (by first | exact absurd h13 (hr2) | exact absurd (hr2) h13)) (fun h13 => ?_)
      refine px_iconst (-1) dX8_wouldHave_16 rfl ?_
      refine px_iret dX8_wouldHave_17 ?_
      exact ⟨rfl, rfl⟩
  · have hf : f_wh (I (m + 1)) a b f = -1 := by clear hV; grind [f_wh]
    rw [hf]
    refine px_aload_0 dX8_wouldHave_0 ?_
    refine px_iload_1 dX8_wouldHave_1 ?_
    refine cd_X8_134 rfl ⟨⟨Nat.le_of_ble_eq_true rfl, Nat.le_of_ble_eq_true rfl⟩, Nat.le_of_ble_eq_true rfl, Nat.le_of_ble_eq_true rfl, Nat.le_of_ble_eq_true rfl⟩ (by first | assumption | exact mo_a hm | exact mo_r0 hm | exact mo_r1 hm | exact mo_r2 hm | exact mo_r4 hm | exact mo_r6 hm | exact mo_r8 hm | exact mo_a1 hm | exact mo_a2 hm | exact mo_a3 hm | exact mo_a4 hm | exact mo_a5 hm | exact mo_a6 hm) dX8_wouldHave_2 (s_X8_isCart hm) ?_
    refine px_ifb_eq (tgt := 16) dX8_wouldHave_5 (by decide) (fun h5 => ?_) (fun h5 => (by first | exact absurd (hr) h5 | exact absurd h5 (hr)))
    refine px_iconst (-1) dX8_wouldHave_16 rfl ?_
    refine px_iret dX8_wouldHave_17 ?_
    exact ⟨rfl, rfl⟩
def f_oc (σ : px_s) (a b : Int32) : Int32 := if ¬ rg a 0 (σ 93 - 1) then -1 else if rg b 0 7 then σ (94 + 8 * ix a + ix b) else -2
theorem s_X8_ofCart {a b : Int32} (hm : px_mo G T R m) (hV : px_V (I (m + 1))) : px_K l G 2 mX8_ofCart ([.ref m, .int a, .int b]) ((T, I, J, R)) (some (.int (f_oc (I (m + 1)) a b))) ((T, I, J, R)) := by
  refine px_met (M := mX8_ofCart) ([some (.ref m), some (.int a), some (.int b)]) (by decide +kernel) rfl (Nat.le_of_ble_eq_true rfl) rfl ?_
  by_cases hr : rg a 0 (I (m + 1) 93 - 1)
  · obtain ⟨ha, hl, h6⟩ := ct_lt hV hr
    by_cases hb : rg b 0 7
    · have h7 := ix_le hb (k := 7) rfl
      have hf : f_oc (I (m + 1)) a b = I (m + 1) (94 + 8 * ix a + ix b) := by rw [f_oc, if_neg (fun q => q hr), if_pos hb]
      rw [hf]
      have ho := s_X8_ofOneCart (l := l) (G := G) (μ := (T, I, J, R)) (j := ix b) ha
      rw [← ix_eq hb] at ho
      refine px_aload_0 dX8_ofCart_0 ?_
      refine px_iload_1 dX8_ofCart_1 ?_
      refine cd_X8_134 rfl ⟨⟨Nat.le_of_ble_eq_true rfl, Nat.le_of_ble_eq_true rfl⟩, Nat.le_of_ble_eq_true rfl, Nat.le_of_ble_eq_true rfl, Nat.le_of_ble_eq_true rfl⟩ (by first | assumption | exact mo_a hm | exact mo_r0 hm | exact mo_r1 hm | exact mo_r2 hm | exact mo_r4 hm | exact mo_r6 hm | exact mo_r8 hm | exact mo_a1 hm | exact mo_a2 hm | exact mo_a3 hm | exact mo_a4 hm | exact mo_a5 hm | exact mo_a6 hm) dX8_ofCart_2 (s_X8_isCart hm) ?_
      refine px_ifb_ne (tgt := 10) dX8_ofCart_5 (by decide) (fun h5 => ?_) (fun h5 => (by first | exact absurd (hr) h5 | exact absurd h5 (hr)))
      refine px_iload_2 dX8_ofCart_10 ?_
      refine px_iconst (0) dX8_ofCart_11 rfl ?_
      refine px_bipush (7) dX8_ofCart_12 rfl ?_
      refine cd_X8_29 rfl ⟨⟨Nat.le_of_ble_eq_true rfl, Nat.le_of_ble_eq_true rfl⟩, Nat.le_of_ble_eq_true rfl, Nat.le_of_ble_eq_true rfl, Nat.le_of_ble_eq_true rfl⟩ dX8_ofCart_14 (s_X8_in) ?_
      refine px_ifb_eq (tgt := 33) dX8_ofCart_17 (by decide) (fun h17 => (by first | exact absurd h17 (hb) | exact absurd (hb) h17)) (fun h17 => ?_)
      refine px_aload_0 dX8_ofCart_20 ?_
      refine gf_X8_7 rfl dX8_ofCart_21 (by first | assumption | exact mo_a hm | exact mo_r0 hm | exact mo_r1 hm | exact mo_r2 hm | exact mo_r4 hm | exact mo_r6 hm | exact mo_r8 hm | exact mo_a1 hm | exact mo_a2 hm | exact mo_a3 hm | exact mo_a4 hm | exact mo_a5 hm | exact mo_a6 hm) (by first | assumption | exact mo_a hm | exact mo_r0 hm | exact mo_r1 hm | exact mo_r2 hm | exact mo_r4 hm | exact mo_r6 hm | exact mo_r8 hm | exact mo_a1 hm | exact mo_a2 hm | exact mo_a3 hm | exact mo_a4 hm | exact mo_a5 hm | exact mo_a6 hm) ?_
      refine px_iload_1 dX8_ofCart_24 ?_
      refine px_iload_2 dX8_ofCart_25 ?_
      refine cd_X8_128 rfl ⟨⟨Nat.le_of_ble_eq_true rfl, Nat.le_of_ble_eq_true rfl⟩, Nat.le_of_ble_eq_true rfl, Nat.le_of_ble_eq_true rfl, Nat.le_of_ble_eq_true rfl⟩ dX8_ofCart_26 (ho) ?_
      refine px_ialdN dX8_ofCart_29 (by first | assumption | exact mo_a hm | exact mo_r0 hm | exact mo_r1 hm | exact mo_r2 hm | exact mo_r4 hm | exact mo_r6 hm | exact mo_r8 hm | exact mo_a1 hm | exact mo_a2 hm | exact mo_a3 hm | exact mo_a4 hm | exact mo_a5 hm | exact mo_a6 hm) (by first | rfl | exact ix_eq (by assumption)) (by first | decide | omega) ?_
      refine px_goto (tgt := 35) dX8_ofCart_30 (by decide) ?_
      refine px_iret dX8_ofCart_35 ?_
      exact ⟨rfl, rfl⟩
    · have hf : f_oc (I (m + 1)) a b = -2 := by rw [f_oc, if_neg (fun q => q hr), if_neg hb]
      rw [hf]
      refine px_aload_0 dX8_ofCart_0 ?_
      refine px_iload_1 dX8_ofCart_1 ?_
      refine cd_X8_134 rfl ⟨⟨Nat.le_of_ble_eq_true rfl, Nat.le_of_ble_eq_true rfl⟩, Nat.le_of_ble_eq_true rfl, Nat.le_of_ble_eq_true rfl, Nat.le_of_ble_eq_true rfl⟩ (by first | assumption | exact mo_a hm | exact mo_r0 hm | exact mo_r1 hm | exact mo_r2 hm | exact mo_r4 hm | exact mo_r6 hm | exact mo_r8 hm | exact mo_a1 hm | exact mo_a2 hm | exact mo_a3 hm | exact mo_a4 hm | exact mo_a5 hm | exact mo_a6 hm) dX8_ofCart_2 (s_X8_isCart hm) ?_
      refine px_ifb_ne (tgt := 10) dX8_ofCart_5 (by decide) (fun h5 => ?_) (fun h5 => (by first | exact absurd (hr) h5 | exact absurd h5 (hr)))
      refine px_iload_2 dX8_ofCart_10 ?_
      refine px_iconst (0) dX8_ofCart_11 rfl ?_
      refine px_bipush (7) dX8_ofCart_12 rfl ?_
      refine cd_X8_29 rfl ⟨⟨Nat.le_of_ble_eq_true rfl, Nat.le_of_ble_eq_true rfl⟩, Nat.le_of_ble_eq_true rfl, Nat.le_of_ble_eq_true rfl, Nat.le_of_ble_eq_true rfl⟩ dX8_ofCart_14 (s_X8_in) ?_
      refine px_ifb_eq (tgt := 33) dX8_ofCart_17 (by decide) (fun h17 => ?_) (fun h17 => (by first | exact absurd (hb) h17 | exact absurd h17 (hb)))
      refine px_bipush (-2) dX8_ofCart_33 rfl ?_
      refine px_iret dX8_ofCart_35 ?_
      exact ⟨rfl, rfl⟩
  · have hf : f_oc (I (m + 1)) a b = -1 := by rw [f_oc, if_pos hr]
    rw [hf]
    refine px_aload_0 dX8_ofCart_0 ?_
    refine px_iload_1 dX8_ofCart_1 ?_
    refine cd_X8_134 rfl ⟨⟨Nat.le_of_ble_eq_true rfl, Nat.le_of_ble_eq_true rfl⟩, Nat.le_of_ble_eq_true rfl, Nat.le_of_ble_eq_true rfl, Nat.le_of_ble_eq_true rfl⟩ (by first | assumption | exact mo_a hm | exact mo_r0 hm | exact mo_r1 hm | exact mo_r2 hm | exact mo_r4 hm | exact mo_r6 hm | exact mo_r8 hm | exact mo_a1 hm | exact mo_a2 hm | exact mo_a3 hm | exact mo_a4 hm | exact mo_a5 hm | exact mo_a6 hm) dX8_ofCart_2 (s_X8_isCart hm) ?_
    refine px_ifb_ne (tgt := 10) dX8_ofCart_5 (by decide) (fun h5 => (by first | exact absurd h5 (hr) | exact absurd (hr) h5)) (fun h5 => ?_)
    refine px_iconst (-1) dX8_ofCart_8 rfl ?_
    refine px_iret dX8_ofCart_9 ?_
    exact ⟨rfl, rfl⟩
theorem s_X8_sign {a : Int32} {n : Nat} {c : Nat → Int32} (hm : px_mo G T R m) (h7 : I m 7 = nI n) (h80 : n ≤ 80) (hc : ∀ i, i < n → I (m + 5) i = c i) : px_K l G 1 mX8_sign ([.ref m, .int a]) ((T, I, J, R)) (some (.int (if rg a 0 (nI n - 1) then c (ix a) else -1))) ((T, I, J, R)) := by
  refine px_met (M := mX8_sign) ([some (.ref m), some (.int a)]) (by decide +kernel) rfl (Nat.le_of_ble_eq_true rfl) rfl ?_
  by_cases hr : rg a 0 (nI n - 1)
  · have hlt := ix_ltn hr (by omega)
    rw [if_pos hr]
    refine px_iload_1 dX8_sign_0 ?_
    refine px_iconst (0) dX8_sign_1 rfl ?_
    refine px_aload_0 dX8_sign_2 ?_
    refine gf_X8_156 rfl dX8_sign_3 (by first | assumption | exact mo_a hm | exact mo_r0 hm | exact mo_r1 hm | exact mo_r2 hm | exact mo_r4 hm | exact mo_r6 hm | exact mo_r8 hm | exact mo_a1 hm | exact mo_a2 hm | exact mo_a3 hm | exact mo_a4 hm | exact mo_a5 hm | exact mo_a6 hm) ?_
    rw [h7]
    refine px_iconst (1) dX8_sign_6 rfl ?_
    refine px_isub dX8_sign_7 ?_
    refine cd_X8_29 rfl ⟨⟨Nat.le_of_ble_eq_true rfl, Nat.le_of_ble_eq_true rfl⟩, Nat.le_of_ble_eq_true rfl, Nat.le_of_ble_eq_true rfl, Nat.le_of_ble_eq_true rfl⟩ dX8_sign_8 (s_X8_in) ?_
    refine px_ifb_eq (tgt := 23) dX8_sign_11 (by decide) (fun h11 => (by first | exact absurd h11 (hr) | exact absurd (hr) h11)) (fun h11 => ?_)
    refine px_aload_0 dX8_sign_14 ?_
    refine gf_X8_22 rfl dX8_sign_15 (by first | assumption | exact mo_a hm | exact mo_r0 hm | exact mo_r1 hm | exact mo_r2 hm | exact mo_r4 hm | exact mo_r6 hm | exact mo_r8 hm | exact mo_a1 hm | exact mo_a2 hm | exact mo_a3 hm | exact mo_a4 hm | exact mo_a5 hm | exact mo_a6 hm) (by first | assumption | exact mo_a hm | exact mo_r0 hm | exact mo_r1 hm | exact mo_r2 hm | exact mo_r4 hm | exact mo_r6 hm | exact mo_r8 hm | exact mo_a1 hm | exact mo_a2 hm | exact mo_a3 hm | exact mo_a4 hm | exact mo_a5 hm | exact mo_a6 hm) ?_
    refine px_iload_1 dX8_sign_18 ?_
    refine px_ialdN dX8_sign_19 (by first | assumption | exact mo_a hm | exact mo_r0 hm | exact mo_r1 hm | exact mo_r2 hm | exact mo_r4 hm | exact mo_r6 hm | exact mo_r8 hm | exact mo_a1 hm | exact mo_a2 hm | exact mo_a3 hm | exact mo_a4 hm | exact mo_a5 hm | exact mo_a6 hm) (by exact ix_eq hr) (by omega) ?_
    refine px_goto (tgt := 24) dX8_sign_20 (by decide) ?_
    refine px_iret dX8_sign_24 ?_
    exact ⟨by rw [hc _ hlt], rfl⟩
  · rw [if_neg hr]
    refine px_iload_1 dX8_sign_0 ?_
    refine px_iconst (0) dX8_sign_1 rfl ?_
    refine px_aload_0 dX8_sign_2 ?_
    refine gf_X8_156 rfl dX8_sign_3 (by first | assumption | exact mo_a hm | exact mo_r0 hm | exact mo_r1 hm | exact mo_r2 hm | exact mo_r4 hm | exact mo_r6 hm | exact mo_r8 hm | exact mo_a1 hm | exact mo_a2 hm | exact mo_a3 hm | exact mo_a4 hm | exact mo_a5 hm | exact mo_a6 hm) ?_
    rw [h7]
    refine px_iconst (1) dX8_sign_6 rfl ?_
    refine px_isub dX8_sign_7 ?_
    refine cd_X8_29 rfl ⟨⟨Nat.le_of_ble_eq_true rfl, Nat.le_of_ble_eq_true rfl⟩, Nat.le_of_ble_eq_true rfl, Nat.le_of_ble_eq_true rfl, Nat.le_of_ble_eq_true rfl⟩ dX8_sign_8 (s_X8_in) ?_
    refine px_ifb_eq (tgt := 23) dX8_sign_11 (by decide) (fun h11 => ?_) (fun h11 => (by first | exact absurd (hr) h11 | exact absurd h11 (hr)))
    refine px_iconst (-1) dX8_sign_23 rfl ?_
    refine px_iret dX8_sign_24 ?_
    exact ⟨rfl, rfl⟩
theorem s_X8_wipe (hm : px_mo G T R m) : px_K l G 0 mX8_wipe ([.ref m]) ((T, I, J, R)) (some (.int (I m 7))) ((T, px_up I m 7 0, J, R)) := by
  refine px_met (M := mX8_wipe) ([some (.ref m), none]) (by decide +kernel) rfl (Nat.le_of_ble_eq_true rfl) rfl ?_
  refine px_aload_0 dX8_wipe_0 ?_
  refine gf_X8_156 rfl dX8_wipe_1 (by first | assumption | exact mo_a hm | exact mo_r0 hm | exact mo_r1 hm | exact mo_r2 hm | exact mo_r4 hm | exact mo_r6 hm | exact mo_r8 hm | exact mo_a1 hm | exact mo_a2 hm | exact mo_a3 hm | exact mo_a4 hm | exact mo_a5 hm | exact mo_a6 hm) ?_
  refine px_istore_1 dX8_wipe_4 rfl ?_
  refine px_aload_0 dX8_wipe_5 ?_
  refine px_iconst (0) dX8_wipe_6 rfl ?_
  refine pf_X8_156 rfl dX8_wipe_7 (by first | assumption | exact mo_a hm | exact mo_r0 hm | exact mo_r1 hm | exact mo_r2 hm | exact mo_r4 hm | exact mo_r6 hm | exact mo_r8 hm | exact mo_a1 hm | exact mo_a2 hm | exact mo_a3 hm | exact mo_a4 hm | exact mo_a5 hm | exact mo_a6 hm) ?_
  refine px_iload_1 dX8_wipe_10 ?_
  refine px_iret dX8_wipe_11 ?_
  exact ⟨rfl, rfl⟩
end MQ3

