section MQ4
variable {l : Launch} {G : px_G} {T : px_T} {I : px_I} {J : px_J} {R : px_R} {μ : px_M} {m : Nat} {A : px_a} {σ : px_s}
theorem df_nI (σ : px_s) (n : Nat) : ∃ k, k ≤ n ∧ f_df σ n = nI k := by
  induction n with
  | zero => exact ⟨0, Nat.le_refl _, rfl⟩
  | succ n ih =>
    obtain ⟨k, hk, e⟩ := ih
    rw [f_df, e]
    split
    · exact ⟨k, by omega, by rw [show (0 : Int32) = nI 0 from rfl, nI_add, Nat.add_zero]⟩
    · exact ⟨k + 1, by omega, nI_1 k⟩
theorem df_nn (σ : px_s) : ¬ f_df σ 8 < 0 := by
  obtain ⟨k, hk, e⟩ := df_nI σ 8
  rw [e]; exact nI_pos (by omega)
def f_mkh (σ : px_s) : Int32 × px_s := (f_df σ 8, f_pr σ (f_hp σ))
theorem V_mkh (h : px_VV σ) : px_VV (f_mkh σ).2 := V_pr h (fun t ht => hp_rg h.1 ht)
theorem s_X8_makeHonest (hm : px_mo G T R m) (h : px_MI I m A) (hV : px_AV A) : px_C l G 6 0 0 mX8_makeHonest [.ref m] (T, I, J, R) (px_Qm T I J R m (.int (f_mkh A.1).1) (a_chg A (f_mkh A.1))) := by
  have e1 : px_cpf I (m + 2) 0 151 A.1 (m + 1) = A.1 := by rw [px_cpf_ne (by omega)]; exact h.1
  have hp := s_X8_putAside (l := l) (I := I) (J := J) hm
  rw [h.1] at hp
  have ha := s_X8_makes (l := l) (I := px_cpf I (m + 2) 0 151 A.1) (J := J) hm (by rw [e1]; exact hV.1)
  rw [e1, ← show (f_mkh A.1).1 = f_df A.1 8 from rfl, ← show (f_mkh A.1).2 = f_pr A.1 (f_hp A.1) from rfl] at ha
  have hnn : ¬ (f_mkh A.1).1 < 0 := df_nn A.1
  generalize f_mkh A.1 = q at *
  refine px_met (M := mX8_makeHonest) ([some (.ref m)]) (by decide +kernel) rfl (Nat.le_of_ble_eq_true rfl) rfl ?_
  refine px_aload_0 dX8_makeHonest_0 ?_
  refine cd_X8_90 rfl ⟨⟨Nat.le_of_ble_eq_true rfl, Nat.le_of_ble_eq_true rfl⟩, Nat.le_of_ble_eq_true rfl, Nat.le_of_ble_eq_true rfl, Nat.le_of_ble_eq_true rfl⟩ (by first | assumption | exact mo_a hm | exact mo_r0 hm | exact mo_r1 hm | exact mo_r2 hm | exact mo_r4 hm | exact mo_r6 hm | exact mo_r8 hm | exact mo_a1 hm | exact mo_a2 hm | exact mo_a3 hm | exact mo_a4 hm | exact mo_a5 hm | exact mo_a6 hm) dX8_makeHonest_1 (hp) ?_
  refine px_aload_0 dX8_makeHonest_4 ?_
  refine px_aload_0 dX8_makeHonest_5 ?_
  refine cd_X8_124 rfl ⟨⟨Nat.le_of_ble_eq_true rfl, Nat.le_of_ble_eq_true rfl⟩, Nat.le_of_ble_eq_true rfl, Nat.le_of_ble_eq_true rfl, Nat.le_of_ble_eq_true rfl⟩ (by first | assumption | exact mo_a hm | exact mo_r0 hm | exact mo_r1 hm | exact mo_r2 hm | exact mo_r4 hm | exact mo_r6 hm | exact mo_r8 hm | exact mo_a1 hm | exact mo_a2 hm | exact mo_a3 hm | exact mo_a4 hm | exact mo_a5 hm | exact mo_a6 hm) dX8_makeHonest_6 (ha) ?_
  refine cg_X8_105 rfl ⟨⟨Nat.le_of_ble_eq_true rfl, Nat.le_of_ble_eq_true rfl⟩, Nat.le_of_ble_eq_true rfl, Nat.le_of_ble_eq_true rfl, Nat.le_of_ble_eq_true rfl⟩ (by first | assumption | exact mo_a hm | exact mo_r0 hm | exact mo_r1 hm | exact mo_r2 hm | exact mo_r4 hm | exact mo_r6 hm | exact mo_r8 hm | exact mo_a1 hm | exact mo_a2 hm | exact mo_a3 hm | exact mo_a4 hm | exact mo_a5 hm | exact mo_a6 hm) dX8_makeHonest_9 (s_X8_changed hm (hi_set h)) ?_
  rintro u μ' ⟨rfl, hu⟩
  refine px_iret dX8_makeHonest_12 ?_
  exact chg_end h (fun z => absurd z hnn) ⟨rfl, hu⟩
theorem s_X8_ifHonest (hm : px_mo G T R m) (h : px_MI I m A) (hV : px_AV A) : px_C l G 6 0 0 mX8_ifHonest [.ref m] (T, I, J, R) (px_Qm T I J R m (.int (f_df A.1 8)) A) := by
  have e1 : px_cpf I (m + 2) 0 151 A.1 (m + 1) = A.1 := by rw [px_cpf_ne (by omega)]; exact h.1
  have hp := s_X8_putAside (l := l) (I := I) (J := J) hm
  rw [h.1] at hp
  have ha := s_X8_makes (l := l) (I := px_cpf I (m + 2) 0 151 A.1) (J := J) hm (by rw [e1]; exact hV.1)
  rw [e1] at ha
  refine px_met (M := mX8_ifHonest) ([some (.ref m), none]) (by decide +kernel) rfl (Nat.le_of_ble_eq_true rfl) rfl ?_
  refine px_aload_0 dX8_ifHonest_0 ?_
  refine cd_X8_90 rfl ⟨⟨Nat.le_of_ble_eq_true rfl, Nat.le_of_ble_eq_true rfl⟩, Nat.le_of_ble_eq_true rfl, Nat.le_of_ble_eq_true rfl, Nat.le_of_ble_eq_true rfl⟩ (by first | assumption | exact mo_a hm | exact mo_r0 hm | exact mo_r1 hm | exact mo_r2 hm | exact mo_r4 hm | exact mo_r6 hm | exact mo_r8 hm | exact mo_a1 hm | exact mo_a2 hm | exact mo_a3 hm | exact mo_a4 hm | exact mo_a5 hm | exact mo_a6 hm) dX8_ifHonest_1 (hp) ?_
  refine px_aload_0 dX8_ifHonest_4 ?_
  refine cd_X8_124 rfl ⟨⟨Nat.le_of_ble_eq_true rfl, Nat.le_of_ble_eq_true rfl⟩, Nat.le_of_ble_eq_true rfl, Nat.le_of_ble_eq_true rfl, Nat.le_of_ble_eq_true rfl⟩ (by first | assumption | exact mo_a hm | exact mo_r0 hm | exact mo_r1 hm | exact mo_r2 hm | exact mo_r4 hm | exact mo_r6 hm | exact mo_r8 hm | exact mo_a1 hm | exact mo_a2 hm | exact mo_a3 hm | exact mo_a4 hm | exact mo_a5 hm | exact mo_a6 hm) dX8_ifHonest_5 (ha) ?_
  refine px_istore_1 dX8_ifHonest_8 rfl ?_
  refine px_aload_0 dX8_ifHonest_9 ?_
  refine cd_X8_179 rfl ⟨⟨Nat.le_of_ble_eq_true rfl, Nat.le_of_ble_eq_true rfl⟩, Nat.le_of_ble_eq_true rfl, Nat.le_of_ble_eq_true rfl, Nat.le_of_ble_eq_true rfl⟩ (by first | assumption | exact mo_a hm | exact mo_r0 hm | exact mo_r1 hm | exact mo_r2 hm | exact mo_r4 hm | exact mo_r6 hm | exact mo_r8 hm | exact mo_a1 hm | exact mo_a2 hm | exact mo_a3 hm | exact mo_a4 hm | exact mo_a5 hm | exact mo_a6 hm) dX8_ifHonest_10 (s_X8_putBack hm) ?_
  refine px_iload_1 dX8_ifHonest_13 ?_
  refine px_iret dX8_ifHonest_14 ?_
  skip
  refine ⟨rfl, _, J, rfl, ?_, fun a ha => ?_, fun a ha => rfl⟩
  · have h2 := MI_aside (f := A.1) h
    have e : px_cpf (px_set (px_cpf I (m + 2) 0 151 A.1) (m + 1) (f_pr A.1 (f_hp A.1))) (m + 1) 0 151 ((px_set (px_cpf I (m + 2) 0 151 A.1) (m + 1) (f_pr A.1 (f_hp A.1))) (m + 2)) = px_cpf I (m + 2) 0 151 A.1 := by
      funext c k
      by_cases z : c = m + 1
      · subst z
        by_cases y : k < 151
        · rw [px_cpf_in (by omega), px_set_ne (by omega), px_cpf_in (by omega), e1]; rfl
        · rw [px_cpf_out (by omega), px_set_self, e1, pr_hi (by omega)]
      · rw [px_cpf_ne z, px_set_ne z]
    rw [e]
    exact h2
  · rw [px_cpf_ne (by omega), px_set_ne (by omega), px_cpf_ne (by omega)]
/-! the pad -/
def p_app (p : Nat × (Nat → Int32)) (v : Int32) : Nat × (Nat → Int32) := (p.1 + 1, upd p.2 p.1 v)
/-- only the pad of the reference is another -/
def px_pd (I : px_I) (m : Nat) (p : Nat × (Nat → Int32)) (I' : px_I) : Prop := I' m 7 = nI p.1 ∧ (∀ i, i < p.1 → I' (m + 5) i = p.2 i) ∧ (∀ a, a ≠ m → a ≠ m + 5 → I' a = I a) ∧ ∀ j, j ≠ 7 → I' m j = I m j
theorem pd_app {p : Nat × (Nat → Int32)} {I' : px_I} {v : Int32} (h : px_pd I m p I') : px_pd I m (p_app p v) (px_up (px_up I' (m + 5) p.1 v) m 7 (nI (p.1 + 1))) := by
  obtain ⟨h1, h2, h3, h4⟩ := h
  refine ⟨px_up_self _ _ _ _, fun i hi => ?_, fun a e1 e2 => ?_, fun j hj => ?_⟩
  · rw [px_up_ne (by omega), px_up_at]
    unfold p_app at hi ⊢
    dsimp only at hi ⊢
    by_cases z : i = p.1
    · rw [if_pos ⟨rfl, z⟩, upd_eq z]
    · rw [if_neg (by omega), upd_ne z]; exact h2 i (by omega)
  · rw [px_up_ne e1, px_up_ne e2]; exact h3 a e1 e2
  · rw [px_up_nj hj, px_up_ne (by omega)]; exact h4 j hj
theorem pd_MI {p : Nat × (Nat → Int32)} {I' : px_I} (h : px_MI I m A) (hp : px_pd I m p I') (h80 : p.1 ≤ 80) : px_MI I' m (A.1, A.2.1, A.2.2.1, p) := by
  obtain ⟨h1, ⟨h2, h3, h4⟩, h5, h6, h7, h8, h9⟩ := h
  obtain ⟨p1, p2, p3, p4⟩ := hp
  exact ⟨by rw [p3 _ (by omega) (by omega)]; exact h1, ⟨by rw [p4 _ (by decide)]; exact h2, h3, fun i hi k hk => by rw [p3 _ (by omega) (by omega)]; exact h4 i hi k hk⟩, by rw [p4 _ (by decide)]; exact h5, fun s hs hv k hk => by rw [p3 _ (by omega) (by omega)]; exact h6 s hs hv k hk, p1, h80, p2⟩
theorem s_X8_pads {v : Int32} {n : Nat} (hm : px_mo G T R m) (h7 : I m 7 = nI n) (hn : n < 80) : px_K l G 0 mX8_pads ([.ref m, .int v]) ((T, I, J, R)) (none) ((T, px_up (px_up I (m + 5) n v) m 7 (nI (n + 1)), J, R)) := by
  refine px_met (M := mX8_pads) ([some (.ref m), some (.int v)]) (by decide +kernel) rfl (Nat.le_of_ble_eq_true rfl) rfl ?_
  refine px_aload_0 dX8_pads_0 ?_
  refine gf_X8_22 rfl dX8_pads_1 (by first | assumption | exact mo_a hm | exact mo_r0 hm | exact mo_r1 hm | exact mo_r2 hm | exact mo_r4 hm | exact mo_r6 hm | exact mo_r8 hm | exact mo_a1 hm | exact mo_a2 hm | exact mo_a3 hm | exact mo_a4 hm | exact mo_a5 hm | exact mo_a6 hm) (by first | assumption | exact mo_a hm | exact mo_r0 hm | exact mo_r1 hm | exact mo_r2 hm | exact mo_r4 hm | exact mo_r6 hm | exact mo_r8 hm | exact mo_a1 hm | exact mo_a2 hm | exact mo_a3 hm | exact mo_a4 hm | exact mo_a5 hm | exact mo_a6 hm) ?_
  refine px_aload_0 dX8_pads_4 ?_
  refine gf_X8_156 rfl dX8_pads_5 (by first | assumption | exact mo_a hm | exact mo_r0 hm | exact mo_r1 hm | exact mo_r2 hm | exact mo_r4 hm | exact mo_r6 hm | exact mo_r8 hm | exact mo_a1 hm | exact mo_a2 hm | exact mo_a3 hm | exact mo_a4 hm | exact mo_a5 hm | exact mo_a6 hm) ?_
  refine px_iload_1 dX8_pads_8 ?_
  refine px_iastN dX8_pads_9 (by first | assumption | exact mo_a hm | exact mo_r0 hm | exact mo_r1 hm | exact mo_r2 hm | exact mo_r4 hm | exact mo_r6 hm | exact mo_r8 hm | exact mo_a1 hm | exact mo_a2 hm | exact mo_a3 hm | exact mo_a4 hm | exact mo_a5 hm | exact mo_a6 hm) (by exact h7) (by omega) ?_
  refine px_aload_0 dX8_pads_10 ?_
  refine px_dup dX8_pads_11 rfl ?_
  refine gf_X8_156 rfl dX8_pads_12 (by first | assumption | exact mo_a hm | exact mo_r0 hm | exact mo_r1 hm | exact mo_r2 hm | exact mo_r4 hm | exact mo_r6 hm | exact mo_r8 hm | exact mo_a1 hm | exact mo_a2 hm | exact mo_a3 hm | exact mo_a4 hm | exact mo_a5 hm | exact mo_a6 hm) ?_
  rw [px_up_ne (by omega), h7]
  refine px_iconst (1) dX8_pads_15 rfl ?_
  refine px_iadd dX8_pads_16 ?_
  rw [nI_1]
  refine pf_X8_156 rfl dX8_pads_17 (by first | assumption | exact mo_a hm | exact mo_r0 hm | exact mo_r1 hm | exact mo_r2 hm | exact mo_r4 hm | exact mo_r6 hm | exact mo_r8 hm | exact mo_a1 hm | exact mo_a2 hm | exact mo_a3 hm | exact mo_a4 hm | exact mo_a5 hm | exact mo_a6 hm) ?_
  refine px_vret dX8_pads_20 ?_
  exact ⟨rfl, rfl⟩
def p_rem (z : Int32) : Int32 := z - z / 10 * 10
def p_num (p : Nat × (Nat → Int32)) (x : Int32) : Nat × (Nat → Int32) :=
  let p1 := if 100 ≤ x then p_app p (48 + p_rem (x / 100)) else p
  let p2 := if 10 ≤ x then p_app p1 (48 + p_rem (x / 10)) else p1
  if 1 ≤ x then p_app p2 (48 + p_rem (x / 1)) else p2
def p_wr (σ : px_s) (c : Nat → Int32) : Nat → Nat × (Nat → Int32)
  | 0 => (0, c)
  | t + 1 => p_num (if 0 < t then p_app (p_wr σ c t) 47 else p_wr σ c t) (σ t)
theorem p_num_le (p : Nat × (Nat → Int32)) (x : Int32) : (p_num p x).1 ≤ p.1 + 3 := by
  unfold p_num p_app
  dsimp only
  split <;> split <;> split <;> (try dsimp only) <;> omega
theorem p_wr_le (σ : px_s) (c : Nat → Int32) (t : Nat) : (p_wr σ c t).1 ≤ 4 * t := by
  induction t with
  | zero => exact Nat.le_refl _
  | succ t ih =>
    rw [p_wr]
    have := p_num_le (if 0 < t then p_app (p_wr σ c t) 47 else p_wr σ c t) (σ t)
    have h2 : (if 0 < t then p_app (p_wr σ c t) 47 else p_wr σ c t).1 ≤ (p_wr σ c t).1 + 1 := by
      split
      · exact Nat.le_refl _
      · omega
    omega
theorem s_X8_write (hm : px_mo G T R m) (h : px_MI I m A) : px_C l G 1 0 0 mX8_write [.ref m] (T, I, J, R) (px_Qm T I J R m (.int (nI (p_wr A.1 A.2.2.2.2 8).1)) (A.1, A.2.1, A.2.2.1, p_wr A.1 A.2.2.2.2 8)) := by
  refine px_met (M := mX8_write) ([some (.ref m), none, none, none]) (by decide +kernel) rfl (Nat.le_of_ble_eq_true rfl) rfl ?_
  generalize hQ : px_Qm T I J R m (.int (nI (p_wr A.1 A.2.2.2.2 8).1)) (A.1, A.2.1, A.2.2.1, p_wr A.1 A.2.2.2.2 8) = Q
  have hs : ∀ (p : Nat × (Nat → Int32)) (I' : px_I), px_pd I m p I' → I' (m + 1) = A.1 := fun p I' hp => (hp.2.2.1 _ (by omega) (by omega)).trans h.1
  -- a number
  have LN : ∀ (t : Nat) (p : Nat × (Nat → Int32)) (I' : px_I), t < 8 → px_pd I m p I' → p.1 ≤ 70 → (∀ (I2 : px_I), px_pd I m (p_num p (A.1 t)) I2 → ∀ o2 o3, (px_W l G yX8_write cX8_write 4 (some .int) (px_rm 1 0 0) (px_Fn G Q 0 0) 7 [some (.ref m), some (.int (nI (t + 1))), some (.int o2), some (.int o3)] [] 0 0 (T, I2, J, R))) → ∀ o3, (px_W l G yX8_write cX8_write 4 (some .int) (px_rm 1 0 0) (px_Fn G Q 0 0) 32 [some (.ref m), some (.int (nI t)), some (.int (A.1 t)), o3] [] 0 0 (T, I', J, R)) := by
    intro t p I' ht hp h70 K o3
    -- one
    have S1 : ∀ (p : Nat × (Nat → Int32)) (I' : px_I), px_pd I m p I' → p.1 ≤ 79 → (∀ (I2 : px_I), px_pd I m (if 1 ≤ A.1 t then p_app p (48 + p_rem (A.1 t / 1)) else p) I2 → ∀ o2 o3, (px_W l G yX8_write cX8_write 4 (some .int) (px_rm 1 0 0) (px_Fn G Q 0 0) 7 [some (.ref m), some (.int (nI (t + 1))), some (.int o2), some (.int o3)] [] 0 0 (T, I2, J, R))) → (px_W l G yX8_write cX8_write 4 (some .int) (px_rm 1 0 0) (px_Fn G Q 0 0) 35 [some (.ref m), some (.int (nI t)), some (.int (A.1 t)), some (.int 1)] [] 0 0 (T, I', J, R)) := by
      intro p I' hp hl K
      by_cases hx : 1 ≤ A.1 t
      · rw [if_pos hx] at K
        refine px_iload_3 dX8_write_35 ?_
        refine px_if_le (tgt := 65) dX8_write_36 (by decide) (fun h36 => (by first | exact absurd h36 ((by decide)) | exact absurd ((by decide)) h36)) (fun h36 => ?_)
        refine px_iload_2 dX8_write_39 ?_
        refine px_iload_3 dX8_write_40 ?_
        refine px_icmp_lt (tgt := 57) dX8_write_41 (by decide) (fun h41 => (by first | exact absurd h41 ((Int32.not_lt.mpr hx)) | exact absurd ((Int32.not_lt.mpr hx)) h41)) (fun h41 => ?_)
        refine px_aload_0 dX8_write_44 ?_
        refine px_bipush (48) dX8_write_45 rfl ?_
        refine px_iload_2 dX8_write_47 ?_
        refine px_iload_3 dX8_write_48 ?_
        refine px_idiv dX8_write_49 (by decide) ?_
        refine px_bipush (10) dX8_write_50 rfl ?_
        refine px_irem dX8_write_52 (by decide) ?_
        refine px_iadd dX8_write_53 ?_
        refine cd_X8_159 rfl ⟨⟨Nat.le_of_ble_eq_true rfl, Nat.le_of_ble_eq_true rfl⟩, Nat.le_of_ble_eq_true rfl, Nat.le_of_ble_eq_true rfl, Nat.le_of_ble_eq_true rfl⟩ (by first | assumption | exact mo_a hm | exact mo_r0 hm | exact mo_r1 hm | exact mo_r2 hm | exact mo_r4 hm | exact mo_r6 hm | exact mo_r8 hm | exact mo_a1 hm | exact mo_a2 hm | exact mo_a3 hm | exact mo_a4 hm | exact mo_a5 hm | exact mo_a6 hm) dX8_write_54 (s_X8_pads hm hp.1 (by omega)) ?_
        refine px_iload_3 dX8_write_57 ?_
        refine px_bipush (10) dX8_write_58 rfl ?_
        refine px_idiv dX8_write_60 (by decide) ?_
        refine px_istore_3 dX8_write_61 rfl ?_
        refine px_goto (tgt := 35) dX8_write_62 (by decide) ?_
        skip
        refine px_iload_3 dX8_write_35 ?_
        refine px_if_le (tgt := 65) dX8_write_36 (by decide) (fun h36 => ?_) (fun h36 => (by first | exact absurd ((by decide)) h36 | exact absurd h36 ((by decide))))
        refine px_iinc_1 dX8_write_65 rfl ?_
        refine px_goto (tgt := 7) dX8_write_68 (by decide) ?_
        rw [inc_nI]; exact K _ (pd_app hp) _ _
      · rw [if_neg hx] at K
        refine px_iload_3 dX8_write_35 ?_
        refine px_if_le (tgt := 65) dX8_write_36 (by decide) (fun h36 => (by first | exact absurd h36 ((by decide)) | exact absurd ((by decide)) h36)) (fun h36 => ?_)
        refine px_iload_2 dX8_write_39 ?_
        refine px_iload_3 dX8_write_40 ?_
        refine px_icmp_lt (tgt := 57) dX8_write_41 (by decide) (fun h41 => ?_) (fun h41 => (by first | exact absurd ((Int32.not_le.mp hx)) h41 | exact absurd h41 ((Int32.not_le.mp hx))))
        refine px_iload_3 dX8_write_57 ?_
        refine px_bipush (10) dX8_write_58 rfl ?_
        refine px_idiv dX8_write_60 (by decide) ?_
        refine px_istore_3 dX8_write_61 rfl ?_
        refine px_goto (tgt := 35) dX8_write_62 (by decide) ?_
        skip
        refine px_iload_3 dX8_write_35 ?_
        refine px_if_le (tgt := 65) dX8_write_36 (by decide) (fun h36 => ?_) (fun h36 => (by first | exact absurd ((by decide)) h36 | exact absurd h36 ((by decide))))
        refine px_iinc_1 dX8_write_65 rfl ?_
        refine px_goto (tgt := 7) dX8_write_68 (by decide) ?_
        rw [inc_nI]; exact K _ hp _ _
    have S10 : ∀ (p : Nat × (Nat → Int32)) (I' : px_I), px_pd I m p I' → p.1 ≤ 78 → (∀ (p2 : Nat × (Nat → Int32)) (I2 : px_I), p2 = (if 10 ≤ A.1 t then p_app p (48 + p_rem (A.1 t / 10)) else p) → px_pd I m p2 I2 → (px_W l G yX8_write cX8_write 4 (some .int) (px_rm 1 0 0) (px_Fn G Q 0 0) 35 [some (.ref m), some (.int (nI t)), some (.int (A.1 t)), some (.int 1)] [] 0 0 (T, I2, J, R))) → (px_W l G yX8_write cX8_write 4 (some .int) (px_rm 1 0 0) (px_Fn G Q 0 0) 35 [some (.ref m), some (.int (nI t)), some (.int (A.1 t)), some (.int 10)] [] 0 0 (T, I', J, R)) := by
      intro p I' hp hl K
      by_cases hx : 10 ≤ A.1 t
      · rw [if_pos hx] at K
        refine px_iload_3 dX8_write_35 ?_
        refine px_if_le (tgt := 65) dX8_write_36 (by decide) (fun h36 => (by first | exact absurd h36 ((by decide)) | exact absurd ((by decide)) h36)) (fun h36 => ?_)
        refine px_iload_2 dX8_write_39 ?_
        refine px_iload_3 dX8_write_40 ?_
        refine px_icmp_lt (tgt := 57) dX8_write_41 (by decide) (fun h41 => (by first | exact absurd h41 ((Int32.not_lt.mpr hx)) | exact absurd ((Int32.not_lt.mpr hx)) h41)) (fun h41 => ?_)
        refine px_aload_0 dX8_write_44 ?_
        refine px_bipush (48) dX8_write_45 rfl ?_
        refine px_iload_2 dX8_write_47 ?_
        refine px_iload_3 dX8_write_48 ?_
        refine px_idiv dX8_write_49 (by decide) ?_
        refine px_bipush (10) dX8_write_50 rfl ?_
        refine px_irem dX8_write_52 (by decide) ?_
        refine px_iadd dX8_write_53 ?_
        refine cd_X8_159 rfl ⟨⟨Nat.le_of_ble_eq_true rfl, Nat.le_of_ble_eq_true rfl⟩, Nat.le_of_ble_eq_true rfl, Nat.le_of_ble_eq_true rfl, Nat.le_of_ble_eq_true rfl⟩ (by first | assumption | exact mo_a hm | exact mo_r0 hm | exact mo_r1 hm | exact mo_r2 hm | exact mo_r4 hm | exact mo_r6 hm | exact mo_r8 hm | exact mo_a1 hm | exact mo_a2 hm | exact mo_a3 hm | exact mo_a4 hm | exact mo_a5 hm | exact mo_a6 hm) dX8_write_54 (s_X8_pads hm hp.1 (by omega)) ?_
        refine px_iload_3 dX8_write_57 ?_
        refine px_bipush (10) dX8_write_58 rfl ?_
        refine px_idiv dX8_write_60 (by decide) ?_
        refine px_istore_3 dX8_write_61 rfl ?_
        refine px_goto (tgt := 35) dX8_write_62 (by decide) ?_
        exact K _ _ rfl (pd_app hp)
      · rw [if_neg hx] at K
        refine px_iload_3 dX8_write_35 ?_
        refine px_if_le (tgt := 65) dX8_write_36 (by decide) (fun h36 => (by first | exact absurd h36 ((by decide)) | exact absurd ((by decide)) h36)) (fun h36 => ?_)
        refine px_iload_2 dX8_write_39 ?_
        refine px_iload_3 dX8_write_40 ?_
        refine px_icmp_lt (tgt := 57) dX8_write_41 (by decide) (fun h41 => ?_) (fun h41 => (by first | exact absurd ((Int32.not_le.mp hx)) h41 | exact absurd h41 ((Int32.not_le.mp hx))))
        refine px_iload_3 dX8_write_57 ?_
        refine px_bipush (10) dX8_write_58 rfl ?_
        refine px_idiv dX8_write_60 (by decide) ?_
        refine px_istore_3 dX8_write_61 rfl ?_
        refine px_goto (tgt := 35) dX8_write_62 (by decide) ?_
        exact K _ _ rfl hp
    have S100 : ∀ (p : Nat × (Nat → Int32)) (I' : px_I), px_pd I m p I' → p.1 ≤ 78 → (∀ (p2 : Nat × (Nat → Int32)) (I2 : px_I), p2 = (if 100 ≤ A.1 t then p_app p (48 + p_rem (A.1 t / 100)) else p) → px_pd I m p2 I2 → (px_W l G yX8_write cX8_write 4 (some .int) (px_rm 1 0 0) (px_Fn G Q 0 0) 35 [some (.ref m), some (.int (nI t)), some (.int (A.1 t)), some (.int 10)] [] 0 0 (T, I2, J, R))) → (px_W l G yX8_write cX8_write 4 (some .int) (px_rm 1 0 0) (px_Fn G Q 0 0) 35 [some (.ref m), some (.int (nI t)), some (.int (A.1 t)), some (.int 100)] [] 0 0 (T, I', J, R)) := by
      intro p I' hp hl K
      by_cases hx : 100 ≤ A.1 t
      · rw [if_pos hx] at K
        refine px_iload_3 dX8_write_35 ?_
        refine px_if_le (tgt := 65) dX8_write_36 (by decide) (fun h36 => (by first | exact absurd h36 ((by decide)) | exact absurd ((by decide)) h36)) (fun h36 => ?_)
        refine px_iload_2 dX8_write_39 ?_
        refine px_iload_3 dX8_write_40 ?_
        refine px_icmp_lt (tgt := 57) dX8_write_41 (by decide) (fun h41 => (by first | exact absurd h41 ((Int32.not_lt.mpr hx)) | exact absurd ((Int32.not_lt.mpr hx)) h41)) (fun h41 => ?_)
        refine px_aload_0 dX8_write_44 ?_
        refine px_bipush (48) dX8_write_45 rfl ?_
        refine px_iload_2 dX8_write_47 ?_
        refine px_iload_3 dX8_write_48 ?_
        refine px_idiv dX8_write_49 (by decide) ?_
        refine px_bipush (10) dX8_write_50 rfl ?_
        refine px_irem dX8_write_52 (by decide) ?_
        refine px_iadd dX8_write_53 ?_
        refine cd_X8_159 rfl ⟨⟨Nat.le_of_ble_eq_true rfl, Nat.le_of_ble_eq_true rfl⟩, Nat.le_of_ble_eq_true rfl, Nat.le_of_ble_eq_true rfl, Nat.le_of_ble_eq_true rfl⟩ (by first | assumption | exact mo_a hm | exact mo_r0 hm | exact mo_r1 hm | exact mo_r2 hm | exact mo_r4 hm | exact mo_r6 hm | exact mo_r8 hm | exact mo_a1 hm | exact mo_a2 hm | exact mo_a3 hm | exact mo_a4 hm | exact mo_a5 hm | exact mo_a6 hm) dX8_write_54 (s_X8_pads hm hp.1 (by omega)) ?_
        refine px_iload_3 dX8_write_57 ?_
        refine px_bipush (10) dX8_write_58 rfl ?_
        refine px_idiv dX8_write_60 (by decide) ?_
        refine px_istore_3 dX8_write_61 rfl ?_
        refine px_goto (tgt := 35) dX8_write_62 (by decide) ?_
        exact K _ _ rfl (pd_app hp)
      · rw [if_neg hx] at K
        refine px_iload_3 dX8_write_35 ?_
        refine px_if_le (tgt := 65) dX8_write_36 (by decide) (fun h36 => (by first | exact absurd h36 ((by decide)) | exact absurd ((by decide)) h36)) (fun h36 => ?_)
        refine px_iload_2 dX8_write_39 ?_
        refine px_iload_3 dX8_write_40 ?_
        refine px_icmp_lt (tgt := 57) dX8_write_41 (by decide) (fun h41 => ?_) (fun h41 => (by first | exact absurd ((Int32.not_le.mp hx)) h41 | exact absurd h41 ((Int32.not_le.mp hx))))
        refine px_iload_3 dX8_write_57 ?_
        refine px_bipush (10) dX8_write_58 rfl ?_
        refine px_idiv dX8_write_60 (by decide) ?_
        refine px_istore_3 dX8_write_61 rfl ?_
        refine px_goto (tgt := 35) dX8_write_62 (by decide) ?_
        exact K _ _ rfl hp
    have hle : ∀ (b : Prop) [Decidable b] (p : Nat × (Nat → Int32)) (v : Int32), (if b then p_app p v else p).1 ≤ p.1 + 1 := by
      intro b _ p v
      split
      · exact Nat.le_refl _
      · omega
    refine px_bipush (100) dX8_write_32 rfl ?_
    refine px_istore_3 dX8_write_34 rfl ?_
    skip
    refine S100 p I' hp (by omega) (fun p2 I2 e2 hp2 => ?_)
    have l2 := hle (100 ≤ A.1 t) p (48 + p_rem (A.1 t / 100))
    rw [← e2] at l2
    refine S10 p2 I2 hp2 (by omega) (fun p3 I3 e3 hp3 => ?_)
    have l3 := hle (10 ≤ A.1 t) p2 (48 + p_rem (A.1 t / 10))
    rw [← e3] at l3
    refine S1 p3 I3 hp3 (by omega) (fun I4 hp4 => K I4 ?_)
    rw [e3, e2] at hp4
    exact hp4
  have L : ∀ n t, t + n = 8 → ∀ (I' : px_I), px_pd I m (p_wr A.1 A.2.2.2.2 t) I' → ∀ o2 o3, (px_W l G yX8_write cX8_write 4 (some .int) (px_rm 1 0 0) (px_Fn G Q 0 0) 7 [some (.ref m), some (.int (nI t)), o2, o3] [] 0 0 (T, I', J, R)) := by
    intro n
    induction n with
    | zero =>
      intro t ht I' hp o2 o3
      obtain rfl : t = 8 := by omega
      have hl := p_wr_le A.1 A.2.2.2.2 8
      refine px_iload_1 dX8_write_7 ?_
      refine px_bipush (8) dX8_write_8 rfl ?_
      refine px_icmp_ge (tgt := 71) dX8_write_10 (by decide) (fun h10 => ?_) (fun h10 => (by first | exact absurd ((nI_le (a := 8) (b := 8) (by omega) (by omega))) h10 | exact absurd h10 ((nI_le (a := 8) (b := 8) (by omega) (by omega)))))
      refine px_aload_0 dX8_write_71 ?_
      refine gf_X8_156 rfl dX8_write_72 (by first | assumption | exact mo_a hm | exact mo_r0 hm | exact mo_r1 hm | exact mo_r2 hm | exact mo_r4 hm | exact mo_r6 hm | exact mo_r8 hm | exact mo_a1 hm | exact mo_a2 hm | exact mo_a3 hm | exact mo_a4 hm | exact mo_a5 hm | exact mo_a6 hm) ?_
      rw [hp.1]
      refine px_iret dX8_write_75 ?_
      subst hQ; exact ⟨rfl, I', J, rfl, pd_MI h hp (by omega), fun a ha => hp.2.2.1 a (by omega) (by omega), fun a ha => rfl⟩
    | succ n ih =>
      intro t ht I' hp o2 o3
      have hl := p_wr_le A.1 A.2.2.2.2 t
      by_cases h0 : 0 < t
      · have ee : p_wr A.1 A.2.2.2.2 (t + 1) = p_num (p_app (p_wr A.1 A.2.2.2.2 t) 47) (A.1 t) := by rw [p_wr, if_pos h0]
        have ih2 := ih (t + 1) (by omega)
        rw [ee] at ih2
        refine px_iload_1 dX8_write_7 ?_
        refine px_bipush (8) dX8_write_8 rfl ?_
        refine px_icmp_ge (tgt := 71) dX8_write_10 (by decide) (fun h10 => (by first | exact absurd h10 ((nI_ge (a := t) (b := 8) (by omega) (by omega))) | exact absurd ((nI_ge (a := t) (b := 8) (by omega) (by omega))) h10)) (fun h10 => ?_)
        refine px_iload_1 dX8_write_13 ?_
        refine px_if_le (tgt := 23) dX8_write_14 (by decide) (fun h14 => (by first | exact absurd h14 ((nI_nle h0 (by omega))) | exact absurd ((nI_nle h0 (by omega))) h14)) (fun h14 => ?_)
        refine px_aload_0 dX8_write_17 ?_
        refine px_bipush (47) dX8_write_18 rfl ?_
        refine cd_X8_159 rfl ⟨⟨Nat.le_of_ble_eq_true rfl, Nat.le_of_ble_eq_true rfl⟩, Nat.le_of_ble_eq_true rfl, Nat.le_of_ble_eq_true rfl, Nat.le_of_ble_eq_true rfl⟩ (by first | assumption | exact mo_a hm | exact mo_r0 hm | exact mo_r1 hm | exact mo_r2 hm | exact mo_r4 hm | exact mo_r6 hm | exact mo_r8 hm | exact mo_a1 hm | exact mo_a2 hm | exact mo_a3 hm | exact mo_a4 hm | exact mo_a5 hm | exact mo_a6 hm) dX8_write_20 (s_X8_pads hm hp.1 (by omega)) ?_
        refine px_aload_0 dX8_write_23 ?_
        refine gf_X8_7 rfl dX8_write_24 (by first | assumption | exact mo_a hm | exact mo_r0 hm | exact mo_r1 hm | exact mo_r2 hm | exact mo_r4 hm | exact mo_r6 hm | exact mo_r8 hm | exact mo_a1 hm | exact mo_a2 hm | exact mo_a3 hm | exact mo_a4 hm | exact mo_a5 hm | exact mo_a6 hm) (by first | assumption | exact mo_a hm | exact mo_r0 hm | exact mo_r1 hm | exact mo_r2 hm | exact mo_r4 hm | exact mo_r6 hm | exact mo_r8 hm | exact mo_a1 hm | exact mo_a2 hm | exact mo_a3 hm | exact mo_a4 hm | exact mo_a5 hm | exact mo_a6 hm) ?_
        refine px_iconst (0) dX8_write_27 rfl ?_
        refine px_iload_1 dX8_write_28 ?_
        refine px_iadd dX8_write_29 ?_
        rw [z_add]
        refine px_ialdN dX8_write_30 (by first | assumption | exact mo_a hm | exact mo_r0 hm | exact mo_r1 hm | exact mo_r2 hm | exact mo_r4 hm | exact mo_r6 hm | exact mo_r8 hm | exact mo_a1 hm | exact mo_a2 hm | exact mo_a3 hm | exact mo_a4 hm | exact mo_a5 hm | exact mo_a6 hm) (by first | rfl | exact ix_eq (by assumption)) (by first | decide | omega) ?_
        rw [hs _ _ (pd_app hp)]
        refine px_istore_2 dX8_write_31 rfl ?_
        exact LN t _ _ (by omega) (pd_app hp) (by show (p_wr A.1 A.2.2.2.2 t).1 + 1 ≤ 70; omega) (fun I2 hp2 o2 o3 => ih2 I2 hp2 _ _) _
      · have ee : p_wr A.1 A.2.2.2.2 (t + 1) = p_num (p_wr A.1 A.2.2.2.2 t) (A.1 t) := by rw [p_wr, if_neg h0]
        have ih2 := ih (t + 1) (by omega)
        rw [ee] at ih2
        have ht0 : nI t ≤ 0 := by obtain rfl : t = 0 := by omega
                                  decide
        refine px_iload_1 dX8_write_7 ?_
        refine px_bipush (8) dX8_write_8 rfl ?_
        refine px_icmp_ge (tgt := 71) dX8_write_10 (by decide) (fun h10 => (by first | exact absurd h10 ((nI_ge (a := t) (b := 8) (by omega) (by omega))) | exact absurd ((nI_ge (a := t) (b := 8) (by omega) (by omega))) h10)) (fun h10 => ?_)
        refine px_iload_1 dX8_write_13 ?_
        refine px_if_le (tgt := 23) dX8_write_14 (by decide) (fun h14 => ?_) (fun h14 => (by first | exact absurd (ht0) h14 | exact absurd h14 (ht0)))
        refine px_aload_0 dX8_write_23 ?_
        refine gf_X8_7 rfl dX8_write_24 (by first | assumption | exact mo_a hm | exact mo_r0 hm | exact mo_r1 hm | exact mo_r2 hm | exact mo_r4 hm | exact mo_r6 hm | exact mo_r8 hm | exact mo_a1 hm | exact mo_a2 hm | exact mo_a3 hm | exact mo_a4 hm | exact mo_a5 hm | exact mo_a6 hm) (by first | assumption | exact mo_a hm | exact mo_r0 hm | exact mo_r1 hm | exact mo_r2 hm | exact mo_r4 hm | exact mo_r6 hm | exact mo_r8 hm | exact mo_a1 hm | exact mo_a2 hm | exact mo_a3 hm | exact mo_a4 hm | exact mo_a5 hm | exact mo_a6 hm) ?_
        refine px_iconst (0) dX8_write_27 rfl ?_
        refine px_iload_1 dX8_write_28 ?_
        refine px_iadd dX8_write_29 ?_
        rw [z_add]
        refine px_ialdN dX8_write_30 (by first | assumption | exact mo_a hm | exact mo_r0 hm | exact mo_r1 hm | exact mo_r2 hm | exact mo_r4 hm | exact mo_r6 hm | exact mo_r8 hm | exact mo_a1 hm | exact mo_a2 hm | exact mo_a3 hm | exact mo_a4 hm | exact mo_a5 hm | exact mo_a6 hm) (by first | rfl | exact ix_eq (by assumption)) (by first | decide | omega) ?_
        rw [hs _ _ hp]
        refine px_istore_2 dX8_write_31 rfl ?_
        exact LN t _ _ (by omega) hp (by omega) (fun I2 hp2 o2 o3 => ih2 I2 hp2 _ _) _
  refine px_aload_0 dX8_write_0 ?_
  refine px_iconst (0) dX8_write_1 rfl ?_
  refine pf_X8_156 rfl dX8_write_2 (by first | assumption | exact mo_a hm | exact mo_r0 hm | exact mo_r1 hm | exact mo_r2 hm | exact mo_r4 hm | exact mo_r6 hm | exact mo_r8 hm | exact mo_a1 hm | exact mo_a2 hm | exact mo_a3 hm | exact mo_a4 hm | exact mo_a5 hm | exact mo_a6 hm) ?_
  refine px_iconst (0) dX8_write_5 rfl ?_
  refine px_istore_1 dX8_write_6 rfl ?_
  exact L 8 0 rfl _ ⟨px_up_self _ _ _ _, fun i hi => absurd hi (Nat.not_lt_zero i), fun a e1 e2 => px_up_ne e1, fun j hj => px_up_nj hj⟩ _ _
/-! undo, save, restore -/
def f_mix (σ τ : px_s) : px_s := fun k => if k < 151 then τ k else σ k
theorem s_X8_undo (hm : px_mo G T R m) (h : px_MI I m A) : px_C l G 0 0 0 mX8_undo [.ref m] (T, I, J, R) (if A.2.1.1 = 0 then px_Qm T I J R m (.int (-5)) A else px_Qm T I J R m (.int (nI (A.2.1.1 - 1))) (f_mix A.1 (A.2.1.2 (A.2.1.1 - 1)), (A.2.1.1 - 1, A.2.1.2), A.2.2)) := by
  obtain ⟨h1, ⟨h2, h3, h4⟩, h5, h6, h7, h8, h9⟩ := id h
  refine px_met (M := mX8_undo) ([some (.ref m), none]) (by decide +kernel) rfl (Nat.le_of_ble_eq_true rfl) rfl ?_
  by_cases hk : A.2.1.1 = 0
  · rw [if_pos hk]
    refine px_aload_0 dX8_undo_0 ?_
    refine gf_X8_33 rfl dX8_undo_1 (by first | assumption | exact mo_a hm | exact mo_r0 hm | exact mo_r1 hm | exact mo_r2 hm | exact mo_r4 hm | exact mo_r6 hm | exact mo_r8 hm | exact mo_a1 hm | exact mo_a2 hm | exact mo_a3 hm | exact mo_a4 hm | exact mo_a5 hm | exact mo_a6 hm) ?_
    rw [h2]
    refine px_if_ne (tgt := 10) dX8_undo_4 (by decide) (fun h4 => (by first | exact absurd h4 ((by rw [hk]; rfl)) | exact absurd ((by rw [hk]; rfl)) h4)) (fun h4 => ?_)
    refine px_bipush (-5) dX8_undo_7 rfl ?_
    refine px_iret dX8_undo_9 ?_
    exact ⟨rfl, I, J, rfl, h, fun _ _ => rfl, fun _ _ => rfl⟩
  · rw [if_neg hk]
    obtain ⟨k, ek⟩ : ∃ k, A.2.1.1 = k + 1 := ⟨A.2.1.1 - 1, by omega⟩
    have e1 : A.2.1.1 - 1 = k := by omega
    rw [e1]
    generalize hQ : px_Qm T I J R m (.int (nI k)) (f_mix A.1 (A.2.1.2 k), (k, A.2.1.2), A.2.2) = Q
    have hnz : ¬ nI A.2.1.1 = 0 := nI_ne0 (by omega) (by omega)
    have e2 : nI A.2.1.1 - 1 = nI k := by rw [ek, nI_pred]
    have L : ∀ n i, i + n = 151 → (px_W l G yX8_undo cX8_undo 2 (some .int) (px_rm 0 0 0) (px_Fn G Q 0 0) 22 [some (.ref m), some (.int (nI i))] [] 0 0 (T, px_cpf (px_up I m 3 (nI k)) (m + 1) 0 i (A.2.1.2 k), J, R)) := by
      intro n
      induction n with
      | zero =>
        intro i hi
        obtain rfl : i = 151 := by omega
        refine px_iload_1 dX8_undo_22 ?_
        refine px_sipush (151) dX8_undo_23 rfl ?_
        refine px_icmp_ge (tgt := 56) dX8_undo_26 (by decide) (fun h26 => ?_) (fun h26 => (by first | exact absurd ((le_nI (n := 151) rfl (by omega) (by omega))) h26 | exact absurd h26 ((le_nI (n := 151) rfl (by omega) (by omega)))))
        refine px_aload_0 dX8_undo_56 ?_
        refine gf_X8_33 rfl dX8_undo_57 (by first | assumption | exact mo_a hm | exact mo_r0 hm | exact mo_r1 hm | exact mo_r2 hm | exact mo_r4 hm | exact mo_r6 hm | exact mo_r8 hm | exact mo_a1 hm | exact mo_a2 hm | exact mo_a3 hm | exact mo_a4 hm | exact mo_a5 hm | exact mo_a6 hm) ?_
        rw [px_cpf_ne (by omega), px_up_self]
        refine px_iret dX8_undo_60 ?_
        subst hQ; refine ⟨rfl, _, J, rfl, ⟨?_, ⟨?_, by show k ≤ 6; omega, fun i hi q hq => ?_⟩, ?_, fun s hs hv q hq => ?_, ?_, h8, fun i hi => ?_⟩, fun a ha => ?_, fun a ha => rfl⟩
        · funext q
          show _ = f_mix A.1 (A.2.1.2 k) q
          unfold f_mix
          by_cases z : q < 151
          · rw [px_cpf_in (by omega), if_pos z]; rfl
          · rw [px_cpf_out (by omega), if_neg z, px_up_ne (by omega), h1]
        · rw [px_cpf_ne (by omega), px_up_self]
        · rw [px_cpf_ne (by omega), px_up_ne (by omega)]; exact h4 i (by have : i < k := hi; omega) q hq
        · rw [px_cpf_ne (by omega), px_up_nj (by decide)]; exact h5
        · rw [px_cpf_ne (by omega), px_up_ne (by omega)]; exact h6 s hs hv q hq
        · rw [px_cpf_ne (by omega), px_up_nj (by decide)]; exact h7
        · rw [px_cpf_ne (by omega), px_up_ne (by omega)]; exact h9 i hi
        · rw [px_cpf_ne (by omega), px_up_ne (by omega)]
      | succ n ih =>
        intro i hi
        refine px_iload_1 dX8_undo_22 ?_
        refine px_sipush (151) dX8_undo_23 rfl ?_
        refine px_icmp_ge (tgt := 56) dX8_undo_26 (by decide) (fun h26 => (by first | exact absurd h26 ((lt_nle (n := 151) rfl (by omega) (by omega))) | exact absurd ((lt_nle (n := 151) rfl (by omega) (by omega))) h26)) (fun h26 => ?_)
        refine px_aload_0 dX8_undo_29 ?_
        refine gf_X8_7 rfl dX8_undo_30 (by first | assumption | exact mo_a hm | exact mo_r0 hm | exact mo_r1 hm | exact mo_r2 hm | exact mo_r4 hm | exact mo_r6 hm | exact mo_r8 hm | exact mo_a1 hm | exact mo_a2 hm | exact mo_a3 hm | exact mo_a4 hm | exact mo_a5 hm | exact mo_a6 hm) (by first | assumption | exact mo_a hm | exact mo_r0 hm | exact mo_r1 hm | exact mo_r2 hm | exact mo_r4 hm | exact mo_r6 hm | exact mo_r8 hm | exact mo_a1 hm | exact mo_a2 hm | exact mo_a3 hm | exact mo_a4 hm | exact mo_a5 hm | exact mo_a6 hm) ?_
        refine px_iload_1 dX8_undo_33 ?_
        refine px_aload_0 dX8_undo_34 ?_
        refine gf_X8_16 rfl dX8_undo_35 (by first | assumption | exact mo_a hm | exact mo_r0 hm | exact mo_r1 hm | exact mo_r2 hm | exact mo_r4 hm | exact mo_r6 hm | exact mo_r8 hm | exact mo_a1 hm | exact mo_a2 hm | exact mo_a3 hm | exact mo_a4 hm | exact mo_a5 hm | exact mo_a6 hm) (by first | assumption | exact mo_a hm | exact mo_r0 hm | exact mo_r1 hm | exact mo_r2 hm | exact mo_r4 hm | exact mo_r6 hm | exact mo_r8 hm | exact mo_a1 hm | exact mo_a2 hm | exact mo_a3 hm | exact mo_a4 hm | exact mo_a5 hm | exact mo_a6 hm) ?_
        refine px_sipush (151) dX8_undo_38 rfl ?_
        refine px_aload_0 dX8_undo_41 ?_
        refine gf_X8_33 rfl dX8_undo_42 (by first | assumption | exact mo_a hm | exact mo_r0 hm | exact mo_r1 hm | exact mo_r2 hm | exact mo_r4 hm | exact mo_r6 hm | exact mo_r8 hm | exact mo_a1 hm | exact mo_a2 hm | exact mo_a3 hm | exact mo_a4 hm | exact mo_a5 hm | exact mo_a6 hm) ?_
        rw [px_cpf_ne (by omega), px_up_self]
        refine px_imul dX8_undo_45 ?_
        refine px_iload_1 dX8_undo_46 ?_
        refine px_iadd dX8_undo_47 ?_
        refine px_ialdN dX8_undo_48 (by first | assumption | exact mo_a hm | exact mo_r0 hm | exact mo_r1 hm | exact mo_r2 hm | exact mo_r4 hm | exact mo_r6 hm | exact mo_r8 hm | exact mo_a1 hm | exact mo_a2 hm | exact mo_a3 hm | exact mo_a4 hm | exact mo_a5 hm | exact mo_a6 hm) (by exact (show (151 : Int32) * nI k + nI i = nI (151 * k + i) by rw [show (151 : Int32) * nI k = nI 151 * nI k from rfl, pk_mul, nI_add])) (by omega) ?_
        rw [px_cpf_ne (by omega), px_up_ne (by omega), h4 k (by omega) i (by omega)]
        refine px_iastN dX8_undo_49 (by first | assumption | exact mo_a hm | exact mo_r0 hm | exact mo_r1 hm | exact mo_r2 hm | exact mo_r4 hm | exact mo_r6 hm | exact mo_r8 hm | exact mo_a1 hm | exact mo_a2 hm | exact mo_a3 hm | exact mo_a4 hm | exact mo_a5 hm | exact mo_a6 hm) (by first | rfl | exact ix_eq (by assumption)) (by first | decide | omega) ?_
        rw [show px_up (px_cpf (px_up I m 3 (nI k)) (m + 1) 0 i (A.2.1.2 k)) (m + 1) i (A.2.1.2 k i) = px_cpf (px_up I m 3 (nI k)) (m + 1) 0 (i + 1) (A.2.1.2 k) by rw [← px_cpf_s, Nat.zero_add]]
        refine px_iinc_1 dX8_undo_50 rfl ?_
        refine px_goto (tgt := 22) dX8_undo_53 (by decide) ?_
        rw [inc_nI]; exact ih (i + 1) (by omega)
    refine px_aload_0 dX8_undo_0 ?_
    refine gf_X8_33 rfl dX8_undo_1 (by first | assumption | exact mo_a hm | exact mo_r0 hm | exact mo_r1 hm | exact mo_r2 hm | exact mo_r4 hm | exact mo_r6 hm | exact mo_r8 hm | exact mo_a1 hm | exact mo_a2 hm | exact mo_a3 hm | exact mo_a4 hm | exact mo_a5 hm | exact mo_a6 hm) ?_
    rw [h2]
    refine px_if_ne (tgt := 10) dX8_undo_4 (by decide) (fun h4 => ?_) (fun h4 => (by first | exact absurd (hnz) h4 | exact absurd h4 (hnz)))
    refine px_aload_0 dX8_undo_10 ?_
    refine px_dup dX8_undo_11 rfl ?_
    refine gf_X8_33 rfl dX8_undo_12 (by first | assumption | exact mo_a hm | exact mo_r0 hm | exact mo_r1 hm | exact mo_r2 hm | exact mo_r4 hm | exact mo_r6 hm | exact mo_r8 hm | exact mo_a1 hm | exact mo_a2 hm | exact mo_a3 hm | exact mo_a4 hm | exact mo_a5 hm | exact mo_a6 hm) ?_
    rw [h2]
    refine px_iconst (1) dX8_undo_15 rfl ?_
    refine px_isub dX8_undo_16 ?_
    rw [e2]
    refine pf_X8_33 rfl dX8_undo_17 (by first | assumption | exact mo_a hm | exact mo_r0 hm | exact mo_r1 hm | exact mo_r2 hm | exact mo_r4 hm | exact mo_r6 hm | exact mo_r8 hm | exact mo_a1 hm | exact mo_a2 hm | exact mo_a3 hm | exact mo_a4 hm | exact mo_a5 hm | exact mo_a6 hm) ?_
    refine px_iconst (0) dX8_undo_20 rfl ?_
    refine px_istore_1 dX8_undo_21 rfl ?_
    have L0 := L _ 0 (Nat.zero_add _); rw [px_cpf_0] at L0; exact L0
theorem kept_or {f : Nat → Bool} {s : Nat} (hs : s < 2) : a_kept f ||| 1 <<< (nI s &&& 31) = a_kept (fun i => if i = s then true else f i) := by
  unfold a_kept
  rcases (by omega : s = 0 ∨ s = 1) with rfl | rfl
  · rw [if_pos (c := (fun i => if i = 0 then true else f i) 0 = true) rfl]
    show _ = 1 ||| (if f 1 = true then 2 else 0)
    cases f 0 <;> cases f 1 <;> decide
  · rw [if_pos (c := (fun i => if i = 1 then true else f i) 1 = true) rfl]
    show _ = (if f 0 = true then 1 else 0) ||| 2
    cases f 0 <;> cases f 1 <;> decide
theorem kept_bit {f : Nat → Bool} {s : Nat} (hs : s < 2) : (a_kept f >>> (nI s &&& 31)) &&& 1 = if f s then 1 else 0 := by
  unfold a_kept
  rcases (by omega : s = 0 ∨ s = 1) with rfl | rfl
  · cases f 0 <;> cases f 1 <;> decide
  · cases f 0 <;> cases f 1 <;> decide
def a_save (A : px_a) (s : Nat) : px_a := (A.1, A.2.1, ((fun i => if i = s then true else A.2.2.1.1 i), (fun i => if i = s then A.1 else A.2.2.1.2 i)), A.2.2.2)
theorem slot_ix {s i : Nat} : (151 : Int32) * nI s + nI i = nI (151 * s + i) := by rw [show (151 : Int32) * nI s = nI 151 * nI s from rfl, pk_mul, nI_add]
theorem s_X8_save {a : Int32} (hm : px_mo G T R m) (h : px_MI I m A) : px_C l G 1 0 0 mX8_save [.ref m, .int a] (T, I, J, R) (if rg a 0 1 then px_Qm T I J R m (.int (A.1 93)) (a_save A (ix a)) else px_Qm T I J R m (.int (-2)) A) := by
  obtain ⟨h1, ⟨h2, h3, h4⟩, h5, h6, h7, h8, h9⟩ := id h
  refine px_met (M := mX8_save) ([some (.ref m), some (.int a), none]) (by decide +kernel) rfl (Nat.le_of_ble_eq_true rfl) rfl ?_
  by_cases hr : rg a 0 1
  · rw [if_pos hr]
    have hs := ix_le hr (k := 1) rfl
    have ha := ix_eq hr
    generalize ix a = s at *
    subst ha
    generalize hQ : px_Qm T I J R m (.int (A.1 93)) (a_save A s) = Q
    have L : ∀ n i, i + n = 151 → (px_W l G yX8_save cX8_save 3 (some .int) (px_rm 1 0 0) (px_Fn G Q 0 0) 14 [some (.ref m), some (.int (nI s)), some (.int (nI i))] [] 0 0 (T, px_cpf I (m + 4) (151 * s) i A.1, J, R)) := by
      intro n
      induction n with
      | zero =>
        intro i hi
        obtain rfl : i = 151 := by omega
        refine px_iload_2 dX8_save_14 ?_
        refine px_sipush (151) dX8_save_15 rfl ?_
        refine px_icmp_ge (tgt := 45) dX8_save_18 (by decide) (fun h18 => ?_) (fun h18 => (by first | exact absurd ((le_nI (n := 151) rfl (by omega) (by omega))) h18 | exact absurd h18 ((le_nI (n := 151) rfl (by omega) (by omega)))))
        refine px_aload_0 dX8_save_45 ?_
        refine px_dup dX8_save_46 rfl ?_
        refine gf_X8_231 rfl dX8_save_47 (by first | assumption | exact mo_a hm | exact mo_r0 hm | exact mo_r1 hm | exact mo_r2 hm | exact mo_r4 hm | exact mo_r6 hm | exact mo_r8 hm | exact mo_a1 hm | exact mo_a2 hm | exact mo_a3 hm | exact mo_a4 hm | exact mo_a5 hm | exact mo_a6 hm) ?_
        rw [px_cpf_ne (by omega), h5]
        refine px_iconst (1) dX8_save_50 rfl ?_
        refine px_iload_1 dX8_save_51 ?_
        refine px_ishl dX8_save_52 ?_
        refine px_ior dX8_save_53 ?_
        rw [kept_or (by omega)]
        refine pf_X8_231 rfl dX8_save_54 (by first | assumption | exact mo_a hm | exact mo_r0 hm | exact mo_r1 hm | exact mo_r2 hm | exact mo_r4 hm | exact mo_r6 hm | exact mo_r8 hm | exact mo_a1 hm | exact mo_a2 hm | exact mo_a3 hm | exact mo_a4 hm | exact mo_a5 hm | exact mo_a6 hm) ?_
        refine px_aload_0 dX8_save_57 ?_
        refine gf_X8_7 rfl dX8_save_58 (by first | assumption | exact mo_a hm | exact mo_r0 hm | exact mo_r1 hm | exact mo_r2 hm | exact mo_r4 hm | exact mo_r6 hm | exact mo_r8 hm | exact mo_a1 hm | exact mo_a2 hm | exact mo_a3 hm | exact mo_a4 hm | exact mo_a5 hm | exact mo_a6 hm) (by first | assumption | exact mo_a hm | exact mo_r0 hm | exact mo_r1 hm | exact mo_r2 hm | exact mo_r4 hm | exact mo_r6 hm | exact mo_r8 hm | exact mo_a1 hm | exact mo_a2 hm | exact mo_a3 hm | exact mo_a4 hm | exact mo_a5 hm | exact mo_a6 hm) ?_
        refine px_bipush (93) dX8_save_61 rfl ?_
        refine px_ialdN (j := 93) dX8_save_63 (by first | assumption | exact mo_a hm | exact mo_r0 hm | exact mo_r1 hm | exact mo_r2 hm | exact mo_r4 hm | exact mo_r6 hm | exact mo_r8 hm | exact mo_a1 hm | exact mo_a2 hm | exact mo_a3 hm | exact mo_a4 hm | exact mo_a5 hm | exact mo_a6 hm) (by first | rfl | exact ix_eq (by assumption)) (by first | decide | omega) ?_
        rw [px_up_ne (by omega), px_cpf_ne (by omega), h1]
        refine px_iret dX8_save_64 ?_
        subst hQ; refine ⟨rfl, _, J, rfl, ⟨?_, ⟨?_, h3, fun i hi q hq => ?_⟩, ?_, fun s' hs' hv q hq => ?_, ?_, h8, fun i hi => ?_⟩, fun b hb => ?_, fun b hb => rfl⟩
        · rw [px_up_ne (by omega), px_cpf_ne (by omega)]; exact h1
        · rw [px_up_nj (by decide), px_cpf_ne (by omega)]; exact h2
        · rw [px_up_ne (by omega), px_cpf_ne (by omega)]; exact h4 i hi q hq
        · rw [px_up_self]; rfl
        · rw [px_up_ne (by omega)]
          unfold a_save at hv ⊢
          dsimp only at hv ⊢
          by_cases z : s' = s
          · subst z
            rw [px_cpf_in (by omega), if_pos rfl, show 151 * s' + q - 151 * s' = q by omega]
          · rw [if_neg z] at hv
            rw [px_cpf_out (by omega), if_neg z]; exact h6 s' hs' hv q hq
        · rw [px_up_nj (by decide), px_cpf_ne (by omega)]; exact h7
        · rw [px_up_ne (by omega), px_cpf_ne (by omega)]; exact h9 i hi
        · rw [px_up_ne (by omega), px_cpf_ne (by omega)]
      | succ n ih =>
        intro i hi
        refine px_iload_2 dX8_save_14 ?_
        refine px_sipush (151) dX8_save_15 rfl ?_
        refine px_icmp_ge (tgt := 45) dX8_save_18 (by decide) (fun h18 => (by first | exact absurd h18 ((lt_nle (n := 151) rfl (by omega) (by omega))) | exact absurd ((lt_nle (n := 151) rfl (by omega) (by omega))) h18)) (fun h18 => ?_)
        refine px_aload_0 dX8_save_21 ?_
        refine gf_X8_19 rfl dX8_save_22 (by first | assumption | exact mo_a hm | exact mo_r0 hm | exact mo_r1 hm | exact mo_r2 hm | exact mo_r4 hm | exact mo_r6 hm | exact mo_r8 hm | exact mo_a1 hm | exact mo_a2 hm | exact mo_a3 hm | exact mo_a4 hm | exact mo_a5 hm | exact mo_a6 hm) (by first | assumption | exact mo_a hm | exact mo_r0 hm | exact mo_r1 hm | exact mo_r2 hm | exact mo_r4 hm | exact mo_r6 hm | exact mo_r8 hm | exact mo_a1 hm | exact mo_a2 hm | exact mo_a3 hm | exact mo_a4 hm | exact mo_a5 hm | exact mo_a6 hm) ?_
        refine px_sipush (151) dX8_save_25 rfl ?_
        refine px_iload_1 dX8_save_28 ?_
        refine px_imul dX8_save_29 ?_
        refine px_iload_2 dX8_save_30 ?_
        refine px_iadd dX8_save_31 ?_
        refine px_aload_0 dX8_save_32 ?_
        refine gf_X8_7 rfl dX8_save_33 (by first | assumption | exact mo_a hm | exact mo_r0 hm | exact mo_r1 hm | exact mo_r2 hm | exact mo_r4 hm | exact mo_r6 hm | exact mo_r8 hm | exact mo_a1 hm | exact mo_a2 hm | exact mo_a3 hm | exact mo_a4 hm | exact mo_a5 hm | exact mo_a6 hm) (by first | assumption | exact mo_a hm | exact mo_r0 hm | exact mo_r1 hm | exact mo_r2 hm | exact mo_r4 hm | exact mo_r6 hm | exact mo_r8 hm | exact mo_a1 hm | exact mo_a2 hm | exact mo_a3 hm | exact mo_a4 hm | exact mo_a5 hm | exact mo_a6 hm) ?_
        refine px_iload_2 dX8_save_36 ?_
        refine px_ialdN dX8_save_37 (by first | assumption | exact mo_a hm | exact mo_r0 hm | exact mo_r1 hm | exact mo_r2 hm | exact mo_r4 hm | exact mo_r6 hm | exact mo_r8 hm | exact mo_a1 hm | exact mo_a2 hm | exact mo_a3 hm | exact mo_a4 hm | exact mo_a5 hm | exact mo_a6 hm) (by first | rfl | exact ix_eq (by assumption)) (by first | decide | omega) ?_
        rw [px_cpf_ne (by omega), h1]
        refine px_iastN dX8_save_38 (by first | assumption | exact mo_a hm | exact mo_r0 hm | exact mo_r1 hm | exact mo_r2 hm | exact mo_r4 hm | exact mo_r6 hm | exact mo_r8 hm | exact mo_a1 hm | exact mo_a2 hm | exact mo_a3 hm | exact mo_a4 hm | exact mo_a5 hm | exact mo_a6 hm) (by exact slot_ix) (by omega) ?_
        rw [px_cpf_s]
        refine px_iinc_2 dX8_save_39 rfl ?_
        refine px_goto (tgt := 14) dX8_save_42 (by decide) ?_
        rw [inc_nI]; exact ih (i + 1) (by omega)
    refine px_iload_1 dX8_save_0 ?_
    refine px_iconst (0) dX8_save_1 rfl ?_
    refine px_iconst (1) dX8_save_2 rfl ?_
    refine cd_X8_29 rfl ⟨⟨Nat.le_of_ble_eq_true rfl, Nat.le_of_ble_eq_true rfl⟩, Nat.le_of_ble_eq_true rfl, Nat.le_of_ble_eq_true rfl, Nat.le_of_ble_eq_true rfl⟩ dX8_save_3 (s_X8_in) ?_
    refine px_ifb_ne (tgt := 12) dX8_save_6 (by decide) (fun h6 => ?_) (fun h6 => (by first | exact absurd (hr) h6 | exact absurd h6 (hr)))
    refine px_iconst (0) dX8_save_12 rfl ?_
    refine px_istore_2 dX8_save_13 rfl ?_
    have L0 := L _ 0 (Nat.zero_add _); rw [px_cpf_0] at L0; exact L0
  · rw [if_neg hr]
    refine px_iload_1 dX8_save_0 ?_
    refine px_iconst (0) dX8_save_1 rfl ?_
    refine px_iconst (1) dX8_save_2 rfl ?_
    refine cd_X8_29 rfl ⟨⟨Nat.le_of_ble_eq_true rfl, Nat.le_of_ble_eq_true rfl⟩, Nat.le_of_ble_eq_true rfl, Nat.le_of_ble_eq_true rfl, Nat.le_of_ble_eq_true rfl⟩ dX8_save_3 (s_X8_in) ?_
    refine px_ifb_ne (tgt := 12) dX8_save_6 (by decide) (fun h6 => (by first | exact absurd h6 (hr) | exact absurd (hr) h6)) (fun h6 => ?_)
    refine px_bipush (-2) dX8_save_9 rfl ?_
    refine px_iret dX8_save_11 ?_
    exact ⟨rfl, I, J, rfl, h, fun _ _ => rfl, fun _ _ => rfl⟩
def a_rest (A : px_a) (s : Nat) : px_a := (f_mix A.1 (A.2.2.1.2 s), h_push A.2.1.1 A.2.1.2 A.1, A.2.2)
theorem s_X8_restore {a : Int32} (hm : px_mo G T R m) (h : px_MI I m A) : px_C l G 1 0 0 mX8_restore [.ref m, .int a] (T, I, J, R) (if ¬ rg a 0 1 then px_Qm T I J R m (.int (-2)) A else if A.2.2.1.1 (ix a) = true then px_Qm T I J R m (.int (A.2.2.1.2 (ix a) 93)) (a_rest A (ix a)) else px_Qm T I J R m (.int (-5)) A) := by
  obtain ⟨h1, ⟨h2, h3, h4⟩, h5, h6, h7, h8, h9⟩ := id h
  refine px_met (M := mX8_restore) ([some (.ref m), some (.int a), none]) (by decide +kernel) rfl (Nat.le_of_ble_eq_true rfl) rfl ?_
  by_cases hr : rg a 0 1
  · rw [if_neg (fun q => q hr)]
    have hs := ix_le hr (k := 1) rfl
    have ha := ix_eq hr
    generalize ix a = s at *
    subst ha
    have hb := kept_bit (f := A.2.2.1.1) (s := s) (by omega)
    by_cases hk : A.2.2.1.1 s = true
    · rw [if_pos hk] at hb ⊢
      have hp := s_X8_putAside (l := l) (I := I) (J := J) hm
      rw [h1] at hp
      have h11 := MI_aside (f := A.1) h
      generalize hQ : px_Qm T I J R m (.int (A.2.2.1.2 s 93)) (a_rest A s) = Q
      have hb1 : ¬ (a_kept A.2.2.1.1 >>> (nI s &&& 31)) &&& 1 = 0 := by rw [hb]; decide
      have hcg := h_push_congr (kn := A.2.1.1) (H := A.2.1.2) (σ := px_cpf I (m + 2) 0 151 A.1 (m + 2)) (τ := A.1) (fun k hk => by rw [px_cpf_in (by omega), Nat.sub_zero])
      have L : ∀ (I' : px_I), px_hi I' m (h_push A.2.1.1 A.2.1.2 A.1).1 (h_push A.2.1.1 A.2.1.2 A.1).2 → (∀ b, b ≠ m → b ≠ m + 2 → b ≠ m + 3 → I' b = I b) → (∀ j, j ≠ 3 → I' m j = I m j) → ∀ n i, i + n = 151 → (px_W l G yX8_restore cX8_restore 3 (some .int) (px_rm 1 0 0) (px_Fn G Q 0 0) 36 [some (.ref m), some (.int (nI s)), some (.int (nI i))] [] 0 0 (T, px_cpf I' (m + 1) 0 i (A.2.2.1.2 s), J, R)) := by
        intro I' hh g1 g2 n
        induction n with
        | zero =>
          intro i hi
          obtain rfl : i = 151 := by omega
          refine px_iload_2 dX8_restore_36 ?_
          refine px_sipush (151) dX8_restore_37 rfl ?_
          refine px_icmp_ge (tgt := 67) dX8_restore_40 (by decide) (fun h40 => ?_) (fun h40 => (by first | exact absurd ((le_nI (n := 151) rfl (by omega) (by omega))) h40 | exact absurd h40 ((le_nI (n := 151) rfl (by omega) (by omega)))))
          refine px_aload_0 dX8_restore_67 ?_
          refine gf_X8_7 rfl dX8_restore_68 (by first | assumption | exact mo_a hm | exact mo_r0 hm | exact mo_r1 hm | exact mo_r2 hm | exact mo_r4 hm | exact mo_r6 hm | exact mo_r8 hm | exact mo_a1 hm | exact mo_a2 hm | exact mo_a3 hm | exact mo_a4 hm | exact mo_a5 hm | exact mo_a6 hm) (by first | assumption | exact mo_a hm | exact mo_r0 hm | exact mo_r1 hm | exact mo_r2 hm | exact mo_r4 hm | exact mo_r6 hm | exact mo_r8 hm | exact mo_a1 hm | exact mo_a2 hm | exact mo_a3 hm | exact mo_a4 hm | exact mo_a5 hm | exact mo_a6 hm) ?_
          refine px_bipush (93) dX8_restore_71 rfl ?_
          refine px_ialdN (j := 93) dX8_restore_73 (by first | assumption | exact mo_a hm | exact mo_r0 hm | exact mo_r1 hm | exact mo_r2 hm | exact mo_r4 hm | exact mo_r6 hm | exact mo_r8 hm | exact mo_a1 hm | exact mo_a2 hm | exact mo_a3 hm | exact mo_a4 hm | exact mo_a5 hm | exact mo_a6 hm) (by first | rfl | exact ix_eq (by assumption)) (by first | decide | omega) ?_
          rw [px_cpf_in (by omega), Nat.sub_zero]
          refine px_iret dX8_restore_74 ?_
          subst hQ; refine ⟨rfl, _, J, rfl, ⟨?_, ⟨?_, hh.2.1, fun i hi q hq => ?_⟩, ?_, fun s' hs' hv q hq => ?_, ?_, h8, fun i hi => ?_⟩, fun b hb => ?_, fun b hb => rfl⟩
          · funext q
            show _ = f_mix A.1 (A.2.2.1.2 s) q
            unfold f_mix
            by_cases z : q < 151
            · rw [px_cpf_in (by omega), if_pos z]; rfl
            · rw [px_cpf_out (by omega), if_neg z, g1 _ (by omega) (by omega) (by omega), h1]
          · rw [px_cpf_ne (by omega)]; exact hh.1
          · rw [px_cpf_ne (by omega)]; exact hh.2.2 i hi q hq
          · rw [px_cpf_ne (by omega), g2 _ (by decide)]; exact h5
          · rw [px_cpf_ne (by omega), g1 _ (by omega) (by omega) (by omega)]; exact h6 s' hs' hv q hq
          · rw [px_cpf_ne (by omega), g2 _ (by decide)]; exact h7
          · rw [px_cpf_ne (by omega), g1 _ (by omega) (by omega) (by omega)]; exact h9 i hi
          · rw [px_cpf_ne (by omega), g1 _ (by omega) (by omega) (by omega)]
        | succ n ih =>
          intro i hi
          refine px_iload_2 dX8_restore_36 ?_
          refine px_sipush (151) dX8_restore_37 rfl ?_
          refine px_icmp_ge (tgt := 67) dX8_restore_40 (by decide) (fun h40 => (by first | exact absurd h40 ((lt_nle (n := 151) rfl (by omega) (by omega))) | exact absurd ((lt_nle (n := 151) rfl (by omega) (by omega))) h40)) (fun h40 => ?_)
          refine px_aload_0 dX8_restore_43 ?_
          refine gf_X8_7 rfl dX8_restore_44 (by first | assumption | exact mo_a hm | exact mo_r0 hm | exact mo_r1 hm | exact mo_r2 hm | exact mo_r4 hm | exact mo_r6 hm | exact mo_r8 hm | exact mo_a1 hm | exact mo_a2 hm | exact mo_a3 hm | exact mo_a4 hm | exact mo_a5 hm | exact mo_a6 hm) (by first | assumption | exact mo_a hm | exact mo_r0 hm | exact mo_r1 hm | exact mo_r2 hm | exact mo_r4 hm | exact mo_r6 hm | exact mo_r8 hm | exact mo_a1 hm | exact mo_a2 hm | exact mo_a3 hm | exact mo_a4 hm | exact mo_a5 hm | exact mo_a6 hm) ?_
          refine px_iload_2 dX8_restore_47 ?_
          refine px_aload_0 dX8_restore_48 ?_
          refine gf_X8_19 rfl dX8_restore_49 (by first | assumption | exact mo_a hm | exact mo_r0 hm | exact mo_r1 hm | exact mo_r2 hm | exact mo_r4 hm | exact mo_r6 hm | exact mo_r8 hm | exact mo_a1 hm | exact mo_a2 hm | exact mo_a3 hm | exact mo_a4 hm | exact mo_a5 hm | exact mo_a6 hm) (by first | assumption | exact mo_a hm | exact mo_r0 hm | exact mo_r1 hm | exact mo_r2 hm | exact mo_r4 hm | exact mo_r6 hm | exact mo_r8 hm | exact mo_a1 hm | exact mo_a2 hm | exact mo_a3 hm | exact mo_a4 hm | exact mo_a5 hm | exact mo_a6 hm) ?_
          refine px_sipush (151) dX8_restore_52 rfl ?_
          refine px_iload_1 dX8_restore_55 ?_
          refine px_imul dX8_restore_56 ?_
          refine px_iload_2 dX8_restore_57 ?_
          refine px_iadd dX8_restore_58 ?_
          refine px_ialdN dX8_restore_59 (by first | assumption | exact mo_a hm | exact mo_r0 hm | exact mo_r1 hm | exact mo_r2 hm | exact mo_r4 hm | exact mo_r6 hm | exact mo_r8 hm | exact mo_a1 hm | exact mo_a2 hm | exact mo_a3 hm | exact mo_a4 hm | exact mo_a5 hm | exact mo_a6 hm) (by exact slot_ix) (by omega) ?_
          rw [px_cpf_ne (by omega), g1 _ (by omega) (by omega) (by omega), h6 s (by omega) hk i (by omega)]
          refine px_iastN dX8_restore_60 (by first | assumption | exact mo_a hm | exact mo_r0 hm | exact mo_r1 hm | exact mo_r2 hm | exact mo_r4 hm | exact mo_r6 hm | exact mo_r8 hm | exact mo_a1 hm | exact mo_a2 hm | exact mo_a3 hm | exact mo_a4 hm | exact mo_a5 hm | exact mo_a6 hm) (by first | rfl | exact ix_eq (by assumption)) (by first | decide | omega) ?_
          rw [show px_up (px_cpf I' (m + 1) 0 i (A.2.2.1.2 s)) (m + 1) i (A.2.2.1.2 s i) = px_cpf I' (m + 1) 0 (i + 1) (A.2.2.1.2 s) by rw [← px_cpf_s, Nat.zero_add]]
          refine px_iinc_2 dX8_restore_61 rfl ?_
          refine px_goto (tgt := 36) dX8_restore_64 (by decide) ?_
          rw [inc_nI]; exact ih (i + 1) (by omega)
      refine px_iload_1 dX8_restore_0 ?_
      refine px_iconst (0) dX8_restore_1 rfl ?_
      refine px_iconst (1) dX8_restore_2 rfl ?_
      refine cd_X8_29 rfl ⟨⟨Nat.le_of_ble_eq_true rfl, Nat.le_of_ble_eq_true rfl⟩, Nat.le_of_ble_eq_true rfl, Nat.le_of_ble_eq_true rfl, Nat.le_of_ble_eq_true rfl⟩ dX8_restore_3 (s_X8_in) ?_
      refine px_ifb_ne (tgt := 12) dX8_restore_6 (by decide) (fun h6 => ?_) (fun h6 => (by first | exact absurd (hr) h6 | exact absurd h6 (hr)))
      refine px_aload_0 dX8_restore_12 ?_
      refine gf_X8_231 rfl dX8_restore_13 (by first | assumption | exact mo_a hm | exact mo_r0 hm | exact mo_r1 hm | exact mo_r2 hm | exact mo_r4 hm | exact mo_r6 hm | exact mo_r8 hm | exact mo_a1 hm | exact mo_a2 hm | exact mo_a3 hm | exact mo_a4 hm | exact mo_a5 hm | exact mo_a6 hm) ?_
      rw [h5]
      refine px_iload_1 dX8_restore_16 ?_
      refine px_ishr dX8_restore_17 ?_
      refine px_iconst (1) dX8_restore_18 rfl ?_
      refine px_iand dX8_restore_19 ?_
      refine px_if_ne (tgt := 26) dX8_restore_20 (by decide) (fun h20 => ?_) (fun h20 => (by first | exact absurd (hb1) h20 | exact absurd h20 (hb1)))
      refine px_aload_0 dX8_restore_26 ?_
      refine cd_X8_90 rfl ⟨⟨Nat.le_of_ble_eq_true rfl, Nat.le_of_ble_eq_true rfl⟩, Nat.le_of_ble_eq_true rfl, Nat.le_of_ble_eq_true rfl, Nat.le_of_ble_eq_true rfl⟩ (by first | assumption | exact mo_a hm | exact mo_r0 hm | exact mo_r1 hm | exact mo_r2 hm | exact mo_r4 hm | exact mo_r6 hm | exact mo_r8 hm | exact mo_a1 hm | exact mo_a2 hm | exact mo_a3 hm | exact mo_a4 hm | exact mo_a5 hm | exact mo_a6 hm) dX8_restore_27 (hp) ?_
      refine px_aload_0 dX8_restore_30 ?_
      refine cg_X8_37 rfl ⟨⟨Nat.le_of_ble_eq_true rfl, Nat.le_of_ble_eq_true rfl⟩, Nat.le_of_ble_eq_true rfl, Nat.le_of_ble_eq_true rfl, Nat.le_of_ble_eq_true rfl⟩ (by first | assumption | exact mo_a hm | exact mo_r0 hm | exact mo_r1 hm | exact mo_r2 hm | exact mo_r4 hm | exact mo_r6 hm | exact mo_r8 hm | exact mo_a1 hm | exact mo_a2 hm | exact mo_a3 hm | exact mo_a4 hm | exact mo_a5 hm | exact mo_a6 hm) dX8_restore_31 (s_X8_record hm h11.2.1) ?_
      rintro u μ' ⟨I', rfl, rfl, hh, g1, g2⟩
      refine px_iconst (0) dX8_restore_34 rfl ?_
      refine px_istore_2 dX8_restore_35 rfl ?_
      skip
      rw [hcg.1] at hh
      have L0 := L I' (px_hi_congr hh (fun i _ k hk => hcg.2 i k hk)) (fun b b1 b2 b3 => by rw [g1 b b1 b3, px_cpf_ne b2]) (fun j hj => by rw [g2 j hj, px_cpf_ne (by omega)]) _ 0 (Nat.zero_add _)
      rw [px_cpf_0] at L0
      exact L0
    · rw [if_neg hk] at hb ⊢
      refine px_iload_1 dX8_restore_0 ?_
      refine px_iconst (0) dX8_restore_1 rfl ?_
      refine px_iconst (1) dX8_restore_2 rfl ?_
      refine cd_X8_29 rfl ⟨⟨Nat.le_of_ble_eq_true rfl, Nat.le_of_ble_eq_true rfl⟩, Nat.le_of_ble_eq_true rfl, Nat.le_of_ble_eq_true rfl, Nat.le_of_ble_eq_true rfl⟩ dX8_restore_3 (s_X8_in) ?_
      refine px_ifb_ne (tgt := 12) dX8_restore_6 (by decide) (fun h6 => ?_) (fun h6 => (by first | exact absurd (hr) h6 | exact absurd h6 (hr)))
      refine px_aload_0 dX8_restore_12 ?_
      refine gf_X8_231 rfl dX8_restore_13 (by first | assumption | exact mo_a hm | exact mo_r0 hm | exact mo_r1 hm | exact mo_r2 hm | exact mo_r4 hm | exact mo_r6 hm | exact mo_r8 hm | exact mo_a1 hm | exact mo_a2 hm | exact mo_a3 hm | exact mo_a4 hm | exact mo_a5 hm | exact mo_a6 hm) ?_
      rw [h5]
      refine px_iload_1 dX8_restore_16 ?_
      refine px_ishr dX8_restore_17 ?_
      refine px_iconst (1) dX8_restore_18 rfl ?_
      refine px_iand dX8_restore_19 ?_
      refine px_if_ne (tgt := 26) dX8_restore_20 (by decide) (fun h20 => (by first | exact absurd h20 (hb) | exact absurd (hb) h20)) (fun h20 => ?_)
      refine px_bipush (-5) dX8_restore_23 rfl ?_
      refine px_iret dX8_restore_25 ?_
      exact ⟨rfl, I, J, rfl, h, fun _ _ => rfl, fun _ _ => rfl⟩
  · rw [if_pos hr]
    refine px_iload_1 dX8_restore_0 ?_
    refine px_iconst (0) dX8_restore_1 rfl ?_
    refine px_iconst (1) dX8_restore_2 rfl ?_
    refine cd_X8_29 rfl ⟨⟨Nat.le_of_ble_eq_true rfl, Nat.le_of_ble_eq_true rfl⟩, Nat.le_of_ble_eq_true rfl, Nat.le_of_ble_eq_true rfl, Nat.le_of_ble_eq_true rfl⟩ dX8_restore_3 (s_X8_in) ?_
    refine px_ifb_ne (tgt := 12) dX8_restore_6 (by decide) (fun h6 => (by first | exact absurd h6 (hr) | exact absurd (hr) h6)) (fun h6 => ?_)
    refine px_bipush (-2) dX8_restore_9 rfl ?_
    refine px_iret dX8_restore_11 ?_
    exact ⟨rfl, I, J, rfl, h, fun _ _ => rfl, fun _ _ => rfl⟩
end MQ4

