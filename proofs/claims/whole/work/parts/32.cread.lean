section CRD
def px_pa (G : px_G) (T : px_T) (R : px_R) (a : Nat) : Prop := px_at G T a 2 0 ∧ R a 0 = some (a + 1) ∧ px_at G T (a + 1) 9 80
def px_re (G : px_G) (T : px_T) (R : px_R) (r a : Nat) : Prop := px_at G T r 3 0 ∧ R r 0 = some a
variable {l : Launch} {G : px_G} {T : px_T} {I : px_I} {J : px_J} {R : px_R} {μ : px_M} {a r : Nat} {σ : px_s} {p : px_p} {s : Nat}
theorem pa_a (h : px_pa G T R a) : px_at G T a 2 0 := h.1
theorem pa_r (h : px_pa G T R a) : R a 0 = some (a + 1) := h.2.1
theorem pa_c (h : px_pa G T R a) : px_at G T (a + 1) 9 80 := h.2.2
/-- the pad of the class holds p -/
def px_cp (I : px_I) (a : Nat) (p : px_p) : Prop := I a 1 = nI p.1 ∧ p.1 ≤ 80 ∧ ∀ i, i < p.1 → I (a + 1) i = p.2 i
theorem out_rg {v a b : Int32} : (v < a ∨ b < v) ↔ ¬ rg v a b := ⟨fun h q => q h, fun h => Classical.byContradiction h⟩
theorem s_X2_codeAt {v : Int32} (hp : px_pa G T R a) (hc : px_cp I a p) (e : v = nI s) (hs : s < 1000) : px_K l G 1 mX2_codeAt ([.ref a, .int v]) ((T, I, J, R)) (some (.int (q_ch p s))) ((T, I, J, R)) := by
  subst e
  obtain ⟨c1, c2, c3⟩ := hc
  refine px_met (M := mX2_codeAt) ([some (.ref a), some (.int (nI s))]) (by decide +kernel) rfl (Nat.le_of_ble_eq_true rfl) rfl ?_
  by_cases hl : s < p.1
  · have e : q_ch p s = p.2 s := if_pos hl
    rw [e]
    refine px_iload_1 dX2_codeAt_0 ?_
    refine px_iconst (0) dX2_codeAt_1 rfl ?_
    refine px_aload_0 dX2_codeAt_2 ?_
    refine gf_X2_15 rfl dX2_codeAt_3 (by first | assumption | exact pa_a hp | exact pa_r hp | exact pa_c hp | exact hr.1 | exact hr.2) ?_
    rw [c1]
    refine px_iconst (1) dX2_codeAt_6 rfl ?_
    refine px_isub dX2_codeAt_7 ?_
    refine cd_X2_19 rfl ⟨⟨Nat.le_of_ble_eq_true rfl, Nat.le_of_ble_eq_true rfl⟩, Nat.le_of_ble_eq_true rfl, Nat.le_of_ble_eq_true rfl, Nat.le_of_ble_eq_true rfl⟩ dX2_codeAt_8 (s_X7_isOutside) ?_
    refine px_ifb_eq (tgt := 18) dX2_codeAt_11 (by decide) (fun h11 => ?_) (fun h11 => (by first | exact absurd ((rg_nI hl (by omega))) h11 | exact absurd h11 ((rg_nI hl (by omega)))))
    refine px_aload_0 dX2_codeAt_18 ?_
    refine gf_X2_9 rfl dX2_codeAt_19 (by first | assumption | exact pa_a hp | exact pa_r hp | exact pa_c hp | exact hr.1 | exact hr.2) (by first | assumption | exact pa_a hp | exact pa_r hp | exact pa_c hp | exact hr.1 | exact hr.2) ?_
    refine px_iload_1 dX2_codeAt_22 ?_
    refine px_ialdN dX2_codeAt_23 (by first | assumption | exact pa_a hp | exact pa_r hp | exact pa_c hp | exact hr.1 | exact hr.2) (by exact rfl) (by omega) ?_
    refine px_iret dX2_codeAt_24 ?_
    exact ⟨by rw [c3 s hl], rfl⟩
  · have e : q_ch p s = 0 := if_neg hl
    rw [e]
    have ho : nI s < 0 ∨ nI p.1 - 1 < nI s := Or.inr (by rw [Int32.lt_iff_toInt_lt, nI_ti (by omega), m1_ti (by omega)]; omega)
    refine px_iload_1 dX2_codeAt_0 ?_
    refine px_iconst (0) dX2_codeAt_1 rfl ?_
    refine px_aload_0 dX2_codeAt_2 ?_
    refine gf_X2_15 rfl dX2_codeAt_3 (by first | assumption | exact pa_a hp | exact pa_r hp | exact pa_c hp | exact hr.1 | exact hr.2) ?_
    rw [c1]
    refine px_iconst (1) dX2_codeAt_6 rfl ?_
    refine px_isub dX2_codeAt_7 ?_
    refine cd_X2_19 rfl ⟨⟨Nat.le_of_ble_eq_true rfl, Nat.le_of_ble_eq_true rfl⟩, Nat.le_of_ble_eq_true rfl, Nat.le_of_ble_eq_true rfl, Nat.le_of_ble_eq_true rfl⟩ dX2_codeAt_8 (s_X7_isOutside) ?_
    refine px_ifb_eq (tgt := 18) dX2_codeAt_11 (by decide) (fun h11 => (by first | exact absurd h11 (ho) | exact absurd (ho) h11)) (fun h11 => ?_)
    refine px_iconst (0) dX2_codeAt_14 rfl ?_
    refine px_goto (tgt := 24) dX2_codeAt_15 (by decide) ?_
    refine px_iret dX2_codeAt_24 ?_
    exact ⟨rfl, rfl⟩
theorem s_X2_append {v : Int32} (hp : px_pa G T R a) (c1 : I a 1 = nI p.1) (hn : p.1 < 80) : px_K l G 0 mX2_append ([.ref a, .int v]) ((T, I, J, R)) (none) ((T, px_up (px_up I (a + 1) p.1 v) a 1 (nI (p.1 + 1)), J, R)) := by
  refine px_met (M := mX2_append) ([some (.ref a), some (.int v)]) (by decide +kernel) rfl (Nat.le_of_ble_eq_true rfl) rfl ?_
  refine px_aload_0 dX2_append_0 ?_
  refine gf_X2_15 rfl dX2_append_1 (by first | assumption | exact pa_a hp | exact pa_r hp | exact pa_c hp | exact hr.1 | exact hr.2) ?_
  rw [c1]
  refine px_bipush (80) dX2_append_4 rfl ?_
  refine px_icmp_ge (tgt := 29) dX2_append_6 (by decide) (fun h6 => (by first | exact absurd h6 ((nI_ge (b := 80) hn (by omega))) | exact absurd ((nI_ge (b := 80) hn (by omega))) h6)) (fun h6 => ?_)
  refine px_aload_0 dX2_append_9 ?_
  refine gf_X2_9 rfl dX2_append_10 (by first | assumption | exact pa_a hp | exact pa_r hp | exact pa_c hp | exact hr.1 | exact hr.2) (by first | assumption | exact pa_a hp | exact pa_r hp | exact pa_c hp | exact hr.1 | exact hr.2) ?_
  refine px_aload_0 dX2_append_13 ?_
  refine gf_X2_15 rfl dX2_append_14 (by first | assumption | exact pa_a hp | exact pa_r hp | exact pa_c hp | exact hr.1 | exact hr.2) ?_
  refine px_iload_1 dX2_append_17 ?_
  refine px_iastN dX2_append_18 (by first | assumption | exact pa_a hp | exact pa_r hp | exact pa_c hp | exact hr.1 | exact hr.2) (by exact c1) (by omega) ?_
  refine px_aload_0 dX2_append_19 ?_
  refine px_dup dX2_append_20 rfl ?_
  refine gf_X2_15 rfl dX2_append_21 (by first | assumption | exact pa_a hp | exact pa_r hp | exact pa_c hp | exact hr.1 | exact hr.2) ?_
  rw [px_up_ne (by omega), c1]
  refine px_iconst (1) dX2_append_24 rfl ?_
  refine px_iadd dX2_append_25 ?_
  rw [nI_1]
  refine pf_X2_15 rfl dX2_append_26 (by first | assumption | exact pa_a hp | exact pa_r hp | exact pa_c hp | exact hr.1 | exact hr.2) ?_
  refine px_vret dX2_append_29 ?_
  exact ⟨rfl, rfl⟩
/-- only the pad is another -/
def px_pc (I : px_I) (a : Nat) (p : px_p) (I' : px_I) : Prop := I' a 1 = nI p.1 ∧ (∀ i, i < p.1 → I' (a + 1) i = p.2 i) ∧ ∀ b, b ≠ a → b ≠ a + 1 → I' b = I b
theorem pc_app {I' : px_I} {v : Int32} (h : px_pc I a p I') : px_pc I a (p_app p v) (px_up (px_up I' (a + 1) p.1 v) a 1 (nI (p.1 + 1))) := by
  obtain ⟨h1, h2, h3⟩ := h
  refine ⟨px_up_self _ _ _ _, fun i hi => ?_, fun b e1 e2 => ?_⟩
  · rw [px_up_ne (by omega), px_up_at]
    unfold p_app at hi ⊢
    dsimp only at hi ⊢
    by_cases z : i = p.1
    · rw [if_pos ⟨rfl, z⟩, upd_eq z]
    · rw [if_neg (by omega), upd_ne z]; exact h2 i (by omega)
  · rw [px_up_ne e1, px_up_ne e2]; exact h3 b e1 e2
theorem s_X2_appendPrice {x : Int32} {k : Nat} {I0 : px_I} (hp : px_pa G T R a) (hc : px_pc I0 a p I) (hn : p.1 + 3 ≤ 80) (ex : x = nI k) (hk : 1 ≤ k ∧ k ≤ 999) : px_C l G 1 0 0 mX2_appendPrice [.ref a, .int x] (T, I, J, R) (fun v μ' => v = none ∧ ∃ I' : px_I, μ' = (T, I', J, R) ∧ px_pc I0 a (p_num p x) I') := by
  subst ex
  have e1 : (1 : Int32) ≤ nI k := nI_le (a := 1) hk.1 (by omega)
  have ed : nI k / 1 = nI k := by rw [show nI k / 1 = nI k / nI 1 from rfl, pk_div (by omega) (by decide) (by decide), Nat.div_one]
  have e10 : nI k - nI k / 10 * 10 = nI (k % 10) := pk_rem (d := 10) (by omega) (by decide) (by decide)
  have d10 : nI k / 10 = nI (k / 10) := pk_div (d := 10) (by omega) (by decide) (by decide)
  have d100 : nI k / 100 = nI (k / 100) := pk_div (d := 100) (by omega) (by decide) (by decide)
  have r100 : p_rem (nI k / 100) = nI k / 100 := by
    unfold p_rem
    rw [d100, show nI (k / 100) - nI (k / 100) / 10 * 10 = nI (k / 100 % 10) from pk_rem (d := 10) (by omega) (by decide) (by decide), Nat.mod_eq_of_lt (by omega)]
  refine px_met (M := mX2_appendPrice) ([some (.ref a), some (.int (nI k))]) (by decide +kernel) rfl (Nat.le_of_ble_eq_true rfl) rfl ?_
  generalize hQ : (fun v μ' => v = none ∧ ∃ I' : px_I, μ' = (T, I', J, R) ∧ px_pc I0 a (p_num p (nI k)) I' : Option Value → px_M → Prop) = Q
  have S37 : ∀ (p2 : px_p) (I2 : px_I), px_pc I0 a p2 I2 → p2.1 < 80 → p_num p (nI k) = p_app p2 (48 + p_rem (nI k / 1)) → (px_W l G yX2_appendPrice cX2_appendPrice 2 none (px_rm 1 0 0) (px_Fn G Q 0 0) 37 [some (.ref a), some (.int (nI k))] [] 0 0 (T, I2, J, R)) := by
    intro p2 I2 h2 h80 e
    refine px_aload_0 dX2_appendPrice_37 ?_
    refine px_bipush (48) dX2_appendPrice_38 rfl ?_
    refine px_iload_1 dX2_appendPrice_40 ?_
    refine px_bipush (10) dX2_appendPrice_41 rfl ?_
    refine px_irem dX2_appendPrice_43 (by decide) ?_
    refine px_iadd dX2_appendPrice_44 ?_
    refine cd_X2_23 rfl ⟨⟨Nat.le_of_ble_eq_true rfl, Nat.le_of_ble_eq_true rfl⟩, Nat.le_of_ble_eq_true rfl, Nat.le_of_ble_eq_true rfl, Nat.le_of_ble_eq_true rfl⟩ (by first | assumption | exact pa_a hp | exact pa_r hp | exact pa_c hp | exact hr.1 | exact hr.2) dX2_appendPrice_45 (s_X2_append hp h2.1 h80) ?_
    refine px_vret dX2_appendPrice_48 ?_
    subst hQ; refine ⟨rfl, _, rfl, ?_⟩
    rw [e, ed]
    exact pc_app h2
  have S17 : ∀ (p1 : px_p) (I1 : px_I), px_pc I0 a p1 I1 → p1.1 + 2 ≤ 80 → p_num p (nI k) = p_app (if 10 ≤ nI k then p_app p1 (48 + p_rem (nI k / 10)) else p1) (48 + p_rem (nI k / 1)) → (px_W l G yX2_appendPrice cX2_appendPrice 2 none (px_rm 1 0 0) (px_Fn G Q 0 0) 17 [some (.ref a), some (.int (nI k))] [] 0 0 (T, I1, J, R)) := by
    intro p1 I1 h1 h80 e
    by_cases h10 : 10 ≤ nI k
    · rw [if_pos h10] at e
      refine px_iload_1 dX2_appendPrice_17 ?_
      refine px_bipush (10) dX2_appendPrice_18 rfl ?_
      refine px_icmp_lt (tgt := 37) dX2_appendPrice_20 (by decide) (fun h20 => (by first | exact absurd h20 ((Int32.not_lt.mpr h10)) | exact absurd ((Int32.not_lt.mpr h10)) h20)) (fun h20 => ?_)
      refine px_aload_0 dX2_appendPrice_23 ?_
      refine px_bipush (48) dX2_appendPrice_24 rfl ?_
      refine px_iload_1 dX2_appendPrice_26 ?_
      refine px_bipush (10) dX2_appendPrice_27 rfl ?_
      refine px_idiv dX2_appendPrice_29 (by decide) ?_
      refine px_bipush (10) dX2_appendPrice_30 rfl ?_
      refine px_irem dX2_appendPrice_32 (by decide) ?_
      refine px_iadd dX2_appendPrice_33 ?_
      refine cd_X2_23 rfl ⟨⟨Nat.le_of_ble_eq_true rfl, Nat.le_of_ble_eq_true rfl⟩, Nat.le_of_ble_eq_true rfl, Nat.le_of_ble_eq_true rfl, Nat.le_of_ble_eq_true rfl⟩ (by first | assumption | exact pa_a hp | exact pa_r hp | exact pa_c hp | exact hr.1 | exact hr.2) dX2_appendPrice_34 (s_X2_append hp h1.1 (by omega)) ?_
      exact S37 _ _ (pc_app h1) (by show p1.1 + 1 < 80; omega) e
    · rw [if_neg h10] at e
      refine px_iload_1 dX2_appendPrice_17 ?_
      refine px_bipush (10) dX2_appendPrice_18 rfl ?_
      refine px_icmp_lt (tgt := 37) dX2_appendPrice_20 (by decide) (fun h20 => ?_) (fun h20 => (by first | exact absurd ((Int32.not_le.mp h10)) h20 | exact absurd h20 ((Int32.not_le.mp h10))))
      exact S37 _ _ h1 (by omega) e
  have en : p_num p (nI k) = p_app (if 10 ≤ nI k then p_app (if 100 ≤ nI k then p_app p (48 + p_rem (nI k / 100)) else p) (48 + p_rem (nI k / 10)) else (if 100 ≤ nI k then p_app p (48 + p_rem (nI k / 100)) else p)) (48 + p_rem (nI k / 1)) := if_pos e1
  by_cases h100 : 100 ≤ nI k
  · rw [if_pos h100, r100] at en
    refine px_iload_1 dX2_appendPrice_0 ?_
    refine px_bipush (100) dX2_appendPrice_1 rfl ?_
    refine px_icmp_lt (tgt := 17) dX2_appendPrice_3 (by decide) (fun h3 => (by first | exact absurd h3 ((Int32.not_lt.mpr h100)) | exact absurd ((Int32.not_lt.mpr h100)) h3)) (fun h3 => ?_)
    refine px_aload_0 dX2_appendPrice_6 ?_
    refine px_bipush (48) dX2_appendPrice_7 rfl ?_
    refine px_iload_1 dX2_appendPrice_9 ?_
    refine px_bipush (100) dX2_appendPrice_10 rfl ?_
    refine px_idiv dX2_appendPrice_12 (by decide) ?_
    refine px_iadd dX2_appendPrice_13 ?_
    refine cd_X2_23 rfl ⟨⟨Nat.le_of_ble_eq_true rfl, Nat.le_of_ble_eq_true rfl⟩, Nat.le_of_ble_eq_true rfl, Nat.le_of_ble_eq_true rfl, Nat.le_of_ble_eq_true rfl⟩ (by first | assumption | exact pa_a hp | exact pa_r hp | exact pa_c hp | exact hr.1 | exact hr.2) dX2_appendPrice_14 (s_X2_append hp hc.1 (by omega)) ?_
    exact S17 _ _ (pc_app hc) (by show p.1 + 1 + 2 ≤ 80; omega) en
  · rw [if_neg h100] at en
    refine px_iload_1 dX2_appendPrice_0 ?_
    refine px_bipush (100) dX2_appendPrice_1 rfl ?_
    refine px_icmp_lt (tgt := 17) dX2_appendPrice_3 (by decide) (fun h3 => ?_) (fun h3 => (by first | exact absurd ((Int32.not_le.mp h100)) h3 | exact absurd h3 ((Int32.not_le.mp h100))))
    exact S17 _ _ hc (by omega) en
/-! the reader of the class -/
def px_rc (I : px_I) (r : Nat) (I' : px_I) : Prop := (∀ b, b ≠ r → I' b = I b) ∧ ∀ j, j ≠ 1 → j ≠ 6 → I' r j = I r j
theorem cp_congr {I' : px_I} (h : px_cp I a p) (e1 : I' a = I a) (e2 : I' (a + 1) = I (a + 1)) : px_cp I' a p := ⟨by rw [e1]; exact h.1, h.2.1, fun i hi => by rw [e2]; exact h.2.2 i hi⟩
def px_Qb (T : px_T) (I : px_I) (J : px_J) (R : px_R) (r : Nat) (q : Bool × Nat × Int32) : Option Value → px_M → Prop := fun v μ' => v = some (.int (if q.1 = true then 1 else 0)) ∧ ∃ I' : px_I, μ' = (T, I', J, R) ∧ px_rc I r I' ∧ I' r 1 = nI q.2.1 ∧ (q.1 = true → I' r 6 = q.2.2)
theorem s_X3_isDigit (hr : px_re G T R r a) (hp : px_pa G T R a) (hc : px_cp I a p) (hs : I r 1 = nI s) (hs2 : s ≤ 80) : px_K l G 2 mX3_isDigit ([.ref r]) ((T, I, J, R)) (some (.int (if rg (q_ch p s) 48 57 then 1 else 0))) ((T, I, J, R)) := by
  refine px_met (M := mX3_isDigit) ([some (.ref r)]) (by decide +kernel) rfl (Nat.le_of_ble_eq_true rfl) rfl ?_
  by_cases h : rg (q_ch p s) 48 57
  · rw [if_pos h]
    refine px_aload_0 dX3_isDigit_0 ?_
    refine gf_X3_30 rfl dX3_isDigit_1 (by first | assumption | exact pa_a hp | exact pa_r hp | exact pa_c hp | exact hr.1 | exact hr.2) (by first | assumption | exact pa_a hp | exact pa_r hp | exact pa_c hp | exact hr.1 | exact hr.2) ?_
    refine px_aload_0 dX3_isDigit_4 ?_
    refine gf_X3_9 rfl dX3_isDigit_5 (by first | assumption | exact pa_a hp | exact pa_r hp | exact pa_c hp | exact hr.1 | exact hr.2) ?_
    refine cd_X3_47 rfl ⟨⟨Nat.le_of_ble_eq_true rfl, Nat.le_of_ble_eq_true rfl⟩, Nat.le_of_ble_eq_true rfl, Nat.le_of_ble_eq_true rfl, Nat.le_of_ble_eq_true rfl⟩ (by first | assumption | exact pa_a hp | exact pa_r hp | exact pa_c hp | exact hr.1 | exact hr.2) dX3_isDigit_8 (s_X2_codeAt hp hc hs (by omega)) ?_
    refine px_bipush (48) dX3_isDigit_11 rfl ?_
    refine px_bipush (57) dX3_isDigit_13 rfl ?_
    refine cd_X3_66 rfl ⟨⟨Nat.le_of_ble_eq_true rfl, Nat.le_of_ble_eq_true rfl⟩, Nat.le_of_ble_eq_true rfl, Nat.le_of_ble_eq_true rfl, Nat.le_of_ble_eq_true rfl⟩ dX3_isDigit_15 (s_X7_isOutside) ?_
    refine px_ifb_ne (tgt := 25) dX3_isDigit_18 (by decide) (fun h18 => (by first | exact absurd h18 (h) | exact absurd (h) h18)) (fun h18 => ?_)
    refine px_iconst (1) dX3_isDigit_21 rfl ?_
    refine px_goto (tgt := 26) dX3_isDigit_22 (by decide) ?_
    refine px_zret dX3_isDigit_26 (by first | rfl | exact px_nb _) ?_
    exact ⟨rfl, rfl⟩
  · rw [if_neg h]
    refine px_aload_0 dX3_isDigit_0 ?_
    refine gf_X3_30 rfl dX3_isDigit_1 (by first | assumption | exact pa_a hp | exact pa_r hp | exact pa_c hp | exact hr.1 | exact hr.2) (by first | assumption | exact pa_a hp | exact pa_r hp | exact pa_c hp | exact hr.1 | exact hr.2) ?_
    refine px_aload_0 dX3_isDigit_4 ?_
    refine gf_X3_9 rfl dX3_isDigit_5 (by first | assumption | exact pa_a hp | exact pa_r hp | exact pa_c hp | exact hr.1 | exact hr.2) ?_
    refine cd_X3_47 rfl ⟨⟨Nat.le_of_ble_eq_true rfl, Nat.le_of_ble_eq_true rfl⟩, Nat.le_of_ble_eq_true rfl, Nat.le_of_ble_eq_true rfl, Nat.le_of_ble_eq_true rfl⟩ (by first | assumption | exact pa_a hp | exact pa_r hp | exact pa_c hp | exact hr.1 | exact hr.2) dX3_isDigit_8 (s_X2_codeAt hp hc hs (by omega)) ?_
    refine px_bipush (48) dX3_isDigit_11 rfl ?_
    refine px_bipush (57) dX3_isDigit_13 rfl ?_
    refine cd_X3_66 rfl ⟨⟨Nat.le_of_ble_eq_true rfl, Nat.le_of_ble_eq_true rfl⟩, Nat.le_of_ble_eq_true rfl, Nat.le_of_ble_eq_true rfl, Nat.le_of_ble_eq_true rfl⟩ dX3_isDigit_15 (s_X7_isOutside) ?_
    refine px_ifb_ne (tgt := 25) dX3_isDigit_18 (by decide) (fun h18 => ?_) (fun h18 => (by first | exact absurd ((out_rg.mpr h)) h18 | exact absurd h18 ((out_rg.mpr h))))
    refine px_iconst (0) dX3_isDigit_25 rfl ?_
    refine px_zret dX3_isDigit_26 (by first | rfl | exact px_nb _) ?_
    exact ⟨rfl, rfl⟩
theorem s_X3_readDigit (hr : px_re G T R r a) (hp : px_pa G T R a) (hc : px_cp I a p) (hs : I r 1 = nI s) (hs2 : s ≤ p.1) (hra : r ≠ a ∧ r ≠ a + 1) : px_C l G 3 0 0 mX3_readDigit [.ref r] (T, I, J, R) (px_Qb T I J R r (q_dig p s)) := by
  have h80 := hc.2.1
  refine px_met (M := mX3_readDigit) ([some (.ref r)]) (by decide +kernel) rfl (Nat.le_of_ble_eq_true rfl) rfl ?_
  by_cases h : rg (q_ch p s) 48 57
  · have e : q_dig p s = (true, s + 1, q_ch p s - 48) := if_pos h
    rw [e]
    refine px_aload_0 dX3_readDigit_0 ?_
    refine cd_X3_63 rfl ⟨⟨Nat.le_of_ble_eq_true rfl, Nat.le_of_ble_eq_true rfl⟩, Nat.le_of_ble_eq_true rfl, Nat.le_of_ble_eq_true rfl, Nat.le_of_ble_eq_true rfl⟩ (by first | assumption | exact pa_a hp | exact pa_r hp | exact pa_c hp | exact hr.1 | exact hr.2) dX3_readDigit_1 (s_X3_isDigit hr hp hc hs (by omega)) ?_
    refine px_ifb_ne (tgt := 9) dX3_readDigit_4 (by decide) (fun h4 => ?_) (fun h4 => (by first | exact absurd (h) h4 | exact absurd h4 (h)))
    refine px_aload_0 dX3_readDigit_9 ?_
    refine px_aload_0 dX3_readDigit_10 ?_
    refine gf_X3_30 rfl dX3_readDigit_11 (by first | assumption | exact pa_a hp | exact pa_r hp | exact pa_c hp | exact hr.1 | exact hr.2) (by first | assumption | exact pa_a hp | exact pa_r hp | exact pa_c hp | exact hr.1 | exact hr.2) ?_
    refine px_aload_0 dX3_readDigit_14 ?_
    refine gf_X3_9 rfl dX3_readDigit_15 (by first | assumption | exact pa_a hp | exact pa_r hp | exact pa_c hp | exact hr.1 | exact hr.2) ?_
    refine cd_X3_47 rfl ⟨⟨Nat.le_of_ble_eq_true rfl, Nat.le_of_ble_eq_true rfl⟩, Nat.le_of_ble_eq_true rfl, Nat.le_of_ble_eq_true rfl, Nat.le_of_ble_eq_true rfl⟩ (by first | assumption | exact pa_a hp | exact pa_r hp | exact pa_c hp | exact hr.1 | exact hr.2) dX3_readDigit_18 (s_X2_codeAt hp hc hs (by omega)) ?_
    refine px_bipush (48) dX3_readDigit_21 rfl ?_
    refine px_isub dX3_readDigit_23 ?_
    refine pf_X3_27 rfl dX3_readDigit_24 (by first | assumption | exact pa_a hp | exact pa_r hp | exact pa_c hp | exact hr.1 | exact hr.2) ?_
    refine px_aload_0 dX3_readDigit_27 ?_
    refine px_dup dX3_readDigit_28 rfl ?_
    refine gf_X3_9 rfl dX3_readDigit_29 (by first | assumption | exact pa_a hp | exact pa_r hp | exact pa_c hp | exact hr.1 | exact hr.2) ?_
    rw [px_up_nj (by decide), hs]
    refine px_iconst (1) dX3_readDigit_32 rfl ?_
    refine px_iadd dX3_readDigit_33 ?_
    rw [nI_1]
    refine pf_X3_9 rfl dX3_readDigit_34 (by first | assumption | exact pa_a hp | exact pa_r hp | exact pa_c hp | exact hr.1 | exact hr.2) ?_
    refine px_iconst (1) dX3_readDigit_37 rfl ?_
    refine px_zret dX3_readDigit_38 (by first | rfl | exact px_nb _) ?_
    exact ⟨rfl, _, rfl, ⟨fun b hb => by rw [px_up_ne hb, px_up_ne hb], fun j h1 h6 => by rw [px_up_nj h1, px_up_nj h6]⟩, px_up_self _ _ _ _, fun _ => by rw [px_up_nj (by decide), px_up_self]⟩
  · have e : q_dig p s = (false, s, 0) := if_neg h
    rw [e]
    refine px_aload_0 dX3_readDigit_0 ?_
    refine cd_X3_63 rfl ⟨⟨Nat.le_of_ble_eq_true rfl, Nat.le_of_ble_eq_true rfl⟩, Nat.le_of_ble_eq_true rfl, Nat.le_of_ble_eq_true rfl, Nat.le_of_ble_eq_true rfl⟩ (by first | assumption | exact pa_a hp | exact pa_r hp | exact pa_c hp | exact hr.1 | exact hr.2) dX3_readDigit_1 (s_X3_isDigit hr hp hc hs (by omega)) ?_
    refine px_ifb_ne (tgt := 9) dX3_readDigit_4 (by decide) (fun h4 => (by first | exact absurd h4 (h) | exact absurd (h) h4)) (fun h4 => ?_)
    refine px_iconst (0) dX3_readDigit_7 rfl ?_
    refine px_zret dX3_readDigit_8 (by first | rfl | exact px_nb _) ?_
    exact ⟨rfl, _, rfl, ⟨fun b hb => rfl, fun j h1 h6 => rfl⟩, hs, fun z => absurd z Bool.false_ne_true⟩
theorem rc_trans {I1 I2 : px_I} (h1 : px_rc I r I1) (h2 : px_rc I1 r I2) : px_rc I r I2 := ⟨fun b hb => (h2.1 b hb).trans (h1.1 b hb), fun j a b => (h2.2 j a b).trans (h1.2 j a b)⟩
theorem s_X3_readNumber (hr : px_re G T R r a) (hp : px_pa G T R a) (hc : px_cp I a p) (hs : I r 1 = nI s) (hs2 : s ≤ p.1) (hra : r ≠ a ∧ r ≠ a + 1) : px_C l G 4 0 0 mX3_readNumber [.ref r] (T, I, J, R) (px_Qb T I J R r (q_num p s)) := by
  have h80 := hc.2.1
  have hd := s_X3_readDigit (l := l) (J := J) hr hp hc hs hs2 hra
  refine px_met (M := mX3_readNumber) ([some (.ref r), none, none]) (by decide +kernel) rfl (Nat.le_of_ble_eq_true rfl) rfl ?_
  by_cases h : rg (q_ch p s) 48 57
  · have e : q_dig p s = (true, s + 1, q_ch p s - 48) := if_pos h
    have e2 : q_num p s = (true, (q_nl p 3 (s + 1) (q_ch p s - 48)).1, (q_nl p 3 (s + 1) (q_ch p s - 48)).2) := if_pos h
    rw [e] at hd
    rw [e2]
    generalize hq : q_nl p 3 (s + 1) (q_ch p s - 48) = q
    generalize hQ : px_Qb T I J R r (true, q.1, q.2) = Q
    have fin : ∀ (I1 : px_I) s1 v o, px_rc I r I1 → I1 r 1 = nI s1 → (s1, v) = q → (px_W l G yX3_readNumber cX3_readNumber 3 (some .boolean) (px_rm 4 0 0) (px_Fn G Q 0 0) 53 [some (.ref r), some (.int v), o] [] 0 0 (T, I1, J, R)) := by
      intro I1 s1 v o g1 g2 e
      refine px_aload_0 dX3_readNumber_53 ?_
      refine px_iload_1 dX3_readNumber_54 ?_
      refine pf_X3_27 rfl dX3_readNumber_55 (by first | assumption | exact pa_a hp | exact pa_r hp | exact pa_c hp | exact hr.1 | exact hr.2) ?_
      refine px_iconst (1) dX3_readNumber_58 rfl ?_
      refine px_zret dX3_readNumber_59 (by first | rfl | exact px_nb _) ?_
      subst hQ; subst e; exact ⟨rfl, _, rfl, ⟨fun b hb => by rw [px_up_ne hb]; exact g1.1 b hb, fun j a b => by rw [px_up_nj b]; exact g1.2 j a b⟩, by rw [px_up_nj (by decide)]; exact g2, fun _ => px_up_self _ _ _ _⟩
    have LN : ∀ k (I1 : px_I) s1 v, k ≤ 3 → s1 ≤ p.1 → px_rc I r I1 → I1 r 1 = nI s1 → q_nl p k s1 v = q → (px_W l G yX3_readNumber cX3_readNumber 3 (some .boolean) (px_rm 4 0 0) (px_Fn G Q 0 0) 16 [some (.ref r), some (.int v), some (.int (nI (4 - k)))] [] 0 0 (T, I1, J, R)) := by
      intro k
      induction k with
      | zero =>
        intro I1 s1 v hk hl g1 g2 hq
        rw [q_nl] at hq
        refine px_iload_2 dX3_readNumber_16 ?_
        refine px_iconst (4) dX3_readNumber_17 rfl ?_
        refine px_icmp_ge (tgt := 53) dX3_readNumber_18 (by decide) (fun h18 => ?_) (fun h18 => (by first | exact absurd ((by decide)) h18 | exact absurd h18 ((by decide))))
        exact fin _ _ _ _ g1 g2 hq
      | succ k ih =>
        intro I1 s1 v hk hl g1 g2 hq
        have hnk : ¬ (4 : Int32) ≤ nI (4 - (k + 1)) := nI_ge (b := 4) (by omega) (by omega)
        have hc1 : px_cp I1 a p := cp_congr hc (g1.1 _ (Ne.symm hra.1)) (g1.1 _ (Ne.symm hra.2))
        by_cases hv : 0 < v
        · by_cases hr' : rg (q_ch p s1) 48 57
          · have hd2 := s_X3_readDigit (l := l) (J := J) hr hp hc1 g2 hl hra
            rw [show q_dig p s1 = (true, s1 + 1, q_ch p s1 - 48) from if_pos hr'] at hd2
            rw [q_nl, if_pos ⟨hv, hr'⟩] at hq
            refine px_iload_2 dX3_readNumber_16 ?_
            refine px_iconst (4) dX3_readNumber_17 rfl ?_
            refine px_icmp_ge (tgt := 53) dX3_readNumber_18 (by decide) (fun h18 => (by first | exact absurd h18 (hnk) | exact absurd (hnk) h18)) (fun h18 => ?_)
            refine px_iload_1 dX3_readNumber_21 ?_
            refine px_if_le (tgt := 53) dX3_readNumber_22 (by decide) (fun h22 => (by first | exact absurd h22 ((Int32.not_le.mpr hv)) | exact absurd ((Int32.not_le.mpr hv)) h22)) (fun h22 => ?_)
            refine px_aload_0 dX3_readNumber_25 ?_
            refine cd_X3_63 rfl ⟨⟨Nat.le_of_ble_eq_true rfl, Nat.le_of_ble_eq_true rfl⟩, Nat.le_of_ble_eq_true rfl, Nat.le_of_ble_eq_true rfl, Nat.le_of_ble_eq_true rfl⟩ (by first | assumption | exact pa_a hp | exact pa_r hp | exact pa_c hp | exact hr.1 | exact hr.2) dX3_readNumber_26 (s_X3_isDigit hr hp hc1 g2 (by omega)) ?_
            refine px_ifb_eq (tgt := 53) dX3_readNumber_29 (by decide) (fun h29 => (by first | exact absurd h29 (hr') | exact absurd (hr') h29)) (fun h29 => ?_)
            refine px_aload_0 dX3_readNumber_32 ?_
            refine cg_X3_60 rfl ⟨⟨Nat.le_of_ble_eq_true rfl, Nat.le_of_ble_eq_true rfl⟩, Nat.le_of_ble_eq_true rfl, Nat.le_of_ble_eq_true rfl, Nat.le_of_ble_eq_true rfl⟩ (by first | assumption | exact pa_a hp | exact pa_r hp | exact pa_c hp | exact hr.1 | exact hr.2) dX3_readNumber_33 (hd2) ?_
            rintro u μ' ⟨rfl, I2, rfl, k1, k2, k3⟩
            refine px_pop dX3_readNumber_36 rfl ?_
            refine px_bipush (10) dX3_readNumber_37 rfl ?_
            refine px_iload_1 dX3_readNumber_39 ?_
            refine px_imul dX3_readNumber_40 ?_
            refine px_aload_0 dX3_readNumber_41 ?_
            refine gf_X3_27 rfl dX3_readNumber_42 (by first | assumption | exact pa_a hp | exact pa_r hp | exact pa_c hp | exact hr.1 | exact hr.2) ?_
            rw [k3 rfl]
            refine px_iadd dX3_readNumber_45 ?_
            refine px_istore_1 dX3_readNumber_46 rfl ?_
            refine px_iinc_2 dX3_readNumber_47 rfl ?_
            refine px_goto (tgt := 16) dX3_readNumber_50 (by decide) ?_
            rw [inc_nI, show 4 - (k + 1) + 1 = 4 - k by omega]; exact ih _ _ _ (by omega) (ch_in rg_48 hr').1 (rc_trans g1 k1) k2 hq
          · rw [q_nl, if_neg (fun z => hr' z.2)] at hq
            refine px_iload_2 dX3_readNumber_16 ?_
            refine px_iconst (4) dX3_readNumber_17 rfl ?_
            refine px_icmp_ge (tgt := 53) dX3_readNumber_18 (by decide) (fun h18 => (by first | exact absurd h18 (hnk) | exact absurd (hnk) h18)) (fun h18 => ?_)
            refine px_iload_1 dX3_readNumber_21 ?_
            refine px_if_le (tgt := 53) dX3_readNumber_22 (by decide) (fun h22 => (by first | exact absurd h22 ((Int32.not_le.mpr hv)) | exact absurd ((Int32.not_le.mpr hv)) h22)) (fun h22 => ?_)
            refine px_aload_0 dX3_readNumber_25 ?_
            refine cd_X3_63 rfl ⟨⟨Nat.le_of_ble_eq_true rfl, Nat.le_of_ble_eq_true rfl⟩, Nat.le_of_ble_eq_true rfl, Nat.le_of_ble_eq_true rfl, Nat.le_of_ble_eq_true rfl⟩ (by first | assumption | exact pa_a hp | exact pa_r hp | exact pa_c hp | exact hr.1 | exact hr.2) dX3_readNumber_26 (s_X3_isDigit hr hp hc1 g2 (by omega)) ?_
            refine px_ifb_eq (tgt := 53) dX3_readNumber_29 (by decide) (fun h29 => ?_) (fun h29 => (by first | exact absurd (hr') h29 | exact absurd h29 (hr')))
            exact fin _ _ _ _ g1 g2 hq
        · rw [q_nl, if_neg (fun z => hv z.1)] at hq
          refine px_iload_2 dX3_readNumber_16 ?_
          refine px_iconst (4) dX3_readNumber_17 rfl ?_
          refine px_icmp_ge (tgt := 53) dX3_readNumber_18 (by decide) (fun h18 => (by first | exact absurd h18 (hnk) | exact absurd (hnk) h18)) (fun h18 => ?_)
          refine px_iload_1 dX3_readNumber_21 ?_
          refine px_if_le (tgt := 53) dX3_readNumber_22 (by decide) (fun h22 => ?_) (fun h22 => (by first | exact absurd ((Int32.not_lt.mp hv)) h22 | exact absurd h22 ((Int32.not_lt.mp hv))))
          exact fin _ _ _ _ g1 g2 hq
    refine px_aload_0 dX3_readNumber_0 ?_
    refine cg_X3_60 rfl ⟨⟨Nat.le_of_ble_eq_true rfl, Nat.le_of_ble_eq_true rfl⟩, Nat.le_of_ble_eq_true rfl, Nat.le_of_ble_eq_true rfl, Nat.le_of_ble_eq_true rfl⟩ (by first | assumption | exact pa_a hp | exact pa_r hp | exact pa_c hp | exact hr.1 | exact hr.2) dX3_readNumber_1 (hd) ?_
    rintro u μ' ⟨rfl, I2, rfl, k1, k2, k3⟩
    refine px_ifb_ne (tgt := 9) dX3_readNumber_4 (by decide) (fun h4 => ?_) (fun h4 => (by first | exact absurd (rfl) h4 | exact absurd h4 (rfl)))
    refine px_aload_0 dX3_readNumber_9 ?_
    refine gf_X3_27 rfl dX3_readNumber_10 (by first | assumption | exact pa_a hp | exact pa_r hp | exact pa_c hp | exact hr.1 | exact hr.2) ?_
    rw [k3 rfl]
    refine px_istore_1 dX3_readNumber_13 rfl ?_
    refine px_iconst (1) dX3_readNumber_14 rfl ?_
    refine px_istore_2 dX3_readNumber_15 rfl ?_
    exact LN 3 _ _ _ (Nat.le_refl _) (ch_in rg_48 h).1 k1 k2 hq
  · have e : q_dig p s = (false, s, 0) := if_neg h
    have e2 : q_num p s = (false, s, 0) := if_neg h
    rw [e] at hd
    rw [e2]
    refine px_aload_0 dX3_readNumber_0 ?_
    refine cg_X3_60 rfl ⟨⟨Nat.le_of_ble_eq_true rfl, Nat.le_of_ble_eq_true rfl⟩, Nat.le_of_ble_eq_true rfl, Nat.le_of_ble_eq_true rfl, Nat.le_of_ble_eq_true rfl⟩ (by first | assumption | exact pa_a hp | exact pa_r hp | exact pa_c hp | exact hr.1 | exact hr.2) dX3_readNumber_1 (hd) ?_
    rintro u μ' ⟨rfl, I2, rfl, k1, k2, k3⟩
    refine px_ifb_ne (tgt := 9) dX3_readNumber_4 (by decide) (fun h4 => (by first | exact absurd h4 (Bool.false_ne_true) | exact absurd (Bool.false_ne_true) h4)) (fun h4 => ?_)
    refine px_iconst (0) dX3_readNumber_7 rfl ?_
    refine px_zret dX3_readNumber_8 (by first | rfl | exact px_nb _) ?_
    exact ⟨rfl, _, rfl, k1, k2, fun z => absurd z Bool.false_ne_true⟩
theorem s_X3_readSign {c : Int32} (hr : px_re G T R r a) (hp : px_pa G T R a) (hc : px_cp I a p) (hs : I r 1 = nI s) (hs2 : s ≤ 80) : px_K l G 2 mX3_readSign ([.ref r, .int c]) ((T, I, J, R)) (some (.int (if q_ch p s = c then 1 else 0))) ((T, (if q_ch p s = c then px_up I r 1 (nI (s + 1)) else I), J, R)) := by
  refine px_met (M := mX3_readSign) ([some (.ref r), some (.int c)]) (by decide +kernel) rfl (Nat.le_of_ble_eq_true rfl) rfl ?_
  by_cases h : q_ch p s = c
  · rw [if_pos h, if_pos h]
    refine px_aload_0 dX3_readSign_0 ?_
    refine gf_X3_30 rfl dX3_readSign_1 (by first | assumption | exact pa_a hp | exact pa_r hp | exact pa_c hp | exact hr.1 | exact hr.2) (by first | assumption | exact pa_a hp | exact pa_r hp | exact pa_c hp | exact hr.1 | exact hr.2) ?_
    refine px_aload_0 dX3_readSign_4 ?_
    refine gf_X3_9 rfl dX3_readSign_5 (by first | assumption | exact pa_a hp | exact pa_r hp | exact pa_c hp | exact hr.1 | exact hr.2) ?_
    refine cd_X3_47 rfl ⟨⟨Nat.le_of_ble_eq_true rfl, Nat.le_of_ble_eq_true rfl⟩, Nat.le_of_ble_eq_true rfl, Nat.le_of_ble_eq_true rfl, Nat.le_of_ble_eq_true rfl⟩ (by first | assumption | exact pa_a hp | exact pa_r hp | exact pa_c hp | exact hr.1 | exact hr.2) dX3_readSign_8 (s_X2_codeAt hp hc hs (by omega)) ?_
    refine px_iload_1 dX3_readSign_11 ?_
    refine px_icmp_eq (tgt := 17) dX3_readSign_12 (by decide) (fun h12 => ?_) (fun h12 => (by first | exact absurd (h) h12 | exact absurd h12 (h)))
    refine px_aload_0 dX3_readSign_17 ?_
    refine px_dup dX3_readSign_18 rfl ?_
    refine gf_X3_9 rfl dX3_readSign_19 (by first | assumption | exact pa_a hp | exact pa_r hp | exact pa_c hp | exact hr.1 | exact hr.2) ?_
    rw [hs]
    refine px_iconst (1) dX3_readSign_22 rfl ?_
    refine px_iadd dX3_readSign_23 ?_
    rw [nI_1]
    refine pf_X3_9 rfl dX3_readSign_24 (by first | assumption | exact pa_a hp | exact pa_r hp | exact pa_c hp | exact hr.1 | exact hr.2) ?_
    refine px_iconst (1) dX3_readSign_27 rfl ?_
    refine px_zret dX3_readSign_28 (by first | rfl | exact px_nb _) ?_
    exact ⟨rfl, rfl⟩
  · rw [if_neg h, if_neg h]
    refine px_aload_0 dX3_readSign_0 ?_
    refine gf_X3_30 rfl dX3_readSign_1 (by first | assumption | exact pa_a hp | exact pa_r hp | exact pa_c hp | exact hr.1 | exact hr.2) (by first | assumption | exact pa_a hp | exact pa_r hp | exact pa_c hp | exact hr.1 | exact hr.2) ?_
    refine px_aload_0 dX3_readSign_4 ?_
    refine gf_X3_9 rfl dX3_readSign_5 (by first | assumption | exact pa_a hp | exact pa_r hp | exact pa_c hp | exact hr.1 | exact hr.2) ?_
    refine cd_X3_47 rfl ⟨⟨Nat.le_of_ble_eq_true rfl, Nat.le_of_ble_eq_true rfl⟩, Nat.le_of_ble_eq_true rfl, Nat.le_of_ble_eq_true rfl, Nat.le_of_ble_eq_true rfl⟩ (by first | assumption | exact pa_a hp | exact pa_r hp | exact pa_c hp | exact hr.1 | exact hr.2) dX3_readSign_8 (s_X2_codeAt hp hc hs (by omega)) ?_
    refine px_iload_1 dX3_readSign_11 ?_
    refine px_icmp_eq (tgt := 17) dX3_readSign_12 (by decide) (fun h12 => (by first | exact absurd h12 (h) | exact absurd (h) h12)) (fun h12 => ?_)
    refine px_iconst (0) dX3_readSign_15 rfl ?_
    refine px_zret dX3_readSign_16 (by first | rfl | exact px_nb _) ?_
    exact ⟨rfl, rfl⟩
def f_mark (c : Int32) : Int32 := if q_let c then f_btw c else 0
theorem s_X3_markOf {c : Int32} : px_K l G 0 mX3_markOf ([.int c]) (μ) (some (.int (f_mark c))) (μ) := by
  refine px_met (M := mX3_markOf) ([some (.int c)]) (by decide +kernel) rfl (Nat.le_of_ble_eq_true rfl) rfl ?_
  by_cases hr : rg c 98 115
  · obtain ⟨e, h1, h2⟩ := rg_ix (a := 98) (b := 115) (by decide) (by decide) hr
    generalize ix c = k at *
    rcases (by omega : k = 98 ∨ k = 99 ∨ k = 100 ∨ k = 101 ∨ k = 102 ∨ k = 103 ∨ k = 104 ∨ k = 105 ∨ k = 106 ∨ k = 107 ∨ k = 108 ∨ k = 109 ∨ k = 110 ∨ k = 111 ∨ k = 112 ∨ k = 113 ∨ k = 114 ∨ k = 115) with rfl | rfl | rfl | rfl | rfl | rfl | rfl | rfl | rfl | rfl | rfl | rfl | rfl | rfl | rfl | rfl | rfl | rfl
    · rw [e, show f_mark (nI 98) = 42 by decide]
      refine px_iload_0 dX3_markOf_0 ?_
      refine px_tableIn (off := 87) (tgt := 88) dX3_markOf_1 (by decide) (by decide) rfl (by decide) ?_
      refine px_bipush (42) dX3_markOf_88 rfl ?_
      refine px_iret dX3_markOf_90 ?_
      exact ⟨rfl, rfl⟩
    · rw [e, show f_mark (nI 99) = 42 by decide]
      refine px_iload_0 dX3_markOf_0 ?_
      refine px_tableIn (off := 87) (tgt := 88) dX3_markOf_1 (by decide) (by decide) rfl (by decide) ?_
      refine px_bipush (42) dX3_markOf_88 rfl ?_
      refine px_iret dX3_markOf_90 ?_
      exact ⟨rfl, rfl⟩
    · rw [e, show f_mark (nI 100) = 0 by decide]
      refine px_iload_0 dX3_markOf_0 ?_
      refine px_tableIn (off := 96) (tgt := 97) dX3_markOf_1 (by decide) (by decide) rfl (by decide) ?_
      refine px_iconst (0) dX3_markOf_97 rfl ?_
      refine px_iret dX3_markOf_98 ?_
      exact ⟨rfl, rfl⟩
    · rw [e, show f_mark (nI 101) = 0 by decide]
      refine px_iload_0 dX3_markOf_0 ?_
      refine px_tableIn (off := 96) (tgt := 97) dX3_markOf_1 (by decide) (by decide) rfl (by decide) ?_
      refine px_iconst (0) dX3_markOf_97 rfl ?_
      refine px_iret dX3_markOf_98 ?_
      exact ⟨rfl, rfl⟩
    · rw [e, show f_mark (nI 102) = 0 by decide]
      refine px_iload_0 dX3_markOf_0 ?_
      refine px_tableIn (off := 96) (tgt := 97) dX3_markOf_1 (by decide) (by decide) rfl (by decide) ?_
      refine px_iconst (0) dX3_markOf_97 rfl ?_
      refine px_iret dX3_markOf_98 ?_
      exact ⟨rfl, rfl⟩
    · rw [e, show f_mark (nI 103) = 58 by decide]
      refine px_iload_0 dX3_markOf_0 ?_
      refine px_tableIn (off := 93) (tgt := 94) dX3_markOf_1 (by decide) (by decide) rfl (by decide) ?_
      refine px_bipush (58) dX3_markOf_94 rfl ?_
      refine px_iret dX3_markOf_96 ?_
      exact ⟨rfl, rfl⟩
    · rw [e, show f_mark (nI 104) = 58 by decide]
      refine px_iload_0 dX3_markOf_0 ?_
      refine px_tableIn (off := 93) (tgt := 94) dX3_markOf_1 (by decide) (by decide) rfl (by decide) ?_
      refine px_bipush (58) dX3_markOf_94 rfl ?_
      refine px_iret dX3_markOf_96 ?_
      exact ⟨rfl, rfl⟩
    · rw [e, show f_mark (nI 105) = 0 by decide]
      refine px_iload_0 dX3_markOf_0 ?_
      refine px_tableIn (off := 96) (tgt := 97) dX3_markOf_1 (by decide) (by decide) rfl (by decide) ?_
      refine px_iconst (0) dX3_markOf_97 rfl ?_
      refine px_iret dX3_markOf_98 ?_
      exact ⟨rfl, rfl⟩
    · rw [e, show f_mark (nI 106) = 0 by decide]
      refine px_iload_0 dX3_markOf_0 ?_
      refine px_tableIn (off := 96) (tgt := 97) dX3_markOf_1 (by decide) (by decide) rfl (by decide) ?_
      refine px_iconst (0) dX3_markOf_97 rfl ?_
      refine px_iret dX3_markOf_98 ?_
      exact ⟨rfl, rfl⟩
    · rw [e, show f_mark (nI 107) = 0 by decide]
      refine px_iload_0 dX3_markOf_0 ?_
      refine px_tableIn (off := 96) (tgt := 97) dX3_markOf_1 (by decide) (by decide) rfl (by decide) ?_
      refine px_iconst (0) dX3_markOf_97 rfl ?_
      refine px_iret dX3_markOf_98 ?_
      exact ⟨rfl, rfl⟩
    · rw [e, show f_mark (nI 108) = 0 by decide]
      refine px_iload_0 dX3_markOf_0 ?_
      refine px_tableIn (off := 96) (tgt := 97) dX3_markOf_1 (by decide) (by decide) rfl (by decide) ?_
      refine px_iconst (0) dX3_markOf_97 rfl ?_
      refine px_iret dX3_markOf_98 ?_
      exact ⟨rfl, rfl⟩
    · rw [e, show f_mark (nI 109) = 0 by decide]
      refine px_iload_0 dX3_markOf_0 ?_
      refine px_tableIn (off := 96) (tgt := 97) dX3_markOf_1 (by decide) (by decide) rfl (by decide) ?_
      refine px_iconst (0) dX3_markOf_97 rfl ?_
      refine px_iret dX3_markOf_98 ?_
      exact ⟨rfl, rfl⟩
    · rw [e, show f_mark (nI 110) = 0 by decide]
      refine px_iload_0 dX3_markOf_0 ?_
      refine px_tableIn (off := 96) (tgt := 97) dX3_markOf_1 (by decide) (by decide) rfl (by decide) ?_
      refine px_iconst (0) dX3_markOf_97 rfl ?_
      refine px_iret dX3_markOf_98 ?_
      exact ⟨rfl, rfl⟩
    · rw [e, show f_mark (nI 111) = 58 by decide]
      refine px_iload_0 dX3_markOf_0 ?_
      refine px_tableIn (off := 93) (tgt := 94) dX3_markOf_1 (by decide) (by decide) rfl (by decide) ?_
      refine px_bipush (58) dX3_markOf_94 rfl ?_
      refine px_iret dX3_markOf_96 ?_
      exact ⟨rfl, rfl⟩
    · rw [e, show f_mark (nI 112) = 61 by decide]
      refine px_iload_0 dX3_markOf_0 ?_
      refine px_tableIn (off := 90) (tgt := 91) dX3_markOf_1 (by decide) (by decide) rfl (by decide) ?_
      refine px_bipush (61) dX3_markOf_91 rfl ?_
      refine px_iret dX3_markOf_93 ?_
      exact ⟨rfl, rfl⟩
    · rw [e, show f_mark (nI 113) = 0 by decide]
      refine px_iload_0 dX3_markOf_0 ?_
      refine px_tableIn (off := 96) (tgt := 97) dX3_markOf_1 (by decide) (by decide) rfl (by decide) ?_
      refine px_iconst (0) dX3_markOf_97 rfl ?_
      refine px_iret dX3_markOf_98 ?_
      exact ⟨rfl, rfl⟩
    · rw [e, show f_mark (nI 114) = 42 by decide]
      refine px_iload_0 dX3_markOf_0 ?_
      refine px_tableIn (off := 87) (tgt := 88) dX3_markOf_1 (by decide) (by decide) rfl (by decide) ?_
      refine px_bipush (42) dX3_markOf_88 rfl ?_
      refine px_iret dX3_markOf_90 ?_
      exact ⟨rfl, rfl⟩
    · rw [e, show f_mark (nI 115) = 42 by decide]
      refine px_iload_0 dX3_markOf_0 ?_
      refine px_tableIn (off := 87) (tgt := 88) dX3_markOf_1 (by decide) (by decide) rfl (by decide) ?_
      refine px_bipush (42) dX3_markOf_88 rfl ?_
      refine px_iret dX3_markOf_90 ?_
      exact ⟨rfl, rfl⟩
  · have hl : ¬ q_let c := by
      rintro (h | h | h | h | h | h | h | h) <;> (subst h; exact absurd hr (by decide))
    rw [show f_mark c = 0 from if_neg hl]
    rw [rg_ti, show (98 : Int32).toInt = 98 from rfl, show (115 : Int32).toInt = 115 from rfl] at hr
    refine px_iload_0 dX3_markOf_0 ?_
    refine px_tableOut (tgt := 97) dX3_markOf_1 (by omega) (by decide) ?_
    refine px_iconst (0) dX3_markOf_97 rfl ?_
    refine px_iret dX3_markOf_98 ?_
    exact ⟨rfl, rfl⟩
def px_rs (I : px_I) (r : Nat) (I' : px_I) : Prop := (∀ b, b ≠ r → I' b = I b) ∧ I' r 0 = I r 0 ∧ I' r 2 = I r 2
theorem s_X3_readSubject {c : Int32} (hr : px_re G T R r a) (hp : px_pa G T R a) (hc : px_cp I a p) (hs : I r 1 = nI s) (hs2 : s ≤ p.1) (hra : r ≠ a ∧ r ≠ a + 1) (h2 : I r 2 = c) : px_C l G 5 0 0 mX3_readSubject [.ref r] (T, I, J, R) (fun v μ' => ∃ I' : px_I, μ' = (T, I', J, R) ∧ (∀ b, b ≠ r → I' b = I b) ∧ I' r 2 = c ∧ (if (q_fst p c s).1 = false then v = some (.int 0) ∧ I' r 1 = nI (q_fst p c s).2.1 else v = some (.int (if (q_snd p c (q_fst p c s).2.1).1 = true then 1 else 0)) ∧ I' r 1 = nI (q_snd p c (q_fst p c s).2.1).2.1 ∧ ((q_snd p c (q_fst p c s).2.1).1 = true → I' r 3 = (q_fst p c s).2.2 ∧ (c = 114 → I' r 4 = (q_snd p c (q_fst p c s).2.1).2.2)))) := by
  have h80 := hc.2.1
  refine px_met (M := mX3_readSubject) ([some (.ref r)]) (by decide +kernel) rfl (Nat.le_of_ble_eq_true rfl) rfl ?_
  generalize hQ : (fun v μ' => ∃ I' : px_I, μ' = (T, I', J, R) ∧ (∀ b, b ≠ r → I' b = I b) ∧ I' r 2 = c ∧ (if (q_fst p c s).1 = false then v = some (.int 0) ∧ I' r 1 = nI (q_fst p c s).2.1 else v = some (.int (if (q_snd p c (q_fst p c s).2.1).1 = true then 1 else 0)) ∧ I' r 1 = nI (q_snd p c (q_fst p c s).2.1).2.1 ∧ ((q_snd p c (q_fst p c s).2.1).1 = true → I' r 3 = (q_fst p c s).2.2 ∧ (c = 114 → I' r 4 = (q_snd p c (q_fst p c s).2.1).2.2))) : Option Value → px_M → Prop) = Q
  have hle := fst_le (p := p) (c := c) hs2
  -- behind the first
  have S28 : ∀ I1 : px_I, px_rc I r I1 → (q_fst p c s).1 = true → I1 r 1 = nI (q_fst p c s).2.1 → I1 r 6 = (q_fst p c s).2.2 → (px_W l G yX3_readSubject cX3_readSubject 1 (some .boolean) (px_rm 5 0 0) (px_Fn G Q 0 0) 28 [some (.ref r)] [] 0 0 (T, I1, J, R)) := by
    intro I1 g1 g2 g3 g6
    rw [g2] at hQ
    simp only [show (true = false) = False from by simp, if_false] at hQ
    have hk : I1 r 2 = c := by rw [g1.2 2 (by decide) (by decide)]; exact h2
    by_cases h114 : c = 114
    · have hcc : px_cp (px_up I1 r 3 (I1 r 6)) a p := cp_congr hc (by rw [px_up_ne (Ne.symm hra.1)]; exact g1.1 _ (Ne.symm hra.1)) (by rw [px_up_ne (Ne.symm hra.2)]; exact g1.1 _ (Ne.symm hra.2))
      have hd := s_X3_readDigit (l := l) (J := J) hr hp hcc (by rw [px_up_nj (by decide)]; exact g3) hle hra
      have e : q_snd p c (q_fst p c s).2.1 = q_dig p (q_fst p c s).2.1 := if_pos h114
      rw [e] at hQ
      cases ho : (q_dig p (q_fst p c s).2.1).1
      · rw [ho] at hQ
        unfold px_Qb at hd
        rw [ho] at hd
        refine px_aload_0 dX3_readSubject_28 ?_
        refine px_aload_0 dX3_readSubject_29 ?_
        refine gf_X3_27 rfl dX3_readSubject_30 (by first | assumption | exact pa_a hp | exact pa_r hp | exact pa_c hp | exact hr.1 | exact hr.2) ?_
        refine pf_X3_18 rfl dX3_readSubject_33 (by first | assumption | exact pa_a hp | exact pa_r hp | exact pa_c hp | exact hr.1 | exact hr.2) ?_
        refine px_aload_0 dX3_readSubject_36 ?_
        refine gf_X3_15 rfl dX3_readSubject_37 (by first | assumption | exact pa_a hp | exact pa_r hp | exact pa_c hp | exact hr.1 | exact hr.2) ?_
        rw [px_up_nj (by decide), hk]
        refine px_bipush (114) dX3_readSubject_40 rfl ?_
        refine px_icmp_eq (tgt := 47) dX3_readSubject_42 (by decide) (fun h42 => ?_) (fun h42 => (by first | exact absurd (h114) h42 | exact absurd h42 (h114)))
        refine px_aload_0 dX3_readSubject_47 ?_
        refine cg_X3_60 rfl ⟨⟨Nat.le_of_ble_eq_true rfl, Nat.le_of_ble_eq_true rfl⟩, Nat.le_of_ble_eq_true rfl, Nat.le_of_ble_eq_true rfl, Nat.le_of_ble_eq_true rfl⟩ (by first | assumption | exact pa_a hp | exact pa_r hp | exact pa_c hp | exact hr.1 | exact hr.2) dX3_readSubject_48 (hd) ?_
        rintro u μ' ⟨rfl, I2, rfl, k1, k2, k3⟩
        refine px_ifb_ne (tgt := 56) dX3_readSubject_51 (by decide) (fun h51 => (by first | exact absurd h51 ((by decide)) | exact absurd ((by decide)) h51)) (fun h51 => ?_)
        refine px_iconst (0) dX3_readSubject_54 rfl ?_
        refine px_zret dX3_readSubject_55 (by first | rfl | exact px_nb _) ?_
        subst hQ; exact ⟨_, rfl, fun b hb => by rw [k1.1 b hb, px_up_ne hb]; exact g1.1 b hb, by rw [k1.2 2 (by decide) (by decide), px_up_nj (by decide)]; exact hk, rfl, k2, fun z => absurd z Bool.false_ne_true⟩
      · rw [ho] at hQ
        unfold px_Qb at hd
        rw [ho] at hd
        refine px_aload_0 dX3_readSubject_28 ?_
        refine px_aload_0 dX3_readSubject_29 ?_
        refine gf_X3_27 rfl dX3_readSubject_30 (by first | assumption | exact pa_a hp | exact pa_r hp | exact pa_c hp | exact hr.1 | exact hr.2) ?_
        refine pf_X3_18 rfl dX3_readSubject_33 (by first | assumption | exact pa_a hp | exact pa_r hp | exact pa_c hp | exact hr.1 | exact hr.2) ?_
        refine px_aload_0 dX3_readSubject_36 ?_
        refine gf_X3_15 rfl dX3_readSubject_37 (by first | assumption | exact pa_a hp | exact pa_r hp | exact pa_c hp | exact hr.1 | exact hr.2) ?_
        rw [px_up_nj (by decide), hk]
        refine px_bipush (114) dX3_readSubject_40 rfl ?_
        refine px_icmp_eq (tgt := 47) dX3_readSubject_42 (by decide) (fun h42 => ?_) (fun h42 => (by first | exact absurd (h114) h42 | exact absurd h42 (h114)))
        refine px_aload_0 dX3_readSubject_47 ?_
        refine cg_X3_60 rfl ⟨⟨Nat.le_of_ble_eq_true rfl, Nat.le_of_ble_eq_true rfl⟩, Nat.le_of_ble_eq_true rfl, Nat.le_of_ble_eq_true rfl, Nat.le_of_ble_eq_true rfl⟩ (by first | assumption | exact pa_a hp | exact pa_r hp | exact pa_c hp | exact hr.1 | exact hr.2) dX3_readSubject_48 (hd) ?_
        rintro u μ' ⟨rfl, I2, rfl, k1, k2, k3⟩
        refine px_ifb_ne (tgt := 56) dX3_readSubject_51 (by decide) (fun h51 => ?_) (fun h51 => (by first | exact absurd (rfl) h51 | exact absurd h51 (rfl)))
        refine px_aload_0 dX3_readSubject_56 ?_
        refine px_aload_0 dX3_readSubject_57 ?_
        refine gf_X3_27 rfl dX3_readSubject_58 (by first | assumption | exact pa_a hp | exact pa_r hp | exact pa_c hp | exact hr.1 | exact hr.2) ?_
        refine pf_X3_21 rfl dX3_readSubject_61 (by first | assumption | exact pa_a hp | exact pa_r hp | exact pa_c hp | exact hr.1 | exact hr.2) ?_
        refine px_iconst (1) dX3_readSubject_64 rfl ?_
        refine px_zret dX3_readSubject_65 (by first | rfl | exact px_nb _) ?_
        subst hQ; exact ⟨_, rfl, fun b hb => by rw [px_up_ne hb, k1.1 b hb, px_up_ne hb]; exact g1.1 b hb, by rw [px_up_nj (by decide), k1.2 2 (by decide) (by decide), px_up_nj (by decide)]; exact hk, rfl, by rw [px_up_nj (by decide)]; exact k2, fun _ => ⟨by rw [px_up_nj (by decide), k1.2 3 (by decide) (by decide), px_up_self]; exact g6, fun _ => by rw [px_up_self]; exact k3 rfl⟩⟩
    · have e : q_snd p c (q_fst p c s).2.1 = (true, (q_fst p c s).2.1, 0) := if_neg h114
      rw [e] at hQ
      refine px_aload_0 dX3_readSubject_28 ?_
      refine px_aload_0 dX3_readSubject_29 ?_
      refine gf_X3_27 rfl dX3_readSubject_30 (by first | assumption | exact pa_a hp | exact pa_r hp | exact pa_c hp | exact hr.1 | exact hr.2) ?_
      refine pf_X3_18 rfl dX3_readSubject_33 (by first | assumption | exact pa_a hp | exact pa_r hp | exact pa_c hp | exact hr.1 | exact hr.2) ?_
      refine px_aload_0 dX3_readSubject_36 ?_
      refine gf_X3_15 rfl dX3_readSubject_37 (by first | assumption | exact pa_a hp | exact pa_r hp | exact pa_c hp | exact hr.1 | exact hr.2) ?_
      rw [px_up_nj (by decide), hk]
      refine px_bipush (114) dX3_readSubject_40 rfl ?_
      refine px_icmp_eq (tgt := 47) dX3_readSubject_42 (by decide) (fun h42 => (by first | exact absurd h42 (h114) | exact absurd (h114) h42)) (fun h42 => ?_)
      refine px_iconst (1) dX3_readSubject_45 rfl ?_
      refine px_zret dX3_readSubject_46 (by first | rfl | exact px_nb _) ?_
      subst hQ; exact ⟨_, rfl, fun b hb => by rw [px_up_ne hb]; exact g1.1 b hb, by rw [px_up_nj (by decide)]; exact hk, rfl, by rw [px_up_nj (by decide)]; exact g3, fun _ => ⟨by rw [px_up_self]; exact g6, fun z => absurd z h114⟩⟩
  have F : ∀ I1 : px_I, px_rc I r I1 → (q_fst p c s).1 = false → I1 r 1 = nI (q_fst p c s).2.1 → Q (some (.int 0)) (T, I1, J, R) := by
    intro I1 g1 g2 g3
    subst hQ
    refine ⟨I1, rfl, g1.1, by rw [g1.2 2 (by decide) (by decide)]; exact h2, ?_⟩
    rw [if_pos g2]
    exact ⟨rfl, g3⟩
  by_cases h103 : c = 103
  · have e : q_fst p c s = q_num p s := if_pos h103
    have hd := s_X3_readNumber (l := l) (J := J) hr hp hc hs hs2 hra
    rw [← e] at hd
    cases ho : (q_fst p c s).1
    · unfold px_Qb at hd
      rw [ho] at hd
      refine px_aload_0 dX3_readSubject_0 ?_
      refine gf_X3_15 rfl dX3_readSubject_1 (by first | assumption | exact pa_a hp | exact pa_r hp | exact pa_c hp | exact hr.1 | exact hr.2) ?_
      rw [h2]
      refine px_bipush (103) dX3_readSubject_4 rfl ?_
      refine px_icmp_ne (tgt := 19) dX3_readSubject_6 (by decide) (fun h6 => (by first | exact absurd h6 (h103) | exact absurd (h103) h6)) (fun h6 => ?_)
      refine px_aload_0 dX3_readSubject_9 ?_
      refine cg_X3_57 rfl ⟨⟨Nat.le_of_ble_eq_true rfl, Nat.le_of_ble_eq_true rfl⟩, Nat.le_of_ble_eq_true rfl, Nat.le_of_ble_eq_true rfl, Nat.le_of_ble_eq_true rfl⟩ (by first | assumption | exact pa_a hp | exact pa_r hp | exact pa_c hp | exact hr.1 | exact hr.2) dX3_readSubject_10 (hd) ?_
      rintro u μ' ⟨rfl, I2, rfl, k1, k2, k3⟩
      refine px_ifb_ne (tgt := 28) dX3_readSubject_13 (by decide) (fun h13 => (by first | exact absurd h13 ((by decide)) | exact absurd ((by decide)) h13)) (fun h13 => ?_)
      refine px_goto (tgt := 26) dX3_readSubject_16 (by decide) ?_
      refine px_iconst (0) dX3_readSubject_26 rfl ?_
      refine px_zret dX3_readSubject_27 (by first | rfl | exact px_nb _) ?_
      exact F I2 k1 ho k2
    · unfold px_Qb at hd
      rw [ho] at hd
      refine px_aload_0 dX3_readSubject_0 ?_
      refine gf_X3_15 rfl dX3_readSubject_1 (by first | assumption | exact pa_a hp | exact pa_r hp | exact pa_c hp | exact hr.1 | exact hr.2) ?_
      rw [h2]
      refine px_bipush (103) dX3_readSubject_4 rfl ?_
      refine px_icmp_ne (tgt := 19) dX3_readSubject_6 (by decide) (fun h6 => (by first | exact absurd h6 (h103) | exact absurd (h103) h6)) (fun h6 => ?_)
      refine px_aload_0 dX3_readSubject_9 ?_
      refine cg_X3_57 rfl ⟨⟨Nat.le_of_ble_eq_true rfl, Nat.le_of_ble_eq_true rfl⟩, Nat.le_of_ble_eq_true rfl, Nat.le_of_ble_eq_true rfl, Nat.le_of_ble_eq_true rfl⟩ (by first | assumption | exact pa_a hp | exact pa_r hp | exact pa_c hp | exact hr.1 | exact hr.2) dX3_readSubject_10 (hd) ?_
      rintro u μ' ⟨rfl, I2, rfl, k1, k2, k3⟩
      refine px_ifb_ne (tgt := 28) dX3_readSubject_13 (by decide) (fun h13 => ?_) (fun h13 => (by first | exact absurd (rfl) h13 | exact absurd h13 (rfl)))
      exact S28 I2 k1 ho k2 (k3 rfl)
  · have e : q_fst p c s = q_dig p s := if_neg h103
    have hd := s_X3_readDigit (l := l) (J := J) hr hp hc hs hs2 hra
    rw [← e] at hd
    cases ho : (q_fst p c s).1
    · unfold px_Qb at hd
      rw [ho] at hd
      refine px_aload_0 dX3_readSubject_0 ?_
      refine gf_X3_15 rfl dX3_readSubject_1 (by first | assumption | exact pa_a hp | exact pa_r hp | exact pa_c hp | exact hr.1 | exact hr.2) ?_
      rw [h2]
      refine px_bipush (103) dX3_readSubject_4 rfl ?_
      refine px_icmp_ne (tgt := 19) dX3_readSubject_6 (by decide) (fun h6 => ?_) (fun h6 => (by first | exact absurd (h103) h6 | exact absurd h6 (h103)))
      refine px_aload_0 dX3_readSubject_19 ?_
      refine cg_X3_60 rfl ⟨⟨Nat.le_of_ble_eq_true rfl, Nat.le_of_ble_eq_true rfl⟩, Nat.le_of_ble_eq_true rfl, Nat.le_of_ble_eq_true rfl, Nat.le_of_ble_eq_true rfl⟩ (by first | assumption | exact pa_a hp | exact pa_r hp | exact pa_c hp | exact hr.1 | exact hr.2) dX3_readSubject_20 (hd) ?_
      rintro u μ' ⟨rfl, I2, rfl, k1, k2, k3⟩
      refine px_ifb_ne (tgt := 28) dX3_readSubject_23 (by decide) (fun h23 => (by first | exact absurd h23 ((by decide)) | exact absurd ((by decide)) h23)) (fun h23 => ?_)
      refine px_iconst (0) dX3_readSubject_26 rfl ?_
      refine px_zret dX3_readSubject_27 (by first | rfl | exact px_nb _) ?_
      exact F I2 k1 ho k2
    · unfold px_Qb at hd
      rw [ho] at hd
      refine px_aload_0 dX3_readSubject_0 ?_
      refine gf_X3_15 rfl dX3_readSubject_1 (by first | assumption | exact pa_a hp | exact pa_r hp | exact pa_c hp | exact hr.1 | exact hr.2) ?_
      rw [h2]
      refine px_bipush (103) dX3_readSubject_4 rfl ?_
      refine px_icmp_ne (tgt := 19) dX3_readSubject_6 (by decide) (fun h6 => ?_) (fun h6 => (by first | exact absurd (h103) h6 | exact absurd h6 (h103)))
      refine px_aload_0 dX3_readSubject_19 ?_
      refine cg_X3_60 rfl ⟨⟨Nat.le_of_ble_eq_true rfl, Nat.le_of_ble_eq_true rfl⟩, Nat.le_of_ble_eq_true rfl, Nat.le_of_ble_eq_true rfl, Nat.le_of_ble_eq_true rfl⟩ (by first | assumption | exact pa_a hp | exact pa_r hp | exact pa_c hp | exact hr.1 | exact hr.2) dX3_readSubject_20 (hd) ?_
      rintro u μ' ⟨rfl, I2, rfl, k1, k2, k3⟩
      refine px_ifb_ne (tgt := 28) dX3_readSubject_23 (by decide) (fun h23 => ?_) (fun h23 => (by first | exact absurd (rfl) h23 | exact absurd h23 (rfl)))
      exact S28 I2 k1 ho k2 (k3 rfl)
end CRD

