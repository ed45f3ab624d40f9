section MHN
def n_F (σ : px_s) (q p : Nat) : Nat := min (p + ix (σ (9 + 6 * (q / 2) + 2))) ((100 * p + ix (f_cr σ (q / 2)) * ix (σ 142)) / (100 - ix (f_cr σ (q / 2))))
def n_a (σ : px_s) (q : Nat) : Nat := ix (σ (9 + 6 * (q / 2) + q % 2))
def n_b (σ : px_s) (q : Nat) : Nat := ix (σ (9 + 6 * (q / 2) + (1 - q % 2)))
def f_hp (σ : px_s) : Nat → Nat := h_R (2 * f_nr σ) (n_a σ) (n_b σ) (n_F σ) (fun t => ix (σ t)) 8
/-- with other prices -/
def f_pr (σ : px_s) (P : Nat → Nat) : px_s := fun k => if k < 8 then nI (P k) else σ k
def f_df (σ : px_s) : Nat → Int32
  | 0 => 0
  | t + 1 => f_df σ t + if nI (f_hp σ t) = σ t then 0 else 1
variable {l : Launch} {G : px_G} {T : px_T} {I : px_I} {J : px_J} {R : px_R} {μ : px_M} {m : Nat} {σ : px_s} {P : Nat → Nat}
theorem cr_le (r : Nat) : ix (f_cr σ r) ≤ 90 := by
  unfold f_cr f_ch
  split
  · rename_i h
    rw [Int32.lt_iff_toInt_lt, show (90 : Int32).toInt = 90 from rfl] at h
    unfold ix Int32.toNatClampNeg
    omega
  · exact Nat.le_refl _
theorem nF_mono (q p p' : Nat) (h : p ≤ p') : n_F σ q p ≤ n_F σ q p' := by
  unfold n_F
  have h2 : (100 * p + ix (f_cr σ (q / 2)) * ix (σ 142)) / (100 - ix (f_cr σ (q / 2))) ≤ (100 * p' + ix (f_cr σ (q / 2)) * ix (σ 142)) / (100 - ix (f_cr σ (q / 2))) := Nat.div_le_div_right (by omega)
  omega
theorem nF_inf (q p : Nat) : p ≤ n_F σ q p := by
  unfold n_F
  have h90 := cr_le (σ := σ) (q / 2)
  have h2 : p ≤ (100 * p + ix (f_cr σ (q / 2)) * ix (σ 142)) / (100 - ix (f_cr σ (q / 2))) := by
    rw [Nat.le_div_iff_mul_le (by omega)]
    have : p * (100 - ix (f_cr σ (q / 2))) ≤ p * 100 := Nat.mul_le_mul_left _ (by omega)
    omega
  omega
theorem pr_hi {k : Nat} (h : 8 ≤ k) : f_pr σ P k = σ k := if_neg (by omega)
theorem pr_lo {k : Nat} (h : k < 8) : f_pr σ P k = nI (P k) := if_pos h
theorem rg_ix {v : Int32} {a b : Nat} (ha : a < 2 ^ 31) (hb : b < 2 ^ 31) (h : rg v (nI a) (nI b)) : v = nI (ix v) ∧ a ≤ ix v ∧ ix v ≤ b := by
  rw [rg_ti, nI_ti ha, nI_ti hb] at h
  have h0 := ix_ti (v := v) (by omega)
  exact ⟨ix_eq (hi := nI b) (by rw [rg_ti, nI_ti hb, show (0 : Int32).toInt = 0 from rfl]; omega), by omega, by omega⟩
theorem cr_nI (hV : px_V σ) {r : Nat} (hr : r < f_nr σ) : f_cr σ r = nI (ix (f_cr σ r)) := by
  obtain ⟨-, -, -, -, -, -, -, -, hg⟩ := hV.2.1 r hr
  have h1 := hV.2.2.2.2.2.2.2.1
  obtain ⟨e1, -, b1⟩ := rg_ix (a := 0) (b := 40) (by decide) (by decide) hg
  obtain ⟨e2, a2, b2⟩ := rg_ix (a := 1) (b := 30) (by decide) (by decide) h1
  have hp : ix (σ 143) * ix (σ (9 + 6 * r + 3)) ≤ 30 * 40 := Nat.mul_le_mul b2 b1
  unfold f_cr f_ch
  rw [e1, e2, pk_mul]
  split
  · rw [ix_nI (by omega)]
  · rfl
theorem mn_nI {x y : Nat} (hx : x < 2 ^ 31) (hy : y < 2 ^ 31) : f_mn (nI x) (nI y) = nI (min x y) := by
  unfold f_mn
  by_cases h : y < x
  · rw [if_pos (nI_lt h hx), Nat.min_eq_right (by omega)]
  · rw [if_neg (nI_nlt (by omega) hy), Nat.min_eq_left (by omega)]
theorem ma_nI (hV : px_V σ) {q p : Nat} (hq : q < 2 * f_nr σ) (hp : p ≤ 999) : f_ma σ (q / 2) (nI p) = nI (n_F σ q p) := by
  have hr : q / 2 < f_nr σ := by omega
  obtain ⟨-, -, -, -, -, -, -, ht, -⟩ := hV.2.1 _ hr
  obtain ⟨et, -, bt⟩ := rg_ix (a := 0) (b := 200) (by decide) (by decide) ht
  obtain ⟨ef, -, bf⟩ := rg_ix (a := 0) (b := 500) (by decide) (by decide) hV.2.2.2.2.2.2.1
  have h90 := cr_le (σ := σ) (q / 2)
  have hc : ix (f_cr σ (q / 2)) * ix (σ 142) ≤ 90 * 500 := Nat.mul_le_mul h90 bf
  have hd : (100 * p + ix (f_cr σ (q / 2)) * ix (σ 142)) / (100 - ix (f_cr σ (q / 2))) ≤ 100 * p + ix (f_cr σ (q / 2)) * ix (σ 142) := Nat.div_le_self _ _
  unfold f_ma f_mh n_F
  rw [et, ef, cr_nI hV hr, ix_nI (by omega), ix_nI (by omega), ix_nI (by omega), show (100 : Int32) * nI p = nI 100 * nI p from rfl, pk_mul, pk_mul, nI_add, nI_add, show (100 : Int32) - nI (ix (f_cr σ (q / 2))) = nI 100 - nI (ix (f_cr σ (q / 2))) from rfl, pk_sub (by omega), pk_div (by omega) (by omega) (by omega), mn_nI (by omega) (by omega)]
theorem ma_pr {r : Nat} {p : Int32} : f_ma (f_pr σ P) r p = f_ma σ r p := by
  unfold f_ma f_mh f_cr f_ch
  rw [pr_hi (by omega), pr_hi (by omega), pr_hi (by omega), pr_hi (by omega)]
theorem nr_pr : f_nr (f_pr σ P) = f_nr σ := by unfold f_nr; rw [pr_hi (by omega)]
theorem nc_pr : f_nc (f_pr σ P) = f_nc σ := by unfold f_nc; rw [pr_hi (by omega)]
theorem V_pr (h : px_VV σ) (hP : ∀ t, t < 8 → 1 ≤ P t ∧ P t ≤ 999) : px_VV (f_pr σ P) := by
  obtain ⟨⟨h1, h2, h3, h4, h5, h6, h7⟩, h8⟩ := h
  refine ⟨⟨?_, fun r hr => ?_, fun r j hr hr2 hj => ?_, fun c hc => ?_, fun c j hc hc2 hj => ?_, fun t ht => ?_, ?_⟩, fun c hc => ?_⟩
  · rw [nr_pr, nc_pr, pr_hi (by omega), pr_hi (by omega)]; exact h1
  · rw [nr_pr] at hr
    rw [pr_hi (by omega), pr_hi (by omega), pr_hi (by omega), pr_hi (by omega)]; exact h2 r hr
  · rw [nr_pr] at hr
    rw [pr_hi (by omega)]; exact h3 r j hr hr2 hj
  · rw [nc_pr] at hc
    rw [pr_hi (by omega), pr_hi (by omega)]; exact h4 c hc
  · rw [nc_pr] at hc
    rw [pr_hi (by omega)]; exact h5 c j hc hc2 hj
  · obtain ⟨a1, a2⟩ := hP t ht
    rw [pr_lo ht, rg_ti, nI_ti (by omega), show (1 : Int32).toInt = 1 from rfl, show (999 : Int32).toInt = 999 from rfl]
    omega
  · rw [pr_hi (by omega), pr_hi (by omega), pr_hi (by omega), pr_hi (by omega)]; exact h7
  · rw [nc_pr] at hc
    rw [pr_hi (by omega)]; exact h8 c hc
theorem ab_lt (hV : px_V σ) {q : Nat} (hq : q < 2 * f_nr σ) : σ (9 + 6 * (q / 2) + q % 2) = nI (n_a σ q) ∧ n_a σ q < 8 ∧ σ (9 + 6 * (q / 2) + (1 - q % 2)) = nI (n_b σ q) ∧ n_b σ q < 8 := by
  obtain ⟨-, h1, h2⟩ := ends_of hV (show q / 2 < f_nr σ by omega) (show q % 2 < 2 from Nat.mod_lt _ (by decide))
  obtain ⟨x1, l1⟩ := ix_of_nI h1
  obtain ⟨x2, l2⟩ := ix_of_nI h2
  exact ⟨x1, l1, x2, l2⟩
theorem pr_le (hV : px_V σ) {t : Nat} (ht : t < 8) : σ t = nI (ix (σ t)) ∧ 1 ≤ ix (σ t) ∧ ix (σ t) ≤ 999 := rg_ix (a := 1) (b := 999) (by decide) (by decide) (hV.2.2.2.2.2.1 t ht)
theorem hon_pr (hV : px_V σ) (hP : ∀ t, t < 8 → 1 ≤ P t ∧ P t ≤ 999) {q : Nat} (hq : q < 2 * f_nr σ) : f_hon (f_pr σ P) (q / 2) (q % 2) ↔ P (n_b σ q) ≤ n_F σ q (P (n_a σ q)) := by
  obtain ⟨e1, l1, e2, l2⟩ := ab_lt hV hq
  unfold f_hon
  rw [ma_pr, pr_hi (k := 9 + 6 * (q / 2) + (1 - q % 2)) (by omega), pr_hi (k := 9 + 6 * (q / 2) + q % 2) (by omega), show ix (σ (9 + 6 * (q / 2) + (1 - q % 2))) = n_b σ q from rfl, show ix (σ (9 + 6 * (q / 2) + q % 2)) = n_a σ q from rfl, pr_lo l1, pr_lo l2, ma_nI hV hq (hP _ l1).2]
  have hle : n_F σ q (P (n_a σ q)) ≤ P (n_a σ q) + ix (σ (9 + 6 * (q / 2) + 2)) := by unfold n_F; exact Nat.min_le_left _ _
  obtain ⟨-, -, -, -, -, -, -, ht, -⟩ := hV.2.1 _ (show q / 2 < f_nr σ by omega)
  obtain ⟨et, -, bt⟩ := rg_ix (a := 0) (b := 200) (by decide) (by decide) ht
  have := hP _ l1
  have := hP _ l2
  exact nI_leI (by omega) (by omega)
theorem hp_gr (hV : px_V σ) : h_gr (2 * f_nr σ) (n_a σ) (n_b σ) (n_F σ) (fun t => ix (σ t)) (f_hp σ) := R_gr (fun q p p' h => nF_mono q p p' h) (fun q p => nF_inf q p) (fun q hq => (ab_lt hV hq).2.2.2)
theorem hp_rg (hV : px_V σ) {t : Nat} (ht : t < 8) : 1 ≤ f_hp σ t ∧ f_hp σ t ≤ 999 := by
  have hg := hp_gr hV
  refine ⟨?_, ?_⟩
  · have := hg.2.2 (fun t => min 1 (ix (σ t))) (fun q hq => by
      have h2 := pr_le hV (ab_lt hV hq).2.1
      have h3 := nF_inf (σ := σ) q 1
      have e : min 1 (ix (σ (n_a σ q))) = 1 := by omega
      try dsimp only
      rw [e]
      omega) (fun t => Nat.min_le_right _ _) t
    have h2 := pr_le hV ht
    try dsimp only at this
    omega
  · have := hg.2.1 t
    have h2 := pr_le hV ht
    try dsimp only at this
    omega
theorem or_nI {M e : Nat} (hM : M < 256) (he : e < 8) : nI M ||| 1 <<< (nI e &&& 31) = nI (M ||| 2 ^ e) ∧ M ||| 2 ^ e < 256 := by
  have h2 : (1 : Int32) <<< (nI e &&& 31) = nI (2 ^ e) := by
    rcases (by omega : e = 0 ∨ e = 1 ∨ e = 2 ∨ e = 3 ∨ e = 4 ∨ e = 5 ∨ e = 6 ∨ e = 7) with rfl | rfl | rfl | rfl | rfl | rfl | rfl | rfl <;> decide
  have h3 : 2 ^ e < 2 ^ 8 := Nat.pow_lt_pow_right (by decide) he
  have h4 : M ||| 2 ^ e < 2 ^ 8 := Nat.or_lt_two_pow hM h3
  refine ⟨?_, h4⟩
  rw [h2]
  apply Int32.toBitVec_inj.mp
  apply BitVec.eq_of_toNat_eq
  rw [show (nI M ||| nI (2 ^ e)).toBitVec = (nI M).toBitVec ||| (nI (2 ^ e)).toBitVec from rfl, BitVec.toNat_or, pk_tn (by omega), pk_tn (by omega), pk_tn (by omega)]
theorem bit_nI {M i : Nat} (hM : M < 256) (hi : i < 8) : (nI M >>> (nI i &&& 31)) &&& 1 = if M.testBit i then 1 else 0 := by
  have hs : ((nI i &&& 31).toBitVec.smod 32).toNat = i := by
    rcases (by omega : i = 0 ∨ i = 1 ∨ i = 2 ∨ i = 3 ∨ i = 4 ∨ i = 5 ∨ i = 6 ∨ i = 7) with rfl | rfl | rfl | rfl | rfl | rfl | rfl | rfl <;> decide
  rw [pk_shrN (by omega) _ i hs, pk_andN (by have := Nat.div_le_self M (2 ^ i); omega) 1 (by decide), Nat.testBit_eq_decide_div_mod_eq]
  rcases (by omega : M / 2 ^ i % 2 = 0 ∨ M / 2 ^ i % 2 = 1) with z | z
  · rw [z]; rfl
  · rw [z]; rfl
theorem s_X8_makes (hm : px_mo G T R m) (hV : px_VV (I (m + 1))) : px_K l G 5 mX8_makes ([.ref m]) ((T, I, J, R)) (some (.int (f_df (I (m + 1)) 8))) ((T, px_set I (m + 1) (f_pr (I (m + 1)) (f_hp (I (m + 1)))), J, R)) := by
  generalize hσ : I (m + 1) = σ at hV ⊢
  have hn := hV.1.1.1
  have h14 := hV.1.1.2.1
  have hg := hp_gr hV.1
  refine px_met (M := mX8_makes) ([some (.ref m), none, none, none, none]) (by decide +kernel) rfl (Nat.le_of_ble_eq_true rfl) rfl ?_
  generalize hQ : (fun v m_1 => v = some (Value.int (f_df σ 8)) ∧ m_1 = (T, px_set I (m + 1) (f_pr σ (f_hp σ)), J, R) : Option Value → px_M → Prop) = Q
  -- how many are different
  have LC : ∀ (M : Nat), M < 256 → (∀ t, t < 8 → (M.testBit t = true ↔ ¬ nI (f_hp σ t) = σ t)) → ∀ n i, i + n = 8 → ∀ (o2 : Int32), (px_W l G yX8_makes cX8_makes 5 (some .int) (px_rm 5 0 0) (px_Fn G Q 0 0) 63 [some (.ref m), some (.int (nI M)), some (.int o2), some (.int (f_df σ i)), some (.int (nI i))] [] 0 0 (T, px_set I (m + 1) (f_pr σ (f_hp σ)), J, R)) := by
    intro M hM hb n
    induction n with
    | zero =>
      intro i hi o2
      obtain rfl : i = 8 := by omega
      refine px_iload_4 dX8_makes_63 ?_
      refine px_bipush (8) dX8_makes_65 rfl ?_
      refine px_icmp_ge (tgt := 85) dX8_makes_67 (by decide) (fun h67 => ?_) (fun h67 => (by first | exact absurd ((nI_le (a := 8) (b := 8) (by omega) (by omega))) h67 | exact absurd h67 ((nI_le (a := 8) (b := 8) (by omega) (by omega)))))
      refine px_iload_3 dX8_makes_85 ?_
      refine px_iret dX8_makes_86 ?_
      subst hQ; exact ⟨rfl, rfl⟩
    | succ n ih =>
      intro i hi o2
      have ee : f_df σ i + (if M.testBit i then 1 else 0) = f_df σ (i + 1) := by
        rw [f_df]
        by_cases z : nI (f_hp σ i) = σ i
        · rw [if_pos z, if_neg (fun y => (hb i (by omega)).mp y z)]
        · rw [if_neg z, if_pos ((hb i (by omega)).mpr z)]
      refine px_iload_4 dX8_makes_63 ?_
      refine px_bipush (8) dX8_makes_65 rfl ?_
      refine px_icmp_ge (tgt := 85) dX8_makes_67 (by decide) (fun h67 => (by first | exact absurd h67 ((nI_ge (a := i) (b := 8) (by omega) (by omega))) | exact absurd ((nI_ge (a := i) (b := 8) (by omega) (by omega))) h67)) (fun h67 => ?_)
      refine px_iload_3 dX8_makes_70 ?_
      refine px_iload_1 dX8_makes_71 ?_
      refine px_iload_4 dX8_makes_72 ?_
      refine px_ishr dX8_makes_74 ?_
      refine px_iconst (1) dX8_makes_75 rfl ?_
      refine px_iand dX8_makes_76 ?_
      rw [bit_nI hM (by omega)]
      refine px_iadd dX8_makes_77 ?_
      rw [ee]
      refine px_istore_3 dX8_makes_78 rfl ?_
      refine px_iinc_4 dX8_makes_79 rfl ?_
      refine px_goto (tgt := 63) dX8_makes_82 (by decide) ?_
      rw [inc_nI]; exact ih (i + 1) (by omega) _
  have L : ∀ s (P : Nat → Nat) (M : Nat) (d : Int32), h_sum P 8 ≤ s → (∀ t, f_hp σ t ≤ P t) → (∀ t, P t ≤ ix (σ t)) → M < 256 → (∀ t, t < 8 → (M.testBit t = true ↔ ¬ nI (P t) = σ t)) → f_dis (f_pr σ P) 0 d → ∀ o3 o4, (px_W l G yX8_makes cX8_makes 5 (some .int) (px_rm 5 0 0) (px_Fn G Q 0 0) 7 [some (.ref m), some (.int (nI M)), some (.int d), o3, o4] [] 0 0 (T, px_set I (m + 1) (f_pr σ P), J, R)) := by
    intro s
    induction s with
    | zero =>
      intro P M d hs h1 h2 hM hb hd o3 o4
      exfalso
      have h0 : P 0 ≤ h_sum P 8 := by
        have := h_sum_le (P := P) (P' := fun t => if t = 0 then P 0 else 0) 8 (fun t => by by_cases z : t = 0; rw [if_pos z, z]; exact Nat.le_refl _; rw [if_neg z]; exact Nat.zero_le _)
        have e : h_sum (fun t => if t = 0 then P 0 else 0) 8 = P 0 := by simp [h_sum]
        omega
      have := (hp_rg hV.1 (show 0 < 8 by decide)).1
      have := h1 0
      omega
    | succ s ih =>
      intro P M d hs h1 h2 hM hb hd o3 o4
      have hP : ∀ t, t < 8 → 1 ≤ P t ∧ P t ≤ 999 := fun t ht => by
        have a1 := (hp_rg hV.1 ht).1
        have a2 := h1 t
        have a3 := h2 t
        have a4 := pr_le hV.1 ht
        omega
      have hVP := V_pr hV hP
      rcases hd with ⟨rfl, ha⟩ | ⟨q, hq, rfl, hnh⟩
      · have hfe : h_feas (2 * f_nr σ) (n_a σ) (n_b σ) (n_F σ) P := fun q hq => (hon_pr hV.1 hP hq).mp (ha q (Nat.zero_le _) (by rw [nr_pr]; exact hq))
        obtain rfl := gr_uniq hg hfe h1 h2
        refine px_iload_2 dX8_makes_7 ?_
        refine px_bipush (-6) dX8_makes_8 rfl ?_
        refine px_icmp_eq (tgt := 58) dX8_makes_10 (by decide) (fun h10 => ?_) (fun h10 => (by first | exact absurd (rfl) h10 | exact absurd h10 (rfl)))
        refine px_iconst (0) dX8_makes_58 rfl ?_
        refine px_istore_3 dX8_makes_59 rfl ?_
        refine px_iconst (0) dX8_makes_60 rfl ?_
        refine px_istore_4 dX8_makes_61 rfl ?_
        exact LC M hM hb _ 0 (Nat.zero_add _) _
      · rw [nr_pr] at hq
        obtain ⟨e1, l1, e2, l2⟩ := ab_lt hV.1 hq
        rw [hon_pr hV.1 hP hq] at hnh
        have hne : ¬ nI q = -6 := fun z => absurd (show (nI q).toInt = (-6 : Int32).toInt by rw [z]) (by rw [nI_ti (by omega), show (-6 : Int32).toInt = -6 from rfl]; omega)
        have d1 : nI q / 2 = nI (q / 2) := pk_div (d := 2) (by omega) (by decide) (by decide)
        have d2 : nI q - nI q / 2 * 2 = nI (q % 2) := pk_rem (d := 2) (by omega) (by decide) (by decide)
        have hk : q % 2 < 2 := Nat.mod_lt _ (by decide)
        have hend := s_X8_end (l := l) (I := px_set I (m + 1) (f_pr σ P)) (J := J) (v := nI q / 2) (u := 1 - (nI q - nI q / 2 * 2)) hm d1 (by omega) (one_sub d2 hk) (by omega)
        rw [px_set_self, pr_hi (by omega), e2] at hend
        have hma := s_X8_mostAt (l := l) (I := px_set I (m + 1) (f_pr σ P)) (J := J) (v := nI q / 2) (u := nI q - nI q / 2 * 2) hm d1 (by omega) d2 hk (by rw [px_set_self, pr_hi (by omega), e1, ix_nI (by omega)]; exact ⟨rfl, l1⟩)
        rw [px_set_self, ma_pr, pr_hi (k := 9 + 6 * (q / 2) + q % 2) (by omega), e1, ix_nI (by omega), pr_lo l1, ma_nI hV.1 hq (hP _ l1).2] at hma
        obtain ⟨o1, o2⟩ := or_nI hM l2
        have hupd : upd (f_pr σ P) (n_b σ q) (nI (n_F σ q (P (n_a σ q)))) = f_pr σ (updn P (n_b σ q) (n_F σ q (P (n_a σ q)))) := by
          funext k
          unfold upd f_pr updn
          by_cases z : k = n_b σ q
          · subst z; rw [if_pos rfl, if_pos l2, if_pos rfl]
          · rw [if_neg z, if_neg z]
        have hrel : updn P (n_b σ q) (n_F σ q (P (n_a σ q))) = h_relax (n_a σ) (n_b σ) (n_F σ) q P := by
          unfold h_relax; rw [Nat.min_eq_right (by omega)]
        have hP2 : ∀ t, f_hp σ t ≤ updn P (n_b σ q) (n_F σ q (P (n_a σ q))) t := by
          rw [hrel]; exact fun t => relax_ge (fun q p p' h => nF_mono q p p' h) hq hg.1 h1 t
        have hP3 : ∀ t, updn P (n_b σ q) (n_F σ q (P (n_a σ q))) t ≤ ix (σ t) := by
          rw [hrel]; exact fun t => Nat.le_trans (relax_le q t) (h2 t)
        have hsum : h_sum (updn P (n_b σ q) (n_F σ q (P (n_a σ q)))) 8 < h_sum P 8 := h_sum_lt 8 (fun t => by rw [hrel]; exact relax_le q t) l2 (by rw [updn_eq]; omega)
        have hbits : ∀ t, t < 8 → ((M ||| 2 ^ n_b σ q).testBit t = true ↔ ¬ nI (updn P (n_b σ q) (n_F σ q (P (n_a σ q))) t) = σ t) := by
          intro t ht
          rw [Nat.testBit_or, Nat.testBit_two_pow, Bool.or_eq_true, hb t ht]
          by_cases z : t = n_b σ q
          · subst z
            rw [updn_eq]
            have hlt : n_F σ q (P (n_a σ q)) < ix (σ (n_b σ q)) := by have := h2 (n_b σ q); omega
            obtain ⟨p1, p2, p3⟩ := pr_le hV.1 l2
            have hnn : ¬ nI (n_F σ q (P (n_a σ q))) = σ (n_b σ q) := by rw [p1, nI_eq (by omega) (by omega)]; omega
            exact ⟨fun _ => hnn, fun _ => Or.inr (by simp)⟩
          · rw [updn_ne z]
            refine ⟨fun y => ?_, fun y => Or.inl y⟩
            rcases y with y | y
            · exact y
            · exact absurd (of_decide_eq_true y).symm z
        have hVP2 : px_V (f_pr σ (updn P (n_b σ q) (n_F σ q (P (n_a σ q))))) := (V_pr hV (fun t ht => by
          have a1 := (hp_rg hV.1 ht).1
          have a2 := hP2 t
          have a3 := hP3 t
          have a4 := pr_le hV.1 ht
          omega)).1
        have hdis := s_X8_dishonest (l := l) (I := px_set I (m + 1) (f_pr σ (updn P (n_b σ q) (n_F σ q (P (n_a σ q)))))) (J := J) hm (by rw [px_set_self]; exact hVP2)
        rw [px_set_self] at hdis
        refine px_iload_2 dX8_makes_7 ?_
        refine px_bipush (-6) dX8_makes_8 rfl ?_
        refine px_icmp_eq (tgt := 58) dX8_makes_10 (by decide) (fun h10 => (by first | exact absurd h10 (hne) | exact absurd (hne) h10)) (fun h10 => ?_)
        refine px_aload_0 dX8_makes_13 ?_
        refine px_iload_2 dX8_makes_14 ?_
        refine px_iconst (2) dX8_makes_15 rfl ?_
        refine px_idiv dX8_makes_16 (by decide) ?_
        refine px_iconst (1) dX8_makes_17 rfl ?_
        refine px_iload_2 dX8_makes_18 ?_
        refine px_iconst (2) dX8_makes_19 rfl ?_
        refine px_irem dX8_makes_20 (by decide) ?_
        refine px_isub dX8_makes_21 ?_
        refine cd_X8_48 rfl ⟨⟨Nat.le_of_ble_eq_true rfl, Nat.le_of_ble_eq_true rfl⟩, Nat.le_of_ble_eq_true rfl, Nat.le_of_ble_eq_true rfl, Nat.le_of_ble_eq_true rfl⟩ (by first | assumption | exact mo_a hm | exact mo_r0 hm | exact mo_r1 hm | exact mo_r2 hm | exact mo_r4 hm | exact mo_r6 hm | exact mo_r8 hm | exact mo_a1 hm | exact mo_a2 hm | exact mo_a3 hm | exact mo_a4 hm | exact mo_a5 hm | exact mo_a6 hm) dX8_makes_22 (hend) ?_
        refine px_istore_3 dX8_makes_25 rfl ?_
        refine px_iload_1 dX8_makes_26 ?_
        refine px_iconst (1) dX8_makes_27 rfl ?_
        refine px_iload_3 dX8_makes_28 ?_
        refine px_ishl dX8_makes_29 ?_
        refine px_ior dX8_makes_30 ?_
        rw [o1]
        refine px_istore_1 dX8_makes_31 rfl ?_
        refine px_aload_0 dX8_makes_32 ?_
        refine gf_X8_7 rfl dX8_makes_33 (by first | assumption | exact mo_a hm | exact mo_r0 hm | exact mo_r1 hm | exact mo_r2 hm | exact mo_r4 hm | exact mo_r6 hm | exact mo_r8 hm | exact mo_a1 hm | exact mo_a2 hm | exact mo_a3 hm | exact mo_a4 hm | exact mo_a5 hm | exact mo_a6 hm) (by first | assumption | exact mo_a hm | exact mo_r0 hm | exact mo_r1 hm | exact mo_r2 hm | exact mo_r4 hm | exact mo_r6 hm | exact mo_r8 hm | exact mo_a1 hm | exact mo_a2 hm | exact mo_a3 hm | exact mo_a4 hm | exact mo_a5 hm | exact mo_a6 hm) ?_
        refine px_iconst (0) dX8_makes_36 rfl ?_
        refine px_iload_3 dX8_makes_37 ?_
        refine px_iadd dX8_makes_38 ?_
        rw [z_add]
        refine px_aload_0 dX8_makes_39 ?_
        refine px_iload_2 dX8_makes_40 ?_
        refine px_iconst (2) dX8_makes_41 rfl ?_
        refine px_idiv dX8_makes_42 (by decide) ?_
        refine px_iload_2 dX8_makes_43 ?_
        refine px_iconst (2) dX8_makes_44 rfl ?_
        refine px_irem dX8_makes_45 (by decide) ?_
        refine cd_X8_57 rfl ⟨⟨Nat.le_of_ble_eq_true rfl, Nat.le_of_ble_eq_true rfl⟩, Nat.le_of_ble_eq_true rfl, Nat.le_of_ble_eq_true rfl, Nat.le_of_ble_eq_true rfl⟩ (by first | assumption | exact mo_a hm | exact mo_r0 hm | exact mo_r1 hm | exact mo_r2 hm | exact mo_r4 hm | exact mo_r6 hm | exact mo_r8 hm | exact mo_a1 hm | exact mo_a2 hm | exact mo_a3 hm | exact mo_a4 hm | exact mo_a5 hm | exact mo_a6 hm) dX8_makes_46 (hma) ?_
        refine px_iastN dX8_makes_49 (by first | assumption | exact mo_a hm | exact mo_r0 hm | exact mo_r1 hm | exact mo_r2 hm | exact mo_r4 hm | exact mo_r6 hm | exact mo_r8 hm | exact mo_a1 hm | exact mo_a2 hm | exact mo_a3 hm | exact mo_a4 hm | exact mo_a5 hm | exact mo_a6 hm) (by exact rfl) (by omega) ?_
        rw [px_up_set, px_set_set, px_set_self, hupd]
        refine px_aload_0 dX8_makes_50 ?_
        refine cg_X8_64 rfl ⟨⟨Nat.le_of_ble_eq_true rfl, Nat.le_of_ble_eq_true rfl⟩, Nat.le_of_ble_eq_true rfl, Nat.le_of_ble_eq_true rfl, Nat.le_of_ble_eq_true rfl⟩ (by first | assumption | exact mo_a hm | exact mo_r0 hm | exact mo_r1 hm | exact mo_r2 hm | exact mo_r4 hm | exact mo_r6 hm | exact mo_r8 hm | exact mo_a1 hm | exact mo_a2 hm | exact mo_a3 hm | exact mo_a4 hm | exact mo_a5 hm | exact mo_a6 hm) dX8_makes_51 (hdis) ?_
        rintro v μ' ⟨rfl, d, rfl, hd⟩
        refine px_istore_2 dX8_makes_54 rfl ?_
        refine px_goto (tgt := 7) dX8_makes_55 (by decide) ?_
        exact ih _ _ d (by omega) hP2 hP3 o2 hbits hd _ _
  have hP0 : f_pr σ (fun t => ix (σ t)) = σ := by
    funext k
    unfold f_pr
    split
    · rename_i z; exact (pr_le hV.1 z).1.symm
    · rfl
  have hd0 := s_X8_dishonest (l := l) (I := I) (J := J) hm (by rw [hσ]; exact hV.1)
  rw [hσ] at hd0
  have hI : px_set I (m + 1) σ = I := by rw [← hσ]; exact px_set_id
  refine px_iconst (0) dX8_makes_0 rfl ?_
  refine px_istore_1 dX8_makes_1 rfl ?_
  refine px_aload_0 dX8_makes_2 ?_
  refine cg_X8_64 rfl ⟨⟨Nat.le_of_ble_eq_true rfl, Nat.le_of_ble_eq_true rfl⟩, Nat.le_of_ble_eq_true rfl, Nat.le_of_ble_eq_true rfl, Nat.le_of_ble_eq_true rfl⟩ (by first | assumption | exact mo_a hm | exact mo_r0 hm | exact mo_r1 hm | exact mo_r2 hm | exact mo_r4 hm | exact mo_r6 hm | exact mo_r8 hm | exact mo_a1 hm | exact mo_a2 hm | exact mo_a3 hm | exact mo_a4 hm | exact mo_a5 hm | exact mo_a6 hm) dX8_makes_3 (hd0) ?_
  rintro v μ' ⟨rfl, d, rfl, hd⟩
  refine px_istore_2 dX8_makes_6 rfl ?_
  skip
  have L0 := L _ (fun t => ix (σ t)) 0 d (Nat.le_refl _) hg.2.1 (fun _ => Nat.le_refl _) (by decide) (fun t ht => by rw [Nat.zero_testBit]; exact ⟨fun z => absurd z (by decide), fun z => absurd (pr_le hV.1 ht).1.symm z⟩) (by rw [hP0]; exact hd) none none
  rw [hP0, hI] at L0
  exact L0
end MHN

