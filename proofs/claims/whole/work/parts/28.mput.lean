section MPT
variable {l : Launch} {G : px_G} {T : px_T} {I : px_I} {J : px_J} {R : px_R} {μ : px_M} {m : Nat} {A : px_a} {σ : px_s}
/-- the character at place i of a number, from behind -/
def p_by (x : Int64) (i : Nat) : Int32 := nI (x.toBitVec.toNat / 2 ^ (8 * i) % 256)
theorem by_lt (x : Int64) (i : Nat) : x.toBitVec.toNat / 2 ^ (8 * i) % 256 < 256 := Nat.mod_lt _ (by decide)
theorem and255 (v : BitVec 64) : (v &&& 255#64).toNat = v.toNat % 256 := by
  rw [BitVec.toNat_and]
  exact Nat.and_two_pow_sub_one_eq_mod _ 8
theorem sshr255 (v : BitVec 64) (k : Nat) (hk : k ≤ 56) : v.sshiftRight k &&& 255#64 = v >>> k &&& 255#64 := by
  apply BitVec.eq_of_getLsbD_eq
  intro j hj
  have e : (255#64).getLsbD j = decide (j < 8) := by
    show Nat.testBit (2 ^ 8 - 1) j = _
    exact Nat.testBit_two_pow_sub_one 8 j
  rw [BitVec.getLsbD_and, BitVec.getLsbD_and, e]
  by_cases h : j < 8
  · rw [BitVec.getLsbD_sshiftRight, BitVec.getLsbD_ushiftRight, if_pos (by omega)]
    simp [show ¬ 64 ≤ j by omega]
  · simp [h]
theorem l2i_of {y : Int64} {n : Nat} (h : y.toBitVec.toNat = n) (hn : n < 256) : y.toInt32 = nI n := by
  apply Int32.toBitVec_inj.mp
  apply BitVec.eq_of_toNat_eq
  rw [show y.toInt32.toBitVec = y.toBitVec.signExtend 32 from rfl, BitVec.signExtend_eq_setWidth_of_le _ (by decide), BitVec.toNat_setWidth, h, pk_tn (by omega), Nat.mod_eq_of_lt (by omega)]
theorem by_m (x : Int64) {i : Nat} (hi : i < 8) : (x >>> (((8 : Int32) * nI i).toInt64 &&& 63) &&& 255).toInt32 = p_by x i := by
  refine l2i_of ?_ (by_lt x i)
  rw [show (x >>> (((8 : Int32) * nI i).toInt64 &&& 63) &&& 255).toBitVec = (x >>> (((8 : Int32) * nI i).toInt64 &&& 63)).toBitVec &&& 255#64 from rfl]
  have e : (x >>> (((8 : Int32) * nI i).toInt64 &&& 63)).toBitVec = x.toBitVec.sshiftRight (8 * i) := by
    have e2 : ((((8 : Int32) * nI i).toInt64 &&& 63).toBitVec.smod 64).toNat = 8 * i := by
      rcases (by omega : i = 0 ∨ i = 1 ∨ i = 2 ∨ i = 3 ∨ i = 4 ∨ i = 5 ∨ i = 6 ∨ i = 7) with rfl | rfl | rfl | rfl | rfl | rfl | rfl | rfl <;> decide
    show x.toBitVec.sshiftRight' ((((8 : Int32) * nI i).toInt64 &&& 63).toBitVec.smod 64) = _
    rw [BitVec.sshiftRight', e2]
  rw [e, sshr255 _ _ (by omega), and255, BitVec.toNat_ushiftRight, Nat.shiftRight_eq_div_pow]
theorem by_0 (x : Int64) : (x &&& 255) = 0 ↔ p_by x 0 = 0 := by
  have h1 : (x &&& 255).toBitVec.toNat = x.toBitVec.toNat / 2 ^ (8 * 0) % 256 := by
    rw [show (x &&& 255).toBitVec = x.toBitVec &&& 255#64 from rfl, and255, Nat.mul_zero, Nat.pow_zero, Nat.div_one]
  have hl := by_lt x 0
  unfold p_by
  rw [show (0 : Int32) = nI 0 from rfl, nI_eq (by omega) (by omega), ← h1]
  refine ⟨fun h => by rw [h]; rfl, fun h => ?_⟩
  apply Int64.toBitVec_inj.mp
  apply BitVec.eq_of_toNat_eq
  rw [h]; rfl
/-- how many characters there are before the first that is 0 -/
def p_n (x : Int64) : Nat → Nat
  | 0 => 0
  | i + 1 => if p_n x i = i ∧ p_by x i ≠ 0 then i + 1 else p_n x i
def p_bad (x : Int64) : Nat → Bool
  | 0 => decide (p_by x 0 = 0)
  | i + 1 => p_bad x i || (if p_n x (i + 1) = i + 1 then decide (¬ rg (p_by x i) 33 126) else decide (p_by x i ≠ 0))
def p_push (x : Int64) (p : Nat × (Nat → Int32)) : Nat → Nat × (Nat → Int32)
  | 0 => p
  | k + 1 => p_push x (p_app p (p_by x k)) k
theorem p_n_le (x : Int64) (i : Nat) : p_n x i ≤ i := by
  induction i with
  | zero => exact Nat.le_refl _
  | succ i ih => rw [p_n]; split <;> omega
theorem p_push_len (x : Int64) (p : Nat × (Nat → Int32)) (k : Nat) : (p_push x p k).1 = p.1 + k := by
  induction k generalizing p with
  | zero => rfl
  | succ k ih =>
    rw [p_push, ih]
    show p.1 + 1 + k = _
    omega
def f_put (p : Nat × (Nat → Int32)) (x : Int64) : Int32 × (Nat × (Nat → Int32)) := if p_bad x 8 = true then (-2, p) else if 80 < p.1 + p_n x 8 then (-4, p) else (nI (p_push x p (p_n x 8)).1, p_push x p (p_n x 8))
theorem s_X8_put {x : Int64} (hm : px_mo G T R m) (h : px_MI I m A) : px_C l G 1 0 0 mX8_put [.ref m, .long x] (T, I, J, R) (px_Qm T I J R m (.int (f_put A.2.2.2 x).1) (A.1, A.2.1, A.2.2.1, (f_put A.2.2.2 x).2)) := by
  obtain ⟨h1, ⟨h2, h3, h4⟩, h5, h6, h7, h8, h9⟩ := id h
  refine px_met (M := mX8_put) ([some (.ref m), some (.long x), none, none, none, none, none, none]) (by decide +kernel) rfl (Nat.le_of_ble_eq_true rfl) rfl ?_
  generalize hQ : px_Qm T I J R m (.int (f_put A.2.2.2 x).1) (A.1, A.2.1, A.2.2.1, (f_put A.2.2.2 x).2) = Q
  -- the last part
  have LP : ∀ (k : Nat) (p : Nat × (Nat → Int32)) (I' : px_I), k ≤ 8 → px_pd I m p I' → p.1 + k ≤ 80 → p_push x p k = (f_put A.2.2.2 x).2 → (f_put A.2.2.2 x).1 = nI (f_put A.2.2.2 x).2.1 → ∀ n o4 o5 o7, (px_W l G yX8_put cX8_put 8 (some .int) (px_rm 1 0 0) (px_Fn G Q 0 0) 146 [some (.ref m), some (.long x), none, some (.int n), some (.int o4), some (.int o5), some (.int (nI k - 1)), o7] [] 0 0 (T, I', J, R)) := by
    intro k
    induction k with
    | zero =>
      intro p I' _ hp hle he he1 n o4 o5 o7
      rw [p_push] at he
      refine px_iload_6 dX8_put_146 ?_
      refine px_if_lt (tgt := 173) dX8_put_148 (by decide) (fun h148 => ?_) (fun h148 => (by first | exact absurd ((by decide)) h148 | exact absurd h148 ((by decide))))
      refine px_aload_0 dX8_put_173 ?_
      refine gf_X8_156 rfl dX8_put_174 (by first | assumption | exact mo_a hm | exact mo_r0 hm | exact mo_r1 hm | exact mo_r2 hm | exact mo_r4 hm | exact mo_r6 hm | exact mo_r8 hm | exact mo_a1 hm | exact mo_a2 hm | exact mo_a3 hm | exact mo_a4 hm | exact mo_a5 hm | exact mo_a6 hm) ?_
      rw [hp.1, he, ← he1]
      refine px_iret dX8_put_177 ?_
      subst hQ; rw [← he]; exact ⟨rfl, I', J, rfl, pd_MI h hp (by omega), fun a ha => hp.2.2.1 a (by omega) (by omega), fun a ha => rfl⟩
    | succ k ih =>
      intro p I' hk hp hle he he1 n o4 o5 o7
      rw [nI_pred]
      rw [p_push] at he
      have hnn : ¬ nI k < 0 := nI_pos (by omega)
      refine px_iload_6 dX8_put_146 ?_
      refine px_if_lt (tgt := 173) dX8_put_148 (by decide) (fun h148 => (by first | exact absurd h148 (hnn) | exact absurd (hnn) h148)) (fun h148 => ?_)
      refine px_aload_0 dX8_put_151 ?_
      refine px_lload_1 dX8_put_152 ?_
      refine px_bipush (8) dX8_put_153 rfl ?_
      refine px_iload_6 dX8_put_155 ?_
      refine px_imul dX8_put_157 ?_
      refine px_lshr dX8_put_158 ?_
      refine px_ldc2 ck_X8_182 dX8_put_159 ?_
      refine px_land dX8_put_162 ?_
      refine px_l2i dX8_put_163 ?_
      rw [by_m x (by omega)]
      refine cd_X8_159 rfl ⟨⟨Nat.le_of_ble_eq_true rfl, Nat.le_of_ble_eq_true rfl⟩, Nat.le_of_ble_eq_true rfl, Nat.le_of_ble_eq_true rfl, Nat.le_of_ble_eq_true rfl⟩ (by first | assumption | exact mo_a hm | exact mo_r0 hm | exact mo_r1 hm | exact mo_r2 hm | exact mo_r4 hm | exact mo_r6 hm | exact mo_r8 hm | exact mo_a1 hm | exact mo_a2 hm | exact mo_a3 hm | exact mo_a4 hm | exact mo_a5 hm | exact mo_a6 hm) dX8_put_164 (s_X8_pads hm hp.1 (by omega)) ?_
      refine px_iinc_6 dX8_put_167 rfl ?_
      refine px_goto (tgt := 146) dX8_put_170 (by decide) ?_
      rw [dec_m1]; exact ih _ _ (by omega) (pd_app hp) (by show p.1 + 1 + k ≤ 80; omega) he he1 _ _ _ _
  have LC : ∀ n i, i + n = 8 → ∀ (v z b : Int32), v = nI (p_n x i) → z = (if p_n x i = i then 0 else 1) → b = (if p_bad x i = true then 1 else 0) → ∀ o7, (px_W l G yX8_put cX8_put 8 (some .int) (px_rm 1 0 0) (px_Fn G Q 0 0) 25 [some (.ref m), some (.long x), none, some (.int v), some (.int z), some (.int b), some (.int (nI i)), o7] [] 0 0 (T, I, J, R)) := by
    intro n
    induction n with
    | zero =>
      intro i hi v z b ev ez eb o7
      obtain rfl : i = 8 := by omega
      have hnl := p_n_le x 8
      subst ev
      by_cases hb : p_bad x 8 = true
      · rw [if_pos hb] at eb
        have hf : f_put A.2.2.2 x = (-2, A.2.2.2) := if_pos hb
        rw [hf] at hQ
        have hbz : ¬ b = 0 := by rw [eb]; decide
        refine px_iload_6 dX8_put_25 ?_
        refine px_bipush (8) dX8_put_27 rfl ?_
        refine px_icmp_ge (tgt := 119) dX8_put_29 (by decide) (fun h29 => ?_) (fun h29 => (by first | exact absurd ((nI_le (a := 8) (b := 8) (by omega) (by omega))) h29 | exact absurd h29 ((nI_le (a := 8) (b := 8) (by omega) (by omega)))))
        refine px_iload_5 dX8_put_119 ?_
        refine px_if_eq (tgt := 127) dX8_put_121 (by decide) (fun h121 => (by first | exact absurd h121 (hbz) | exact absurd (hbz) h121)) (fun h121 => ?_)
        refine px_bipush (-2) dX8_put_124 rfl ?_
        refine px_iret dX8_put_126 ?_
        subst hQ; exact ⟨rfl, I, J, rfl, h, fun _ _ => rfl, fun _ _ => rfl⟩
      · rw [if_neg hb] at eb
        by_cases h80 : 80 < A.2.2.2.1 + p_n x 8
        · have hf : f_put A.2.2.2 x = (-4, A.2.2.2) := by rw [f_put, if_neg hb, if_pos h80]
          rw [hf] at hQ
          refine px_iload_6 dX8_put_25 ?_
          refine px_bipush (8) dX8_put_27 rfl ?_
          refine px_icmp_ge (tgt := 119) dX8_put_29 (by decide) (fun h29 => ?_) (fun h29 => (by first | exact absurd ((nI_le (a := 8) (b := 8) (by omega) (by omega))) h29 | exact absurd h29 ((nI_le (a := 8) (b := 8) (by omega) (by omega)))))
          refine px_iload_5 dX8_put_119 ?_
          refine px_if_eq (tgt := 127) dX8_put_121 (by decide) (fun h121 => ?_) (fun h121 => (by first | exact absurd (eb) h121 | exact absurd h121 (eb)))
          refine px_aload_0 dX8_put_127 ?_
          refine gf_X8_156 rfl dX8_put_128 (by first | assumption | exact mo_a hm | exact mo_r0 hm | exact mo_r1 hm | exact mo_r2 hm | exact mo_r4 hm | exact mo_r6 hm | exact mo_r8 hm | exact mo_a1 hm | exact mo_a2 hm | exact mo_a3 hm | exact mo_a4 hm | exact mo_a5 hm | exact mo_a6 hm) ?_
          rw [h7]
          refine px_iload_3 dX8_put_131 ?_
          refine px_iadd dX8_put_132 ?_
          rw [nI_add]
          refine px_bipush (80) dX8_put_133 rfl ?_
          refine px_icmp_le (tgt := 141) dX8_put_135 (by decide) (fun h135 => (by first | exact absurd h135 ((nI_ge (a := 80) h80 (by omega))) | exact absurd ((nI_ge (a := 80) h80 (by omega))) h135)) (fun h135 => ?_)
          refine px_bipush (-4) dX8_put_138 rfl ?_
          refine px_iret dX8_put_140 ?_
          subst hQ; exact ⟨rfl, I, J, rfl, h, fun _ _ => rfl, fun _ _ => rfl⟩
        · have hf : f_put A.2.2.2 x = (nI (p_push x A.2.2.2 (p_n x 8)).1, p_push x A.2.2.2 (p_n x 8)) := by rw [f_put, if_neg hb, if_neg h80]
          refine px_iload_6 dX8_put_25 ?_
          refine px_bipush (8) dX8_put_27 rfl ?_
          refine px_icmp_ge (tgt := 119) dX8_put_29 (by decide) (fun h29 => ?_) (fun h29 => (by first | exact absurd ((nI_le (a := 8) (b := 8) (by omega) (by omega))) h29 | exact absurd h29 ((nI_le (a := 8) (b := 8) (by omega) (by omega)))))
          refine px_iload_5 dX8_put_119 ?_
          refine px_if_eq (tgt := 127) dX8_put_121 (by decide) (fun h121 => ?_) (fun h121 => (by first | exact absurd (eb) h121 | exact absurd h121 (eb)))
          refine px_aload_0 dX8_put_127 ?_
          refine gf_X8_156 rfl dX8_put_128 (by first | assumption | exact mo_a hm | exact mo_r0 hm | exact mo_r1 hm | exact mo_r2 hm | exact mo_r4 hm | exact mo_r6 hm | exact mo_r8 hm | exact mo_a1 hm | exact mo_a2 hm | exact mo_a3 hm | exact mo_a4 hm | exact mo_a5 hm | exact mo_a6 hm) ?_
          rw [h7]
          refine px_iload_3 dX8_put_131 ?_
          refine px_iadd dX8_put_132 ?_
          rw [nI_add]
          refine px_bipush (80) dX8_put_133 rfl ?_
          refine px_icmp_le (tgt := 141) dX8_put_135 (by decide) (fun h135 => ?_) (fun h135 => (by first | exact absurd ((nI_le (b := 80) (Nat.not_lt.mp h80) (by omega))) h135 | exact absurd h135 ((nI_le (b := 80) (Nat.not_lt.mp h80) (by omega)))))
          refine px_iload_3 dX8_put_141 ?_
          refine px_iconst (1) dX8_put_142 rfl ?_
          refine px_isub dX8_put_143 ?_
          refine px_istore_6 dX8_put_144 rfl ?_
          exact LP (p_n x 8) A.2.2.2 I hnl ⟨h7, h9, fun _ _ _ => rfl, fun _ _ => rfl⟩ (by omega) (by rw [hf]) (by rw [hf]) _ _ _ _
    | succ n ih =>
      intro i hi v z b ev ez eb o7
      have hnl := p_n_le x i
      have ih2 := fun v z b h1 h2 h3 => ih (i + 1) (by omega) v z b h1 h2 h3 (some (.int (p_by x i)))
      have hn1 : p_n x (i + 1) = if p_n x i = i ∧ p_by x i ≠ 0 then i + 1 else p_n x i := rfl
      have hb1 : p_bad x (i + 1) = (p_bad x i || (if p_n x (i + 1) = i + 1 then decide (¬ rg (p_by x i) 33 126) else decide (p_by x i ≠ 0))) := rfl
      have hnx : ∀ v2, (p_n x (i + 1) = i + 1 → v2 = v + 1) → (p_n x (i + 1) ≠ i + 1 → v2 = v + 0) → v2 = nI (p_n x (i + 1)) := by
        intro v2 g1 g2
        by_cases q : p_n x i = i ∧ p_by x i ≠ 0
        · rw [if_pos q] at hn1
          rw [g1 hn1, hn1, ev, nI_1, q.1]
        · rw [if_neg q] at hn1
          rw [g2 (by omega), hn1, ev, show (0 : Int32) = nI 0 from rfl, nI_add, Nat.add_zero]
      by_cases q : p_n x i = i ∧ p_by x i ≠ 0
      · rw [if_pos q] at hn1
        rw [if_pos hn1] at hb1
        rw [if_pos q.1] at ez
        have hz2 : (0 : Int32) = if p_n x (i + 1) = i + 1 then 0 else 1 := by rw [if_pos hn1]
        have hv2 : v + 1 = nI (p_n x (i + 1)) := hnx _ (fun _ => rfl) (fun y => absurd hn1 y)
        by_cases hb : p_bad x i = true
        · rw [if_pos hb] at eb
          have hbz : ¬ b = 0 := by rw [eb]; decide
          have hB : (1 : Int32) = if p_bad x (i + 1) = true then 1 else 0 := by rw [if_pos (by rw [hb1, hb]; rfl)]
          refine px_iload_6 dX8_put_25 ?_
          refine px_bipush (8) dX8_put_27 rfl ?_
          refine px_icmp_ge (tgt := 119) dX8_put_29 (by decide) (fun h29 => (by first | exact absurd h29 ((nI_ge (a := i) (b := 8) (by omega) (by omega))) | exact absurd ((nI_ge (a := i) (b := 8) (by omega) (by omega))) h29)) (fun h29 => ?_)
          refine px_lload_1 dX8_put_32 ?_
          refine px_bipush (8) dX8_put_33 rfl ?_
          refine px_iload_6 dX8_put_35 ?_
          refine px_imul dX8_put_37 ?_
          refine px_lshr dX8_put_38 ?_
          refine px_ldc2 ck_X8_182 dX8_put_39 ?_
          refine px_land dX8_put_42 ?_
          refine px_l2i dX8_put_43 ?_
          rw [by_m x (by omega)]
          refine px_istore_7 dX8_put_44 rfl ?_
          refine px_iload_4 dX8_put_46 ?_
          refine px_if_ne (tgt := 56) dX8_put_48 (by decide) (fun h48 => (by first | exact absurd h48 (ez) | exact absurd (ez) h48)) (fun h48 => ?_)
          refine px_iload_7 dX8_put_51 ?_
          refine px_if_ne (tgt := 60) dX8_put_53 (by decide) (fun h53 => ?_) (fun h53 => (by first | exact absurd (q.2) h53 | exact absurd h53 (q.2)))
          refine px_iconst (0) dX8_put_60 rfl ?_
          refine px_istore_4 dX8_put_61 rfl ?_
          refine px_iload_5 dX8_put_63 ?_
          refine px_if_ne (tgt := 93) dX8_put_65 (by decide) (fun h65 => ?_) (fun h65 => (by first | exact absurd (hbz) h65 | exact absurd h65 (hbz)))
          refine px_iconst (1) dX8_put_93 rfl ?_
          refine px_goto (tgt := 98) dX8_put_94 (by decide) ?_
          refine px_istore_5 dX8_put_98 rfl ?_
          refine px_iload_3 dX8_put_100 ?_
          refine px_iload_4 dX8_put_101 ?_
          refine px_if_eq (tgt := 110) dX8_put_103 (by decide) (fun h103 => ?_) (fun h103 => (by first | exact absurd (rfl) h103 | exact absurd h103 (rfl)))
          refine px_iconst (1) dX8_put_110 rfl ?_
          refine px_iadd dX8_put_111 ?_
          refine px_istore_3 dX8_put_112 rfl ?_
          refine px_iinc_6 dX8_put_113 rfl ?_
          refine px_goto (tgt := 25) dX8_put_116 (by decide) ?_
          rw [inc_nI]; exact ih2 _ _ _ hv2 hz2 hB
        · rw [if_neg hb] at eb
          by_cases hr : rg (p_by x i) 33 126
          · have hB : (0 : Int32) = if p_bad x (i + 1) = true then 1 else 0 := by rw [hb1, Bool.eq_false_iff.mpr hb, Bool.false_or, if_neg (fun y => (of_decide_eq_true y) hr)]
            refine px_iload_6 dX8_put_25 ?_
            refine px_bipush (8) dX8_put_27 rfl ?_
            refine px_icmp_ge (tgt := 119) dX8_put_29 (by decide) (fun h29 => (by first | exact absurd h29 ((nI_ge (a := i) (b := 8) (by omega) (by omega))) | exact absurd ((nI_ge (a := i) (b := 8) (by omega) (by omega))) h29)) (fun h29 => ?_)
            refine px_lload_1 dX8_put_32 ?_
            refine px_bipush (8) dX8_put_33 rfl ?_
            refine px_iload_6 dX8_put_35 ?_
            refine px_imul dX8_put_37 ?_
            refine px_lshr dX8_put_38 ?_
            refine px_ldc2 ck_X8_182 dX8_put_39 ?_
            refine px_land dX8_put_42 ?_
            refine px_l2i dX8_put_43 ?_
            rw [by_m x (by omega)]
            refine px_istore_7 dX8_put_44 rfl ?_
            refine px_iload_4 dX8_put_46 ?_
            refine px_if_ne (tgt := 56) dX8_put_48 (by decide) (fun h48 => (by first | exact absurd h48 (ez) | exact absurd (ez) h48)) (fun h48 => ?_)
            refine px_iload_7 dX8_put_51 ?_
            refine px_if_ne (tgt := 60) dX8_put_53 (by decide) (fun h53 => ?_) (fun h53 => (by first | exact absurd (q.2) h53 | exact absurd h53 (q.2)))
            refine px_iconst (0) dX8_put_60 rfl ?_
            refine px_istore_4 dX8_put_61 rfl ?_
            refine px_iload_5 dX8_put_63 ?_
            refine px_if_ne (tgt := 93) dX8_put_65 (by decide) (fun h65 => (by first | exact absurd h65 (eb) | exact absurd (eb) h65)) (fun h65 => ?_)
            refine px_iload_4 dX8_put_68 ?_
            refine px_if_eq (tgt := 81) dX8_put_70 (by decide) (fun h70 => ?_) (fun h70 => (by first | exact absurd (rfl) h70 | exact absurd h70 (rfl)))
            refine px_iload_7 dX8_put_81 ?_
            refine px_bipush (33) dX8_put_83 rfl ?_
            refine px_bipush (126) dX8_put_85 rfl ?_
            refine cd_X8_29 rfl ⟨⟨Nat.le_of_ble_eq_true rfl, Nat.le_of_ble_eq_true rfl⟩, Nat.le_of_ble_eq_true rfl, Nat.le_of_ble_eq_true rfl, Nat.le_of_ble_eq_true rfl⟩ dX8_put_87 (s_X8_in) ?_
            refine px_ifb_ne (tgt := 97) dX8_put_90 (by decide) (fun h90 => ?_) (fun h90 => (by first | exact absurd (hr) h90 | exact absurd h90 (hr)))
            refine px_iconst (0) dX8_put_97 rfl ?_
            refine px_istore_5 dX8_put_98 rfl ?_
            refine px_iload_3 dX8_put_100 ?_
            refine px_iload_4 dX8_put_101 ?_
            refine px_if_eq (tgt := 110) dX8_put_103 (by decide) (fun h103 => ?_) (fun h103 => (by first | exact absurd (rfl) h103 | exact absurd h103 (rfl)))
            refine px_iconst (1) dX8_put_110 rfl ?_
            refine px_iadd dX8_put_111 ?_
            refine px_istore_3 dX8_put_112 rfl ?_
            refine px_iinc_6 dX8_put_113 rfl ?_
            refine px_goto (tgt := 25) dX8_put_116 (by decide) ?_
            rw [inc_nI]; exact ih2 _ _ _ hv2 hz2 hB
          · have hB : (1 : Int32) = if p_bad x (i + 1) = true then 1 else 0 := by rw [hb1, if_pos (by rw [decide_eq_true hr, Bool.or_true])]
            refine px_iload_6 dX8_put_25 ?_
            refine px_bipush (8) dX8_put_27 rfl ?_
            refine px_icmp_ge (tgt := 119) dX8_put_29 (by decide) (fun h29 => (by first | exact absurd h29 ((nI_ge (a := i) (b := 8) (by omega) (by omega))) | exact absurd ((nI_ge (a := i) (b := 8) (by omega) (by omega))) h29)) (fun h29 => ?_)
            refine px_lload_1 dX8_put_32 ?_
            refine px_bipush (8) dX8_put_33 rfl ?_
            refine px_iload_6 dX8_put_35 ?_
            refine px_imul dX8_put_37 ?_
            refine px_lshr dX8_put_38 ?_
            refine px_ldc2 ck_X8_182 dX8_put_39 ?_
            refine px_land dX8_put_42 ?_
            refine px_l2i dX8_put_43 ?_
            rw [by_m x (by omega)]
            refine px_istore_7 dX8_put_44 rfl ?_
            refine px_iload_4 dX8_put_46 ?_
            refine px_if_ne (tgt := 56) dX8_put_48 (by decide) (fun h48 => (by first | exact absurd h48 (ez) | exact absurd (ez) h48)) (fun h48 => ?_)
            refine px_iload_7 dX8_put_51 ?_
            refine px_if_ne (tgt := 60) dX8_put_53 (by decide) (fun h53 => ?_) (fun h53 => (by first | exact absurd (q.2) h53 | exact absurd h53 (q.2)))
            refine px_iconst (0) dX8_put_60 rfl ?_
            refine px_istore_4 dX8_put_61 rfl ?_
            refine px_iload_5 dX8_put_63 ?_
            refine px_if_ne (tgt := 93) dX8_put_65 (by decide) (fun h65 => (by first | exact absurd h65 (eb) | exact absurd (eb) h65)) (fun h65 => ?_)
            refine px_iload_4 dX8_put_68 ?_
            refine px_if_eq (tgt := 81) dX8_put_70 (by decide) (fun h70 => ?_) (fun h70 => (by first | exact absurd (rfl) h70 | exact absurd h70 (rfl)))
            refine px_iload_7 dX8_put_81 ?_
            refine px_bipush (33) dX8_put_83 rfl ?_
            refine px_bipush (126) dX8_put_85 rfl ?_
            refine cd_X8_29 rfl ⟨⟨Nat.le_of_ble_eq_true rfl, Nat.le_of_ble_eq_true rfl⟩, Nat.le_of_ble_eq_true rfl, Nat.le_of_ble_eq_true rfl, Nat.le_of_ble_eq_true rfl⟩ dX8_put_87 (s_X8_in) ?_
            refine px_ifb_ne (tgt := 97) dX8_put_90 (by decide) (fun h90 => (by first | exact absurd h90 (hr) | exact absurd (hr) h90)) (fun h90 => ?_)
            refine px_iconst (1) dX8_put_93 rfl ?_
            refine px_goto (tgt := 98) dX8_put_94 (by decide) ?_
            refine px_istore_5 dX8_put_98 rfl ?_
            refine px_iload_3 dX8_put_100 ?_
            refine px_iload_4 dX8_put_101 ?_
            refine px_if_eq (tgt := 110) dX8_put_103 (by decide) (fun h103 => ?_) (fun h103 => (by first | exact absurd (rfl) h103 | exact absurd h103 (rfl)))
            refine px_iconst (1) dX8_put_110 rfl ?_
            refine px_iadd dX8_put_111 ?_
            refine px_istore_3 dX8_put_112 rfl ?_
            refine px_iinc_6 dX8_put_113 rfl ?_
            refine px_goto (tgt := 25) dX8_put_116 (by decide) ?_
            rw [inc_nI]; exact ih2 _ _ _ hv2 hz2 hB
      · rw [if_neg q] at hn1
        have hne : ¬ p_n x (i + 1) = i + 1 := by omega
        rw [if_neg hne] at hb1
        have hz2 : (1 : Int32) = if p_n x (i + 1) = i + 1 then 0 else 1 := by rw [if_neg hne]
        have hv2 : v + 0 = nI (p_n x (i + 1)) := hnx _ (fun y => absurd y hne) (fun _ => rfl)
        -- zero or the character 0
        have hbt : p_bad x i = true → (1 : Int32) = if p_bad x (i + 1) = true then 1 else 0 := fun hb => by rw [if_pos (by rw [hb1, hb]; rfl)]
        have hbc : p_by x i ≠ 0 → (1 : Int32) = if p_bad x (i + 1) = true then 1 else 0 := fun hb => by rw [hb1, if_pos (by rw [decide_eq_true hb, Bool.or_true])]
        have hb0 : ¬ p_bad x i = true → p_by x i = 0 → (0 : Int32) = if p_bad x (i + 1) = true then 1 else 0 := fun hb hc => by rw [hb1, Bool.eq_false_iff.mpr hb, Bool.false_or, if_neg (fun y => (of_decide_eq_true y) hc)]
        by_cases hz : p_n x i = i
        · rw [if_pos hz] at ez
          have hc : p_by x i = 0 := Classical.byContradiction (fun y => q ⟨hz, y⟩)
          by_cases hb : p_bad x i = true
          · rw [if_pos hb] at eb
            have hbz : ¬ b = 0 := by rw [eb]; decide
            refine px_iload_6 dX8_put_25 ?_
            refine px_bipush (8) dX8_put_27 rfl ?_
            refine px_icmp_ge (tgt := 119) dX8_put_29 (by decide) (fun h29 => (by first | exact absurd h29 ((nI_ge (a := i) (b := 8) (by omega) (by omega))) | exact absurd ((nI_ge (a := i) (b := 8) (by omega) (by omega))) h29)) (fun h29 => ?_)
            refine px_lload_1 dX8_put_32 ?_
            refine px_bipush (8) dX8_put_33 rfl ?_
            refine px_iload_6 dX8_put_35 ?_
            refine px_imul dX8_put_37 ?_
            refine px_lshr dX8_put_38 ?_
            refine px_ldc2 ck_X8_182 dX8_put_39 ?_
            refine px_land dX8_put_42 ?_
            refine px_l2i dX8_put_43 ?_
            rw [by_m x (by omega)]
            refine px_istore_7 dX8_put_44 rfl ?_
            refine px_iload_4 dX8_put_46 ?_
            refine px_if_ne (tgt := 56) dX8_put_48 (by decide) (fun h48 => (by first | exact absurd h48 (ez) | exact absurd (ez) h48)) (fun h48 => ?_)
            refine px_iload_7 dX8_put_51 ?_
            refine px_if_ne (tgt := 60) dX8_put_53 (by decide) (fun h53 => (by first | exact absurd h53 (hc) | exact absurd (hc) h53)) (fun h53 => ?_)
            refine px_iconst (1) dX8_put_56 rfl ?_
            refine px_goto (tgt := 61) dX8_put_57 (by decide) ?_
            refine px_istore_4 dX8_put_61 rfl ?_
            refine px_iload_5 dX8_put_63 ?_
            refine px_if_ne (tgt := 93) dX8_put_65 (by decide) (fun h65 => ?_) (fun h65 => (by first | exact absurd (hbz) h65 | exact absurd h65 (hbz)))
            refine px_iconst (1) dX8_put_93 rfl ?_
            refine px_goto (tgt := 98) dX8_put_94 (by decide) ?_
            refine px_istore_5 dX8_put_98 rfl ?_
            refine px_iload_3 dX8_put_100 ?_
            refine px_iload_4 dX8_put_101 ?_
            refine px_if_eq (tgt := 110) dX8_put_103 (by decide) (fun h103 => (by first | exact absurd h103 ((by decide)) | exact absurd ((by decide)) h103)) (fun h103 => ?_)
            refine px_iconst (0) dX8_put_106 rfl ?_
            refine px_goto (tgt := 111) dX8_put_107 (by decide) ?_
            refine px_iadd dX8_put_111 ?_
            refine px_istore_3 dX8_put_112 rfl ?_
            refine px_iinc_6 dX8_put_113 rfl ?_
            refine px_goto (tgt := 25) dX8_put_116 (by decide) ?_
            rw [inc_nI]; exact ih2 _ _ _ hv2 hz2 (hbt hb)
          · rw [if_neg hb] at eb
            refine px_iload_6 dX8_put_25 ?_
            refine px_bipush (8) dX8_put_27 rfl ?_
            refine px_icmp_ge (tgt := 119) dX8_put_29 (by decide) (fun h29 => (by first | exact absurd h29 ((nI_ge (a := i) (b := 8) (by omega) (by omega))) | exact absurd ((nI_ge (a := i) (b := 8) (by omega) (by omega))) h29)) (fun h29 => ?_)
            refine px_lload_1 dX8_put_32 ?_
            refine px_bipush (8) dX8_put_33 rfl ?_
            refine px_iload_6 dX8_put_35 ?_
            refine px_imul dX8_put_37 ?_
            refine px_lshr dX8_put_38 ?_
            refine px_ldc2 ck_X8_182 dX8_put_39 ?_
            refine px_land dX8_put_42 ?_
            refine px_l2i dX8_put_43 ?_
            rw [by_m x (by omega)]
            refine px_istore_7 dX8_put_44 rfl ?_
            refine px_iload_4 dX8_put_46 ?_
            refine px_if_ne (tgt := 56) dX8_put_48 (by decide) (fun h48 => (by first | exact absurd h48 (ez) | exact absurd (ez) h48)) (fun h48 => ?_)
            refine px_iload_7 dX8_put_51 ?_
            refine px_if_ne (tgt := 60) dX8_put_53 (by decide) (fun h53 => (by first | exact absurd h53 (hc) | exact absurd (hc) h53)) (fun h53 => ?_)
            refine px_iconst (1) dX8_put_56 rfl ?_
            refine px_goto (tgt := 61) dX8_put_57 (by decide) ?_
            refine px_istore_4 dX8_put_61 rfl ?_
            refine px_iload_5 dX8_put_63 ?_
            refine px_if_ne (tgt := 93) dX8_put_65 (by decide) (fun h65 => (by first | exact absurd h65 (eb) | exact absurd (eb) h65)) (fun h65 => ?_)
            refine px_iload_4 dX8_put_68 ?_
            refine px_if_eq (tgt := 81) dX8_put_70 (by decide) (fun h70 => (by first | exact absurd h70 ((by decide)) | exact absurd ((by decide)) h70)) (fun h70 => ?_)
            refine px_iload_7 dX8_put_73 ?_
            refine px_if_eq (tgt := 97) dX8_put_75 (by decide) (fun h75 => ?_) (fun h75 => (by first | exact absurd (hc) h75 | exact absurd h75 (hc)))
            refine px_iconst (0) dX8_put_97 rfl ?_
            refine px_istore_5 dX8_put_98 rfl ?_
            refine px_iload_3 dX8_put_100 ?_
            refine px_iload_4 dX8_put_101 ?_
            refine px_if_eq (tgt := 110) dX8_put_103 (by decide) (fun h103 => (by first | exact absurd h103 ((by decide)) | exact absurd ((by decide)) h103)) (fun h103 => ?_)
            refine px_iconst (0) dX8_put_106 rfl ?_
            refine px_goto (tgt := 111) dX8_put_107 (by decide) ?_
            refine px_iadd dX8_put_111 ?_
            refine px_istore_3 dX8_put_112 rfl ?_
            refine px_iinc_6 dX8_put_113 rfl ?_
            refine px_goto (tgt := 25) dX8_put_116 (by decide) ?_
            rw [inc_nI]; exact ih2 _ _ _ hv2 hz2 (hb0 hb hc)
        · rw [if_neg hz] at ez
          have hzz : ¬ z = 0 := by rw [ez]; decide
          by_cases hb : p_bad x i = true
          · rw [if_pos hb] at eb
            have hbz : ¬ b = 0 := by rw [eb]; decide
            refine px_iload_6 dX8_put_25 ?_
            refine px_bipush (8) dX8_put_27 rfl ?_
            refine px_icmp_ge (tgt := 119) dX8_put_29 (by decide) (fun h29 => (by first | exact absurd h29 ((nI_ge (a := i) (b := 8) (by omega) (by omega))) | exact absurd ((nI_ge (a := i) (b := 8) (by omega) (by omega))) h29)) (fun h29 => ?_)
            refine px_lload_1 dX8_put_32 ?_
            refine px_bipush (8) dX8_put_33 rfl ?_
            refine px_iload_6 dX8_put_35 ?_
            refine px_imul dX8_put_37 ?_
            refine px_lshr dX8_put_38 ?_
            refine px_ldc2 ck_X8_182 dX8_put_39 ?_
            refine px_land dX8_put_42 ?_
            refine px_l2i dX8_put_43 ?_
            rw [by_m x (by omega)]
            refine px_istore_7 dX8_put_44 rfl ?_
            refine px_iload_4 dX8_put_46 ?_
            refine px_if_ne (tgt := 56) dX8_put_48 (by decide) (fun h48 => ?_) (fun h48 => (by first | exact absurd (hzz) h48 | exact absurd h48 (hzz)))
            refine px_iconst (1) dX8_put_56 rfl ?_
            refine px_goto (tgt := 61) dX8_put_57 (by decide) ?_
            refine px_istore_4 dX8_put_61 rfl ?_
            refine px_iload_5 dX8_put_63 ?_
            refine px_if_ne (tgt := 93) dX8_put_65 (by decide) (fun h65 => ?_) (fun h65 => (by first | exact absurd (hbz) h65 | exact absurd h65 (hbz)))
            refine px_iconst (1) dX8_put_93 rfl ?_
            refine px_goto (tgt := 98) dX8_put_94 (by decide) ?_
            refine px_istore_5 dX8_put_98 rfl ?_
            refine px_iload_3 dX8_put_100 ?_
            refine px_iload_4 dX8_put_101 ?_
            refine px_if_eq (tgt := 110) dX8_put_103 (by decide) (fun h103 => (by first | exact absurd h103 ((by decide)) | exact absurd ((by decide)) h103)) (fun h103 => ?_)
            refine px_iconst (0) dX8_put_106 rfl ?_
            refine px_goto (tgt := 111) dX8_put_107 (by decide) ?_
            refine px_iadd dX8_put_111 ?_
            refine px_istore_3 dX8_put_112 rfl ?_
            refine px_iinc_6 dX8_put_113 rfl ?_
            refine px_goto (tgt := 25) dX8_put_116 (by decide) ?_
            rw [inc_nI]; exact ih2 _ _ _ hv2 hz2 (hbt hb)
          · rw [if_neg hb] at eb
            by_cases hc : p_by x i = 0
            · skip
              refine px_iload_6 dX8_put_25 ?_
              refine px_bipush (8) dX8_put_27 rfl ?_
              refine px_icmp_ge (tgt := 119) dX8_put_29 (by decide) (fun h29 => (by first | exact absurd h29 ((nI_ge (a := i) (b := 8) (by omega) (by omega))) | exact absurd ((nI_ge (a := i) (b := 8) (by omega) (by omega))) h29)) (fun h29 => ?_)
              refine px_lload_1 dX8_put_32 ?_
              refine px_bipush (8) dX8_put_33 rfl ?_
              refine px_iload_6 dX8_put_35 ?_
              refine px_imul dX8_put_37 ?_
              refine px_lshr dX8_put_38 ?_
              refine px_ldc2 ck_X8_182 dX8_put_39 ?_
              refine px_land dX8_put_42 ?_
              refine px_l2i dX8_put_43 ?_
              rw [by_m x (by omega)]
              refine px_istore_7 dX8_put_44 rfl ?_
              refine px_iload_4 dX8_put_46 ?_
              refine px_if_ne (tgt := 56) dX8_put_48 (by decide) (fun h48 => ?_) (fun h48 => (by first | exact absurd (hzz) h48 | exact absurd h48 (hzz)))
              refine px_iconst (1) dX8_put_56 rfl ?_
              refine px_goto (tgt := 61) dX8_put_57 (by decide) ?_
              refine px_istore_4 dX8_put_61 rfl ?_
              refine px_iload_5 dX8_put_63 ?_
              refine px_if_ne (tgt := 93) dX8_put_65 (by decide) (fun h65 => (by first | exact absurd h65 (eb) | exact absurd (eb) h65)) (fun h65 => ?_)
              refine px_iload_4 dX8_put_68 ?_
              refine px_if_eq (tgt := 81) dX8_put_70 (by decide) (fun h70 => (by first | exact absurd h70 ((by decide)) | exact absurd ((by decide)) h70)) (fun h70 => ?_)
              refine px_iload_7 dX8_put_73 ?_
              refine px_if_eq (tgt := 97) dX8_put_75 (by decide) (fun h75 => ?_) (fun h75 => (by first | exact absurd (hc) h75 | exact absurd h75 (hc)))
              refine px_iconst (0) dX8_put_97 rfl ?_
              refine px_istore_5 dX8_put_98 rfl ?_
              refine px_iload_3 dX8_put_100 ?_
              refine px_iload_4 dX8_put_101 ?_
              refine px_if_eq (tgt := 110) dX8_put_103 (by decide) (fun h103 => (by first | exact absurd h103 ((by decide)) | exact absurd ((by decide)) h103)) (fun h103 => ?_)
              refine px_iconst (0) dX8_put_106 rfl ?_
              refine px_goto (tgt := 111) dX8_put_107 (by decide) ?_
              refine px_iadd dX8_put_111 ?_
              refine px_istore_3 dX8_put_112 rfl ?_
              refine px_iinc_6 dX8_put_113 rfl ?_
              refine px_goto (tgt := 25) dX8_put_116 (by decide) ?_
              rw [inc_nI]; exact ih2 _ _ _ hv2 hz2 (hb0 hb hc)
            · skip
              refine px_iload_6 dX8_put_25 ?_
              refine px_bipush (8) dX8_put_27 rfl ?_
              refine px_icmp_ge (tgt := 119) dX8_put_29 (by decide) (fun h29 => (by first | exact absurd h29 ((nI_ge (a := i) (b := 8) (by omega) (by omega))) | exact absurd ((nI_ge (a := i) (b := 8) (by omega) (by omega))) h29)) (fun h29 => ?_)
              refine px_lload_1 dX8_put_32 ?_
              refine px_bipush (8) dX8_put_33 rfl ?_
              refine px_iload_6 dX8_put_35 ?_
              refine px_imul dX8_put_37 ?_
              refine px_lshr dX8_put_38 ?_
              refine px_ldc2 ck_X8_182 dX8_put_39 ?_
              refine px_land dX8_put_42 ?_
              refine px_l2i dX8_put_43 ?_
              rw [by_m x (by omega)]
              refine px_istore_7 dX8_put_44 rfl ?_
              refine px_iload_4 dX8_put_46 ?_
              refine px_if_ne (tgt := 56) dX8_put_48 (by decide) (fun h48 => ?_) (fun h48 => (by first | exact absurd (hzz) h48 | exact absurd h48 (hzz)))
              refine px_iconst (1) dX8_put_56 rfl ?_
              refine px_goto (tgt := 61) dX8_put_57 (by decide) ?_
              refine px_istore_4 dX8_put_61 rfl ?_
              refine px_iload_5 dX8_put_63 ?_
              refine px_if_ne (tgt := 93) dX8_put_65 (by decide) (fun h65 => (by first | exact absurd h65 (eb) | exact absurd (eb) h65)) (fun h65 => ?_)
              refine px_iload_4 dX8_put_68 ?_
              refine px_if_eq (tgt := 81) dX8_put_70 (by decide) (fun h70 => (by first | exact absurd h70 ((by decide)) | exact absurd ((by decide)) h70)) (fun h70 => ?_)
              refine px_iload_7 dX8_put_73 ?_
              refine px_if_eq (tgt := 97) dX8_put_75 (by decide) (fun h75 => (by first | exact absurd h75 (hc) | exact absurd (hc) h75)) (fun h75 => ?_)
              refine px_goto (tgt := 93) dX8_put_78 (by decide) ?_
              refine px_iconst (1) dX8_put_93 rfl ?_
              refine px_goto (tgt := 98) dX8_put_94 (by decide) ?_
              refine px_istore_5 dX8_put_98 rfl ?_
              refine px_iload_3 dX8_put_100 ?_
              refine px_iload_4 dX8_put_101 ?_
              refine px_if_eq (tgt := 110) dX8_put_103 (by decide) (fun h103 => (by first | exact absurd h103 ((by decide)) | exact absurd ((by decide)) h103)) (fun h103 => ?_)
              refine px_iconst (0) dX8_put_106 rfl ?_
              refine px_goto (tgt := 111) dX8_put_107 (by decide) ?_
              refine px_iadd dX8_put_111 ?_
              refine px_istore_3 dX8_put_112 rfl ?_
              refine px_iinc_6 dX8_put_113 rfl ?_
              refine px_goto (tgt := 25) dX8_put_116 (by decide) ?_
              rw [inc_nI]; exact ih2 _ _ _ hv2 hz2 (hbc hc)
  by_cases h0 : p_by x 0 = 0
  · skip
    refine px_iconst (0) dX8_put_0 rfl ?_
    refine px_istore_3 dX8_put_1 rfl ?_
    refine px_iconst (0) dX8_put_2 rfl ?_
    refine px_istore_4 dX8_put_3 rfl ?_
    refine px_lload_1 dX8_put_5 ?_
    refine px_ldc2 ck_X8_182 dX8_put_6 ?_
    refine px_land dX8_put_9 ?_
    refine px_lconst (0) dX8_put_10 rfl ?_
    refine px_lcmp dX8_put_11 ?_
    refine px_lc_ne (tgt := 19) dX8_put_12 (by decide) (fun h12 => (by first | exact absurd h12 (((by_0 x).mpr h0)) | exact absurd (((by_0 x).mpr h0)) h12)) (fun h12 => ?_)
    refine px_iconst (1) dX8_put_15 rfl ?_
    refine px_goto (tgt := 20) dX8_put_16 (by decide) ?_
    refine px_istore_5 dX8_put_20 rfl ?_
    refine px_iconst (0) dX8_put_22 rfl ?_
    refine px_istore_6 dX8_put_23 rfl ?_
    exact LC 8 0 rfl _ _ _ rfl rfl (by rw [p_bad, if_pos (decide_eq_true h0)]) _
  · skip
    refine px_iconst (0) dX8_put_0 rfl ?_
    refine px_istore_3 dX8_put_1 rfl ?_
    refine px_iconst (0) dX8_put_2 rfl ?_
    refine px_istore_4 dX8_put_3 rfl ?_
    refine px_lload_1 dX8_put_5 ?_
    refine px_ldc2 ck_X8_182 dX8_put_6 ?_
    refine px_land dX8_put_9 ?_
    refine px_lconst (0) dX8_put_10 rfl ?_
    refine px_lcmp dX8_put_11 ?_
    refine px_lc_ne (tgt := 19) dX8_put_12 (by decide) (fun h12 => ?_) (fun h12 => (by first | exact absurd ((fun y => h0 ((by_0 x).mp y))) h12 | exact absurd h12 ((fun y => h0 ((by_0 x).mp y)))))
    refine px_iconst (0) dX8_put_19 rfl ?_
    refine px_istore_5 dX8_put_20 rfl ?_
    refine px_iconst (0) dX8_put_22 rfl ?_
    refine px_istore_6 dX8_put_23 rfl ?_
    exact LC 8 0 rfl _ _ _ rfl rfl (by rw [p_bad, if_neg (fun y => h0 (of_decide_eq_true y))]) _
end MPT

