section CPT
variable {l : Launch} {G : px_G} {T : px_T} {I I' : px_I} {J : px_J} {R : px_R} {μ : px_M} {x h w : Nat} {σ τ : px_s} {A : px_a} {kn : Nat} {H : Nat → px_s}
theorem by_z (x : Int64) (i : Nat) : p_by x i = 0 ↔ x.toBitVec.toNat / 2 ^ (8 * i) % 256 = 0 := by
  have := by_lt x i
  unfold p_by
  rw [show (0 : Int32) = nI 0 from rfl, nI_eq (by omega) (by omega)]
theorem by_rg0 {x : Int64} {i : Nat} (h : rg (p_by x i) 33 126) : p_by x i ≠ 0 := by
  intro z
  rw [z] at h
  exact absurd h (by decide)
theorem pn_full (x : Int64) (s : Nat) (h : ∀ j, j < s → rg (p_by x j) 33 126) : p_n x s = s ∧ (0 < s → p_bad x s = false) := by
  induction s with
  | zero => exact ⟨rfl, fun q => absurd q (Nat.lt_irrefl 0)⟩
  | succ s ih =>
    obtain ⟨i1, i2⟩ := ih (fun j hj => h j (by omega))
    have hs := h s (by omega)
    have e1 : p_n x (s + 1) = s + 1 := by rw [p_n, if_pos ⟨i1, by_rg0 hs⟩]
    refine ⟨e1, fun _ => ?_⟩
    rw [p_bad, if_pos e1, decide_eq_false (fun q => q hs), Bool.or_false]
    rcases (by omega : s = 0 ∨ 0 < s) with rfl | z
    · rw [p_bad]; exact decide_eq_false (by_rg0 hs)
    · exact i2 z
theorem pbad_mono (x : Int64) {i j : Nat} (h : i ≤ j) (hb : p_bad x i = true) : p_bad x j = true := by
  induction j with
  | zero => obtain rfl : i = 0 := by omega
            exact hb
  | succ j ih =>
    rcases (by omega : i ≤ j ∨ i = j + 1) with z | rfl
    · rw [p_bad, ih z, Bool.true_or]
    · exact hb
theorem pn_stop (x : Int64) {s : Nat} (h : p_n x s = s) (h0 : p_by x s = 0) : ∀ i, s ≤ i → p_n x i = s := by
  intro i
  induction i with
  | zero => intro hi; obtain rfl : s = 0 := by omega
            rfl
  | succ i ih =>
    intro hi
    rcases (by omega : s = i + 1 ∨ s = i ∨ s < i) with z | z | z
    · rw [← z]; exact h
    · subst z; rw [p_n, if_neg (fun q => q.2 h0)]; exact h
    · rw [p_n, ih (by omega), if_neg (fun q => absurd q.1 (by omega))]
theorem pbad_rest (x : Int64) {s : Nat} (h : p_n x s = s) (hz : ∀ i, s ≤ i → p_by x i = 0) : ∀ i, s ≤ i → p_bad x i = p_bad x s := by
  intro i
  induction i with
  | zero => intro hi; obtain rfl : s = 0 := by omega
            rfl
  | succ i ih =>
    intro hi
    rcases (by omega : s = i + 1 ∨ s ≤ i) with z | z
    · rw [← z]
    · have e := pn_stop x h (hz s (Nat.le_refl _)) (i + 1) hi
      rw [p_bad, if_neg (by omega), ih z, decide_eq_false (fun q => q (hz i z)), Bool.or_false]
theorem rest_z (x : Int64) {s : Nat} (h : x.toBitVec.toNat / 2 ^ (8 * s) = 0) : ∀ i, s ≤ i → p_by x i = 0 := by
  intro i hi
  rw [by_z, show 8 * i = 8 * s + 8 * (i - s) by omega, Nat.pow_add, ← Nat.div_div_eq_div_mul, h, Nat.zero_div]
theorem rest_nz (x : Int64) {s : Nat} (hs : s ≤ 8) (h : ∀ i, s ≤ i → i < 8 → p_by x i = 0) : x.toBitVec.toNat / 2 ^ (8 * s) = 0 := by
  have hz : ∀ d, d ≤ 8 - s → x.toBitVec.toNat / 2 ^ (8 * (8 - d)) = 0 := by
    intro d
    induction d with
    | zero => intro _; exact Nat.div_eq_of_lt x.toBitVec.isLt
    | succ d ih =>
      intro hd
      have h1 := ih (by omega)
      have h2 := (by_z x (8 - (d + 1))).mp (h _ (by omega) (by omega))
      rw [show 8 * (8 - d) = 8 * (8 - (d + 1)) + 8 by omega, Nat.pow_add, ← Nat.div_div_eq_div_mul] at h1
      omega
  have := hz (8 - s) (Nat.le_refl _)
  rw [show 8 - (8 - s) = s by omega] at this
  exact this
theorem pn_pos (x : Int64) (h : ¬ p_bad x 8 = true) : 0 < p_n x 8 := by
  have h0 : p_by x 0 ≠ 0 := fun z => h (pbad_mono x (Nat.zero_le 8) (decide_eq_true z))
  have hm : ∀ i, p_n x i ≤ p_n x (i + 1) := by
    intro i
    rw [p_n]
    split
    · have := p_n_le x i; omega
    · exact Nat.le_refl _
  have h1 : p_n x 1 = 1 := by rw [p_n, if_pos ⟨rfl, h0⟩]
  have : p_n x 1 ≤ p_n x 2 := hm 1
  have : p_n x 2 ≤ p_n x 3 := hm 2
  have : p_n x 3 ≤ p_n x 4 := hm 3
  have : p_n x 4 ≤ p_n x 5 := hm 4
  have : p_n x 5 ≤ p_n x 6 := hm 5
  have : p_n x 6 ≤ p_n x 7 := hm 6
  have : p_n x 7 ≤ p_n x 8 := hm 7
  omega
theorem s_X7_countSigns {x : Int64} : px_K l G 1 mX7_countSigns ([.long x]) (μ) (some (.int (if p_bad x 8 = true then 0 else nI (p_n x 8)))) (μ) := by
  refine px_met (M := mX7_countSigns) ([some (.long x), none, none, none, none]) (by decide +kernel) rfl (Nat.le_of_ble_eq_true rfl) rfl ?_
  generalize hQ : (fun v m_1 => v = some (Value.int (if p_bad x 8 = true then 0 else nI (p_n x 8))) ∧ m_1 = μ : Option Value → px_M → Prop) = Q
  have L : ∀ n s (r : Int64), s + n = 8 → r.toBitVec.toNat = x.toBitVec.toNat / 2 ^ (8 * s) → (∀ j, j < s → rg (p_by x j) 33 126) → (px_W l G yX7_countSigns cX7_countSigns 5 (some .int) (px_rm 1 0 0) (px_Fn G Q 0 0) 5 [some (.long x), none, some (.long r), none, some (.int (nI s))] [] 0 0 μ) := by
    intro n
    induction n with
    | zero =>
      intro s r hs hr hj
      obtain rfl : s = 8 := by omega
      obtain ⟨p1, p2⟩ := pn_full x 8 hj
      refine px_iload_4 dX7_countSigns_5 ?_
      refine px_bipush (8) dX7_countSigns_7 rfl ?_
      refine px_icmp_ge (tgt := 47) dX7_countSigns_9 (by decide) (fun h9 => ?_) (fun h9 => (by first | exact absurd ((nI_le (a := 8) (b := 8) (by omega) (by omega))) h9 | exact absurd h9 ((nI_le (a := 8) (b := 8) (by omega) (by omega)))))
      refine px_iload_4 dX7_countSigns_47 ?_
      refine px_iret dX7_countSigns_49 ?_
      subst hQ; rw [p2 (by decide), if_neg Bool.false_ne_true, p1]; exact ⟨rfl, rfl⟩
    | succ n ih =>
      intro s r hs hr hj
      obtain ⟨p1, p2⟩ := pn_full x s hj
      have hlt : ¬ nI 8 ≤ nI s := nI_ge (a := s) (b := 8) (by omega) (by omega)
      by_cases hz : x.toBitVec.toNat / 2 ^ (8 * s) = 0
      · have r0 : r = 0 := by
          apply Int64.toBitVec_inj.mp
          apply BitVec.eq_of_toNat_eq
          rw [hr, hz]; rfl
        have hv : (if p_bad x 8 = true then 0 else nI (p_n x 8)) = nI s := by
          have hzz := rest_z x hz
          have e1 := pn_stop x p1 (hzz s (Nat.le_refl _)) 8 (by omega)
          have e2 := pbad_rest x p1 hzz 8 (by omega)
          rcases (by omega : s = 0 ∨ 0 < s) with rfl | z
          · rw [e2, p_bad, decide_eq_true (hzz 0 (Nat.le_refl _)), if_pos rfl]; rfl
          · rw [e2, p2 z, if_neg Bool.false_ne_true, e1]
        refine px_iload_4 dX7_countSigns_5 ?_
        refine px_bipush (8) dX7_countSigns_7 rfl ?_
        refine px_icmp_ge (tgt := 47) dX7_countSigns_9 (by decide) (fun h9 => (by first | exact absurd h9 (hlt) | exact absurd (hlt) h9)) (fun h9 => ?_)
        refine px_lload_2 dX7_countSigns_12 ?_
        refine px_lconst (0) dX7_countSigns_13 rfl ?_
        refine px_lcmp dX7_countSigns_14 ?_
        refine px_lc_eq (tgt := 47) dX7_countSigns_15 (by decide) (fun h15 => ?_) (fun h15 => (by first | exact absurd (r0) h15 | exact absurd h15 (r0)))
        refine px_iload_4 dX7_countSigns_47 ?_
        refine px_iret dX7_countSigns_49 ?_
        subst hQ; rw [hv]; exact ⟨rfl, rfl⟩
      · have r0 : ¬ r = 0 := fun q => hz (by rw [← hr, q]; rfl)
        have hb : (r &&& 255).toInt32 = p_by x s := l2i_of (by rw [show (r &&& 255).toBitVec = r.toBitVec &&& 255#64 from rfl, and255, hr]) (by_lt x s)
        by_cases hg : rg (p_by x s) 33 126
        · have hsh : ((r.toUInt64 >>> ((8 : Int32).toInt64.toUInt64 &&& Int64.toUInt64 63)).toInt64).toBitVec.toNat = x.toBitVec.toNat / 2 ^ (8 * (s + 1)) := by
            have e : ((r.toUInt64 >>> ((8 : Int32).toInt64.toUInt64 &&& Int64.toUInt64 63)).toInt64).toBitVec = r.toBitVec >>> 8 := rfl
            rw [e, BitVec.toNat_ushiftRight, Nat.shiftRight_eq_div_pow, hr, Nat.div_div_eq_div_mul, ← Nat.pow_add]
            rfl
          refine px_iload_4 dX7_countSigns_5 ?_
          refine px_bipush (8) dX7_countSigns_7 rfl ?_
          refine px_icmp_ge (tgt := 47) dX7_countSigns_9 (by decide) (fun h9 => (by first | exact absurd h9 (hlt) | exact absurd (hlt) h9)) (fun h9 => ?_)
          refine px_lload_2 dX7_countSigns_12 ?_
          refine px_lconst (0) dX7_countSigns_13 rfl ?_
          refine px_lcmp dX7_countSigns_14 ?_
          refine px_lc_eq (tgt := 47) dX7_countSigns_15 (by decide) (fun h15 => (by first | exact absurd h15 (r0) | exact absurd (r0) h15)) (fun h15 => ?_)
          refine px_lload_2 dX7_countSigns_18 ?_
          refine px_ldc2 ck_X7_331 dX7_countSigns_19 ?_
          refine px_land dX7_countSigns_22 ?_
          refine px_l2i dX7_countSigns_23 ?_
          rw [hb]
          refine px_bipush (33) dX7_countSigns_24 rfl ?_
          refine px_bipush (126) dX7_countSigns_26 rfl ?_
          refine cd_X7_209 rfl ⟨⟨Nat.le_of_ble_eq_true rfl, Nat.le_of_ble_eq_true rfl⟩, Nat.le_of_ble_eq_true rfl, Nat.le_of_ble_eq_true rfl, Nat.le_of_ble_eq_true rfl⟩ dX7_countSigns_28 (s_X7_isOutside) ?_
          refine px_ifb_eq (tgt := 36) dX7_countSigns_31 (by decide) (fun h31 => ?_) (fun h31 => (by first | exact absurd (hg) h31 | exact absurd h31 (hg)))
          refine px_lload_2 dX7_countSigns_36 ?_
          refine px_bipush (8) dX7_countSigns_37 rfl ?_
          refine px_lushr dX7_countSigns_39 ?_
          refine px_lstore_2 dX7_countSigns_40 rfl ?_
          refine px_iinc_4 dX7_countSigns_41 rfl ?_
          refine px_goto (tgt := 5) dX7_countSigns_44 (by decide) ?_
          rw [inc_nI]; exact ih (s + 1) _ (by omega) hsh (fun j hjj => by rcases (by omega : j < s ∨ j = s) with z | rfl; exact hj j z; exact hg)
        · have hbad : p_bad x 8 = true := by
            by_cases h0 : p_by x s = 0
            · obtain ⟨j, hj1, hj2, hj3⟩ : ∃ j, s ≤ j ∧ j < 8 ∧ p_by x j ≠ 0 := Classical.byContradiction (fun no => hz (rest_nz x (by omega) (fun i a b => Classical.byContradiction (fun y => no ⟨i, a, b, y⟩))))
              have hne : s ≠ j := fun q => hj3 (q ▸ h0)
              have e := pn_stop x p1 h0 (j + 1) (by omega)
              exact pbad_mono x (show j + 1 ≤ 8 by omega) (by rw [p_bad, if_neg (by omega), decide_eq_true hj3, Bool.or_true])
            · have e1 : p_n x (s + 1) = s + 1 := by rw [p_n, if_pos ⟨p1, h0⟩]
              exact pbad_mono x (show s + 1 ≤ 8 by omega) (by rw [p_bad, if_pos e1, decide_eq_true hg, Bool.or_true])
          refine px_iload_4 dX7_countSigns_5 ?_
          refine px_bipush (8) dX7_countSigns_7 rfl ?_
          refine px_icmp_ge (tgt := 47) dX7_countSigns_9 (by decide) (fun h9 => (by first | exact absurd h9 (hlt) | exact absurd (hlt) h9)) (fun h9 => ?_)
          refine px_lload_2 dX7_countSigns_12 ?_
          refine px_lconst (0) dX7_countSigns_13 rfl ?_
          refine px_lcmp dX7_countSigns_14 ?_
          refine px_lc_eq (tgt := 47) dX7_countSigns_15 (by decide) (fun h15 => (by first | exact absurd h15 (r0) | exact absurd (r0) h15)) (fun h15 => ?_)
          refine px_lload_2 dX7_countSigns_18 ?_
          refine px_ldc2 ck_X7_331 dX7_countSigns_19 ?_
          refine px_land dX7_countSigns_22 ?_
          refine px_l2i dX7_countSigns_23 ?_
          rw [hb]
          refine px_bipush (33) dX7_countSigns_24 rfl ?_
          refine px_bipush (126) dX7_countSigns_26 rfl ?_
          refine cd_X7_209 rfl ⟨⟨Nat.le_of_ble_eq_true rfl, Nat.le_of_ble_eq_true rfl⟩, Nat.le_of_ble_eq_true rfl, Nat.le_of_ble_eq_true rfl, Nat.le_of_ble_eq_true rfl⟩ dX7_countSigns_28 (s_X7_isOutside) ?_
          refine px_ifb_eq (tgt := 36) dX7_countSigns_31 (by decide) (fun h31 => (by first | exact absurd h31 ((out_rg.mpr hg)) | exact absurd ((out_rg.mpr hg)) h31)) (fun h31 => ?_)
          refine px_iconst (0) dX7_countSigns_34 rfl ?_
          refine px_iret dX7_countSigns_35 ?_
          subst hQ; rw [if_pos hbad]; exact ⟨rfl, rfl⟩
  refine px_lload_0 dX7_countSigns_0 ?_
  refine px_lstore_2 dX7_countSigns_1 rfl ?_
  refine px_iconst (0) dX7_countSigns_2 rfl ?_
  refine px_istore_4 dX7_countSigns_3 rfl ?_
  exact L 8 0 x rfl (by rw [Nat.mul_zero, Nat.pow_zero, Nat.div_one]) (fun j hj => absurd hj (Nat.not_lt_zero j))
theorem by_c (x : Int64) {i : Nat} (hi : i < 8) : ((x.toUInt64 >>> (((8 : Int32) * nI i).toInt64.toUInt64 &&& Int64.toUInt64 63)).toInt64).toInt32 &&& 255 = p_by x i := by
  rw [pk_and _ 8 (by decide)]
  have e : ((x.toUInt64 >>> (((8 : Int32) * nI i).toInt64.toUInt64 &&& Int64.toUInt64 63)).toInt64).toBitVec = x.toBitVec >>> (8 * i) := by
    rcases (by omega : i = 0 ∨ i = 1 ∨ i = 2 ∨ i = 3 ∨ i = 4 ∨ i = 5 ∨ i = 6 ∨ i = 7) with rfl | rfl | rfl | rfl | rfl | rfl | rfl | rfl <;> rfl
  generalize hy : (x.toUInt64 >>> (((8 : Int32) * nI i).toInt64.toUInt64 &&& Int64.toUInt64 63)).toInt64 = y at e
  have h2 : y.toInt32.toBitVec.toNat = x.toBitVec.toNat / 2 ^ (8 * i) % 2 ^ 32 := by
    rw [show y.toInt32.toBitVec = y.toBitVec.signExtend 32 from rfl, BitVec.signExtend_eq_setWidth_of_le _ (by decide), BitVec.toNat_setWidth, e, BitVec.toNat_ushiftRight, Nat.shiftRight_eq_div_pow]
  rw [h2]
  unfold p_by
  congr 1
  omega
theorem s_X7_put {y : Int64} (hx : px_co G T R x) (h : px_CI I x A) (hV : px_AV A) : px_C l G 2 0 0 mX7_put [.ref x, .long y] (T, I, J, R) (px_Qx T I J R x (.int (f_put A.2.2.2 y).1) (A.1, A.2.1, A.2.2.1, (f_put A.2.2.2 y).2)) := by
  have hcp := h.2.2.2.2.1
  obtain ⟨c1, c2, c3⟩ := id hcp
  have hcs := s_X7_countSigns (l := l) (G := G) (x := y) (μ := (T, I, J, R))
  refine px_met (M := mX7_put) ([some (.ref x), some (.long y), none, none, none]) (by decide +kernel) rfl (Nat.le_of_ble_eq_true rfl) rfl ?_
  generalize hQ : px_Qx T I J R x (.int (f_put A.2.2.2 y).1) (A.1, A.2.1, A.2.2.1, (f_put A.2.2.2 y).2) = Q
  by_cases hb : p_bad y 8 = true
  · have hf : f_put A.2.2.2 y = (-2, A.2.2.2) := if_pos hb
    rw [if_pos hb] at hcs
    rw [hf] at hQ
    refine px_lload_1 dX7_put_0 ?_
    refine cd_X7_299 rfl ⟨⟨Nat.le_of_ble_eq_true rfl, Nat.le_of_ble_eq_true rfl⟩, Nat.le_of_ble_eq_true rfl, Nat.le_of_ble_eq_true rfl, Nat.le_of_ble_eq_true rfl⟩ dX7_put_1 (hcs) ?_
    refine px_istore_3 dX7_put_4 rfl ?_
    refine px_iload_3 dX7_put_5 ?_
    refine px_if_ne (tgt := 12) dX7_put_6 (by decide) (fun h6 => (by first | exact absurd h6 (rfl) | exact absurd (rfl) h6)) (fun h6 => ?_)
    refine px_bipush (-2) dX7_put_9 rfl ?_
    refine px_iret dX7_put_11 ?_
    subst hQ; exact ⟨rfl, I, J, rfl, h, fun _ _ => rfl, fun _ _ => rfl⟩
  · rw [if_neg hb] at hcs
    have hn := p_n_le y 8
    have hnz : ¬ nI (p_n y 8) = 0 := nI_ne0 (pn_pos y hb) (by omega)
    by_cases h80 : 80 < A.2.2.2.1 + p_n y 8
    · have hf : f_put A.2.2.2 y = (-4, A.2.2.2) := by rw [f_put, if_neg hb, if_pos h80]
      rw [hf] at hQ
      refine px_lload_1 dX7_put_0 ?_
      refine cd_X7_299 rfl ⟨⟨Nat.le_of_ble_eq_true rfl, Nat.le_of_ble_eq_true rfl⟩, Nat.le_of_ble_eq_true rfl, Nat.le_of_ble_eq_true rfl, Nat.le_of_ble_eq_true rfl⟩ dX7_put_1 (hcs) ?_
      refine px_istore_3 dX7_put_4 rfl ?_
      refine px_iload_3 dX7_put_5 ?_
      refine px_if_ne (tgt := 12) dX7_put_6 (by decide) (fun h6 => ?_) (fun h6 => (by first | exact absurd (hnz) h6 | exact absurd h6 (hnz)))
      refine px_aload_0 dX7_put_12 ?_
      refine gf_X7_34 rfl dX7_put_13 (by first | assumption | exact co_a hx | exact co_r0 hx | exact co_r1 hx | exact co_r4 hx | exact co_r5 hx | exact co_w hx | exact co_h hx | exact pa_a (co_pa hx) | exact (co_re hx).1) (by first | assumption | exact co_a hx | exact co_r0 hx | exact co_r1 hx | exact co_r4 hx | exact co_r5 hx | exact co_w hx | exact co_h hx | exact pa_a (co_pa hx) | exact (co_re hx).1) ?_
      refine gf_X7_113 rfl dX7_put_16 (by first | assumption | exact co_a hx | exact co_r0 hx | exact co_r1 hx | exact co_r4 hx | exact co_r5 hx | exact co_w hx | exact co_h hx | exact pa_a (co_pa hx) | exact (co_re hx).1) ?_
      rw [c1]
      refine px_iload_3 dX7_put_19 ?_
      refine px_iadd dX7_put_20 ?_
      rw [nI_add]
      refine px_bipush (80) dX7_put_21 rfl ?_
      refine px_icmp_le (tgt := 29) dX7_put_23 (by decide) (fun h23 => (by first | exact absurd h23 ((nI_ge (a := 80) h80 (by omega))) | exact absurd ((nI_ge (a := 80) h80 (by omega))) h23)) (fun h23 => ?_)
      refine px_bipush (-4) dX7_put_26 rfl ?_
      refine px_iret dX7_put_28 ?_
      subst hQ; exact ⟨rfl, I, J, rfl, h, fun _ _ => rfl, fun _ _ => rfl⟩
    · have hf : f_put A.2.2.2 y = (nI (p_push y A.2.2.2 (p_n y 8)).1, p_push y A.2.2.2 (p_n y 8)) := by rw [f_put, if_neg hb, if_neg h80]
      have LP : ∀ (k : Nat) (p : px_p) (I' : px_I), k ≤ 8 → px_pc I (x + 205) p I' → p.1 + k ≤ 80 → p_push y p k = (f_put A.2.2.2 y).2 → ∀ n, (px_W l G yX7_put cX7_put 5 (some .int) (px_rm 2 0 0) (px_Fn G Q 0 0) 34 [some (.ref x), some (.long y), none, some (.int n), some (.int (nI k - 1))] [] 0 0 (T, I', J, R)) := by
        intro k
        induction k with
        | zero =>
          intro p I' _ hp hle he n
          rw [p_push] at he
          have he1 : (f_put A.2.2.2 y).1 = nI p.1 := by rw [he, hf]
          refine px_iload_4 dX7_put_34 ?_
          refine px_if_lt (tgt := 64) dX7_put_36 (by decide) (fun h36 => ?_) (fun h36 => (by first | exact absurd ((by decide)) h36 | exact absurd h36 ((by decide))))
          refine px_aload_0 dX7_put_64 ?_
          refine gf_X7_34 rfl dX7_put_65 (by first | assumption | exact co_a hx | exact co_r0 hx | exact co_r1 hx | exact co_r4 hx | exact co_r5 hx | exact co_w hx | exact co_h hx | exact pa_a (co_pa hx) | exact (co_re hx).1) (by first | assumption | exact co_a hx | exact co_r0 hx | exact co_r1 hx | exact co_r4 hx | exact co_r5 hx | exact co_w hx | exact co_h hx | exact pa_a (co_pa hx) | exact (co_re hx).1) ?_
          refine gf_X7_113 rfl dX7_put_68 (by first | assumption | exact co_a hx | exact co_r0 hx | exact co_r1 hx | exact co_r4 hx | exact co_r5 hx | exact co_w hx | exact co_h hx | exact pa_a (co_pa hx) | exact (co_re hx).1) ?_
          rw [hp.1, ← he1]
          refine px_iret dX7_put_71 ?_
          subst hQ; rw [← he]; exact ⟨rfl, I', J, rfl, pc_CI h hV hp (by omega), fun a ha => hp.2.2 a (by omega) (by omega), fun a ha => rfl⟩
        | succ k ih =>
          intro p I' hk hp hle he n
          rw [nI_pred]
          rw [p_push] at he
          have hnn : ¬ nI k < 0 := nI_pos (by omega)
          refine px_iload_4 dX7_put_34 ?_
          refine px_if_lt (tgt := 64) dX7_put_36 (by decide) (fun h36 => (by first | exact absurd h36 (hnn) | exact absurd (hnn) h36)) (fun h36 => ?_)
          refine px_aload_0 dX7_put_39 ?_
          refine gf_X7_34 rfl dX7_put_40 (by first | assumption | exact co_a hx | exact co_r0 hx | exact co_r1 hx | exact co_r4 hx | exact co_r5 hx | exact co_w hx | exact co_h hx | exact pa_a (co_pa hx) | exact (co_re hx).1) (by first | assumption | exact co_a hx | exact co_r0 hx | exact co_r1 hx | exact co_r4 hx | exact co_r5 hx | exact co_w hx | exact co_h hx | exact pa_a (co_pa hx) | exact (co_re hx).1) ?_
          refine px_lload_1 dX7_put_43 ?_
          refine px_bipush (8) dX7_put_44 rfl ?_
          refine px_iload_4 dX7_put_46 ?_
          refine px_imul dX7_put_48 ?_
          refine px_lushr dX7_put_49 ?_
          refine px_l2i dX7_put_50 ?_
          refine px_sipush (255) dX7_put_51 rfl ?_
          refine px_iand dX7_put_54 ?_
          rw [by_c y (by omega)]
          refine cd_X7_117 rfl ⟨⟨Nat.le_of_ble_eq_true rfl, Nat.le_of_ble_eq_true rfl⟩, Nat.le_of_ble_eq_true rfl, Nat.le_of_ble_eq_true rfl, Nat.le_of_ble_eq_true rfl⟩ (by first | assumption | exact co_a hx | exact co_r0 hx | exact co_r1 hx | exact co_r4 hx | exact co_r5 hx | exact co_w hx | exact co_h hx | exact pa_a (co_pa hx) | exact (co_re hx).1) dX7_put_55 (s_X2_append (co_pa hx) hp.1 (by omega)) ?_
          refine px_iinc_4 dX7_put_58 rfl ?_
          refine px_goto (tgt := 34) dX7_put_61 (by decide) ?_
          rw [dec_m1]; exact ih _ _ (by omega) (pc_app hp) (by show p.1 + 1 + k ≤ 80; omega) he _
      refine px_lload_1 dX7_put_0 ?_
      refine cd_X7_299 rfl ⟨⟨Nat.le_of_ble_eq_true rfl, Nat.le_of_ble_eq_true rfl⟩, Nat.le_of_ble_eq_true rfl, Nat.le_of_ble_eq_true rfl, Nat.le_of_ble_eq_true rfl⟩ dX7_put_1 (hcs) ?_
      refine px_istore_3 dX7_put_4 rfl ?_
      refine px_iload_3 dX7_put_5 ?_
      refine px_if_ne (tgt := 12) dX7_put_6 (by decide) (fun h6 => ?_) (fun h6 => (by first | exact absurd (hnz) h6 | exact absurd h6 (hnz)))
      refine px_aload_0 dX7_put_12 ?_
      refine gf_X7_34 rfl dX7_put_13 (by first | assumption | exact co_a hx | exact co_r0 hx | exact co_r1 hx | exact co_r4 hx | exact co_r5 hx | exact co_w hx | exact co_h hx | exact pa_a (co_pa hx) | exact (co_re hx).1) (by first | assumption | exact co_a hx | exact co_r0 hx | exact co_r1 hx | exact co_r4 hx | exact co_r5 hx | exact co_w hx | exact co_h hx | exact pa_a (co_pa hx) | exact (co_re hx).1) ?_
      refine gf_X7_113 rfl dX7_put_16 (by first | assumption | exact co_a hx | exact co_r0 hx | exact co_r1 hx | exact co_r4 hx | exact co_r5 hx | exact co_w hx | exact co_h hx | exact pa_a (co_pa hx) | exact (co_re hx).1) ?_
      rw [c1]
      refine px_iload_3 dX7_put_19 ?_
      refine px_iadd dX7_put_20 ?_
      rw [nI_add]
      refine px_bipush (80) dX7_put_21 rfl ?_
      refine px_icmp_le (tgt := 29) dX7_put_23 (by decide) (fun h23 => ?_) (fun h23 => (by first | exact absurd ((nI_le (b := 80) (Nat.not_lt.mp h80) (by omega))) h23 | exact absurd h23 ((nI_le (b := 80) (Nat.not_lt.mp h80) (by omega)))))
      refine px_iload_3 dX7_put_29 ?_
      refine px_iconst (1) dX7_put_30 rfl ?_
      refine px_isub dX7_put_31 ?_
      refine px_istore_4 dX7_put_32 rfl ?_
      exact LP (p_n y 8) A.2.2.2 I hn ⟨c1, c3, fun _ _ _ => rfl⟩ (by omega) (by rw [hf]) _
/-! orders -/
theorem s_X7_obey {c a b d : Int32} (hx : px_co G T R x) (hA : px_ag I (x + 1) σ) (hV : px_VV σ) (h2 : I (x + 207) 2 = c) (h3 : I (x + 207) 3 = a) (h4 : c = 114 → I (x + 207) 4 = b) (h5 : I (x + 207) 5 = d) (hl : q_let c) : px_C l G 5 0 0 mX7_obey [.ref x] (T, I, J, R) (px_Q1 T I J R (x + 1) (f_do σ c a b d)) := by
  refine px_met (M := mX7_obey) ([some (.ref x)]) (by decide +kernel) rfl (Nat.le_of_ble_eq_true rfl) rfl ?_
  rcases hl with rfl | rfl | rfl | rfl | rfl | rfl | rfl | rfl
  · rw [show f_do σ 114 a b d = f_road σ a b d from if_pos rfl]
    refine px_aload_0 dX7_obey_0 ?_
    refine gf_X7_43 rfl dX7_obey_1 (by first | assumption | exact co_a hx | exact co_r0 hx | exact co_r1 hx | exact co_r4 hx | exact co_r5 hx | exact co_w hx | exact co_h hx | exact pa_a (co_pa hx) | exact (co_re hx).1) (by first | assumption | exact co_a hx | exact co_r0 hx | exact co_r1 hx | exact co_r4 hx | exact co_r5 hx | exact co_w hx | exact co_h hx | exact pa_a (co_pa hx) | exact (co_re hx).1) ?_
    refine gf_X7_333 rfl dX7_obey_4 (by first | assumption | exact co_a hx | exact co_r0 hx | exact co_r1 hx | exact co_r4 hx | exact co_r5 hx | exact co_w hx | exact co_h hx | exact pa_a (co_pa hx) | exact (co_re hx).1) ?_
    rw [h2]
    refine px_tableIn (off := 85) (tgt := 92) dX7_obey_7 (by decide) (by decide) rfl (by decide) ?_
    refine px_aload_0 dX7_obey_92 ?_
    refine gf_X7_10 rfl dX7_obey_93 (by first | assumption | exact co_a hx | exact co_r0 hx | exact co_r1 hx | exact co_r4 hx | exact co_r5 hx | exact co_w hx | exact co_h hx | exact pa_a (co_pa hx) | exact (co_re hx).1) (by first | assumption | exact co_a hx | exact co_r0 hx | exact co_r1 hx | exact co_r4 hx | exact co_r5 hx | exact co_w hx | exact co_h hx | exact pa_a (co_pa hx) | exact (co_re hx).1) ?_
    refine px_aload_0 dX7_obey_96 ?_
    refine gf_X7_43 rfl dX7_obey_97 (by first | assumption | exact co_a hx | exact co_r0 hx | exact co_r1 hx | exact co_r4 hx | exact co_r5 hx | exact co_w hx | exact co_h hx | exact pa_a (co_pa hx) | exact (co_re hx).1) (by first | assumption | exact co_a hx | exact co_r0 hx | exact co_r1 hx | exact co_r4 hx | exact co_r5 hx | exact co_w hx | exact co_h hx | exact pa_a (co_pa hx) | exact (co_re hx).1) ?_
    refine gf_X7_336 rfl dX7_obey_100 (by first | assumption | exact co_a hx | exact co_r0 hx | exact co_r1 hx | exact co_r4 hx | exact co_r5 hx | exact co_w hx | exact co_h hx | exact pa_a (co_pa hx) | exact (co_re hx).1) ?_
    rw [h3]
    refine px_aload_0 dX7_obey_103 ?_
    refine gf_X7_43 rfl dX7_obey_104 (by first | assumption | exact co_a hx | exact co_r0 hx | exact co_r1 hx | exact co_r4 hx | exact co_r5 hx | exact co_w hx | exact co_h hx | exact pa_a (co_pa hx) | exact (co_re hx).1) (by first | assumption | exact co_a hx | exact co_r0 hx | exact co_r1 hx | exact co_r4 hx | exact co_r5 hx | exact co_w hx | exact co_h hx | exact pa_a (co_pa hx) | exact (co_re hx).1) ?_
    refine gf_X7_339 rfl dX7_obey_107 (by first | assumption | exact co_a hx | exact co_r0 hx | exact co_r1 hx | exact co_r4 hx | exact co_r5 hx | exact co_w hx | exact co_h hx | exact pa_a (co_pa hx) | exact (co_re hx).1) ?_
    rw [h4 rfl]
    refine px_aload_0 dX7_obey_110 ?_
    refine gf_X7_43 rfl dX7_obey_111 (by first | assumption | exact co_a hx | exact co_r0 hx | exact co_r1 hx | exact co_r4 hx | exact co_r5 hx | exact co_w hx | exact co_h hx | exact pa_a (co_pa hx) | exact (co_re hx).1) (by first | assumption | exact co_a hx | exact co_r0 hx | exact co_r1 hx | exact co_r4 hx | exact co_r5 hx | exact co_w hx | exact co_h hx | exact pa_a (co_pa hx) | exact (co_re hx).1) ?_
    refine gf_X7_342 rfl dX7_obey_114 (by first | assumption | exact co_a hx | exact co_r0 hx | exact co_r1 hx | exact co_r4 hx | exact co_r5 hx | exact co_w hx | exact co_h hx | exact pa_a (co_pa hx) | exact (co_re hx).1) ?_
    rw [h5]
    refine cg_X7_75 rfl ⟨⟨Nat.le_of_ble_eq_true rfl, Nat.le_of_ble_eq_true rfl⟩, Nat.le_of_ble_eq_true rfl, Nat.le_of_ble_eq_true rfl, Nat.le_of_ble_eq_true rfl⟩ (by first | assumption | exact co_a hx | exact co_r0 hx | exact co_r1 hx | exact co_r4 hx | exact co_r5 hx | exact co_w hx | exact co_h hx | exact pa_a (co_pa hx) | exact (co_re hx).1) dX7_obey_117 (s_X6_addRoad (co_wo hx) hA hV.1) ?_
    rintro v μ' ⟨I2, rfl, rfl, k1, k2⟩
    refine px_iret dX7_obey_120 ?_
    exact ⟨I2, rfl, rfl, k1, k2⟩
  · rw [show f_do σ 112 a b d = f_price σ a d by rw [f_do, if_neg (by decide), if_pos rfl]]
    refine px_aload_0 dX7_obey_0 ?_
    refine gf_X7_43 rfl dX7_obey_1 (by first | assumption | exact co_a hx | exact co_r0 hx | exact co_r1 hx | exact co_r4 hx | exact co_r5 hx | exact co_w hx | exact co_h hx | exact pa_a (co_pa hx) | exact (co_re hx).1) (by first | assumption | exact co_a hx | exact co_r0 hx | exact co_r1 hx | exact co_r4 hx | exact co_r5 hx | exact co_w hx | exact co_h hx | exact pa_a (co_pa hx) | exact (co_re hx).1) ?_
    refine gf_X7_333 rfl dX7_obey_4 (by first | assumption | exact co_a hx | exact co_r0 hx | exact co_r1 hx | exact co_r4 hx | exact co_r5 hx | exact co_w hx | exact co_h hx | exact pa_a (co_pa hx) | exact (co_re hx).1) ?_
    rw [h2]
    refine px_tableIn (off := 114) (tgt := 121) dX7_obey_7 (by decide) (by decide) rfl (by decide) ?_
    refine px_aload_0 dX7_obey_121 ?_
    refine gf_X7_10 rfl dX7_obey_122 (by first | assumption | exact co_a hx | exact co_r0 hx | exact co_r1 hx | exact co_r4 hx | exact co_r5 hx | exact co_w hx | exact co_h hx | exact pa_a (co_pa hx) | exact (co_re hx).1) (by first | assumption | exact co_a hx | exact co_r0 hx | exact co_r1 hx | exact co_r4 hx | exact co_r5 hx | exact co_w hx | exact co_h hx | exact pa_a (co_pa hx) | exact (co_re hx).1) ?_
    refine px_aload_0 dX7_obey_125 ?_
    refine gf_X7_43 rfl dX7_obey_126 (by first | assumption | exact co_a hx | exact co_r0 hx | exact co_r1 hx | exact co_r4 hx | exact co_r5 hx | exact co_w hx | exact co_h hx | exact pa_a (co_pa hx) | exact (co_re hx).1) (by first | assumption | exact co_a hx | exact co_r0 hx | exact co_r1 hx | exact co_r4 hx | exact co_r5 hx | exact co_w hx | exact co_h hx | exact pa_a (co_pa hx) | exact (co_re hx).1) ?_
    refine gf_X7_336 rfl dX7_obey_129 (by first | assumption | exact co_a hx | exact co_r0 hx | exact co_r1 hx | exact co_r4 hx | exact co_r5 hx | exact co_w hx | exact co_h hx | exact pa_a (co_pa hx) | exact (co_re hx).1) ?_
    rw [h3]
    refine px_aload_0 dX7_obey_132 ?_
    refine gf_X7_43 rfl dX7_obey_133 (by first | assumption | exact co_a hx | exact co_r0 hx | exact co_r1 hx | exact co_r4 hx | exact co_r5 hx | exact co_w hx | exact co_h hx | exact pa_a (co_pa hx) | exact (co_re hx).1) (by first | assumption | exact co_a hx | exact co_r0 hx | exact co_r1 hx | exact co_r4 hx | exact co_r5 hx | exact co_w hx | exact co_h hx | exact pa_a (co_pa hx) | exact (co_re hx).1) ?_
    refine gf_X7_342 rfl dX7_obey_136 (by first | assumption | exact co_a hx | exact co_r0 hx | exact co_r1 hx | exact co_r4 hx | exact co_r5 hx | exact co_w hx | exact co_h hx | exact pa_a (co_pa hx) | exact (co_re hx).1) ?_
    rw [h5]
    refine cg_X7_79 rfl ⟨⟨Nat.le_of_ble_eq_true rfl, Nat.le_of_ble_eq_true rfl⟩, Nat.le_of_ble_eq_true rfl, Nat.le_of_ble_eq_true rfl, Nat.le_of_ble_eq_true rfl⟩ (by first | assumption | exact co_a hx | exact co_r0 hx | exact co_r1 hx | exact co_r4 hx | exact co_r5 hx | exact co_w hx | exact co_h hx | exact pa_a (co_pa hx) | exact (co_re hx).1) dX7_obey_139 (s_X6_changePrice (co_wo hx) hA hV.1) ?_
    rintro v μ' ⟨I2, rfl, rfl, k1, k2⟩
    refine px_iret dX7_obey_142 ?_
    exact ⟨I2, rfl, rfl, k1, k2⟩
  · rw [show f_do σ 103 a b d = f_guard σ a d by rw [f_do, if_neg (by decide), if_neg (by decide), if_pos rfl]]
    refine px_aload_0 dX7_obey_0 ?_
    refine gf_X7_43 rfl dX7_obey_1 (by first | assumption | exact co_a hx | exact co_r0 hx | exact co_r1 hx | exact co_r4 hx | exact co_r5 hx | exact co_w hx | exact co_h hx | exact pa_a (co_pa hx) | exact (co_re hx).1) (by first | assumption | exact co_a hx | exact co_r0 hx | exact co_r1 hx | exact co_r4 hx | exact co_r5 hx | exact co_w hx | exact co_h hx | exact pa_a (co_pa hx) | exact (co_re hx).1) ?_
    refine gf_X7_333 rfl dX7_obey_4 (by first | assumption | exact co_a hx | exact co_r0 hx | exact co_r1 hx | exact co_r4 hx | exact co_r5 hx | exact co_w hx | exact co_h hx | exact pa_a (co_pa hx) | exact (co_re hx).1) ?_
    rw [h2]
    refine px_tableIn (off := 136) (tgt := 143) dX7_obey_7 (by decide) (by decide) rfl (by decide) ?_
    refine px_aload_0 dX7_obey_143 ?_
    refine gf_X7_10 rfl dX7_obey_144 (by first | assumption | exact co_a hx | exact co_r0 hx | exact co_r1 hx | exact co_r4 hx | exact co_r5 hx | exact co_w hx | exact co_h hx | exact pa_a (co_pa hx) | exact (co_re hx).1) (by first | assumption | exact co_a hx | exact co_r0 hx | exact co_r1 hx | exact co_r4 hx | exact co_r5 hx | exact co_w hx | exact co_h hx | exact pa_a (co_pa hx) | exact (co_re hx).1) ?_
    refine px_aload_0 dX7_obey_147 ?_
    refine gf_X7_43 rfl dX7_obey_148 (by first | assumption | exact co_a hx | exact co_r0 hx | exact co_r1 hx | exact co_r4 hx | exact co_r5 hx | exact co_w hx | exact co_h hx | exact pa_a (co_pa hx) | exact (co_re hx).1) (by first | assumption | exact co_a hx | exact co_r0 hx | exact co_r1 hx | exact co_r4 hx | exact co_r5 hx | exact co_w hx | exact co_h hx | exact pa_a (co_pa hx) | exact (co_re hx).1) ?_
    refine gf_X7_336 rfl dX7_obey_151 (by first | assumption | exact co_a hx | exact co_r0 hx | exact co_r1 hx | exact co_r4 hx | exact co_r5 hx | exact co_w hx | exact co_h hx | exact pa_a (co_pa hx) | exact (co_re hx).1) ?_
    rw [h3]
    refine px_aload_0 dX7_obey_154 ?_
    refine gf_X7_43 rfl dX7_obey_155 (by first | assumption | exact co_a hx | exact co_r0 hx | exact co_r1 hx | exact co_r4 hx | exact co_r5 hx | exact co_w hx | exact co_h hx | exact pa_a (co_pa hx) | exact (co_re hx).1) (by first | assumption | exact co_a hx | exact co_r0 hx | exact co_r1 hx | exact co_r4 hx | exact co_r5 hx | exact co_w hx | exact co_h hx | exact pa_a (co_pa hx) | exact (co_re hx).1) ?_
    refine gf_X7_342 rfl dX7_obey_158 (by first | assumption | exact co_a hx | exact co_r0 hx | exact co_r1 hx | exact co_r4 hx | exact co_r5 hx | exact co_w hx | exact co_h hx | exact pa_a (co_pa hx) | exact (co_re hx).1) ?_
    rw [h5]
    refine cg_X7_82 rfl ⟨⟨Nat.le_of_ble_eq_true rfl, Nat.le_of_ble_eq_true rfl⟩, Nat.le_of_ble_eq_true rfl, Nat.le_of_ble_eq_true rfl, Nat.le_of_ble_eq_true rfl⟩ (by first | assumption | exact co_a hx | exact co_r0 hx | exact co_r1 hx | exact co_r4 hx | exact co_r5 hx | exact co_w hx | exact co_h hx | exact pa_a (co_pa hx) | exact (co_re hx).1) dX7_obey_161 (s_X6_changeGuards (co_wo hx) hA hV.1) ?_
    rintro v μ' ⟨I2, rfl, rfl, k1, k2⟩
    refine px_iret dX7_obey_164 ?_
    exact ⟨I2, rfl, rfl, k1, k2⟩
  · rw [show f_do σ 99 a b d = f_cart σ a d by rw [f_do, if_neg (by decide), if_neg (by decide), if_neg (by decide), if_pos rfl]]
    refine px_aload_0 dX7_obey_0 ?_
    refine gf_X7_43 rfl dX7_obey_1 (by first | assumption | exact co_a hx | exact co_r0 hx | exact co_r1 hx | exact co_r4 hx | exact co_r5 hx | exact co_w hx | exact co_h hx | exact pa_a (co_pa hx) | exact (co_re hx).1) (by first | assumption | exact co_a hx | exact co_r0 hx | exact co_r1 hx | exact co_r4 hx | exact co_r5 hx | exact co_w hx | exact co_h hx | exact pa_a (co_pa hx) | exact (co_re hx).1) ?_
    refine gf_X7_333 rfl dX7_obey_4 (by first | assumption | exact co_a hx | exact co_r0 hx | exact co_r1 hx | exact co_r4 hx | exact co_r5 hx | exact co_w hx | exact co_h hx | exact pa_a (co_pa hx) | exact (co_re hx).1) ?_
    rw [h2]
    refine px_tableIn (off := 158) (tgt := 165) dX7_obey_7 (by decide) (by decide) rfl (by decide) ?_
    refine px_aload_0 dX7_obey_165 ?_
    refine gf_X7_10 rfl dX7_obey_166 (by first | assumption | exact co_a hx | exact co_r0 hx | exact co_r1 hx | exact co_r4 hx | exact co_r5 hx | exact co_w hx | exact co_h hx | exact pa_a (co_pa hx) | exact (co_re hx).1) (by first | assumption | exact co_a hx | exact co_r0 hx | exact co_r1 hx | exact co_r4 hx | exact co_r5 hx | exact co_w hx | exact co_h hx | exact pa_a (co_pa hx) | exact (co_re hx).1) ?_
    refine px_aload_0 dX7_obey_169 ?_
    refine gf_X7_43 rfl dX7_obey_170 (by first | assumption | exact co_a hx | exact co_r0 hx | exact co_r1 hx | exact co_r4 hx | exact co_r5 hx | exact co_w hx | exact co_h hx | exact pa_a (co_pa hx) | exact (co_re hx).1) (by first | assumption | exact co_a hx | exact co_r0 hx | exact co_r1 hx | exact co_r4 hx | exact co_r5 hx | exact co_w hx | exact co_h hx | exact pa_a (co_pa hx) | exact (co_re hx).1) ?_
    refine gf_X7_336 rfl dX7_obey_173 (by first | assumption | exact co_a hx | exact co_r0 hx | exact co_r1 hx | exact co_r4 hx | exact co_r5 hx | exact co_w hx | exact co_h hx | exact pa_a (co_pa hx) | exact (co_re hx).1) ?_
    rw [h3]
    refine px_aload_0 dX7_obey_176 ?_
    refine gf_X7_43 rfl dX7_obey_177 (by first | assumption | exact co_a hx | exact co_r0 hx | exact co_r1 hx | exact co_r4 hx | exact co_r5 hx | exact co_w hx | exact co_h hx | exact pa_a (co_pa hx) | exact (co_re hx).1) (by first | assumption | exact co_a hx | exact co_r0 hx | exact co_r1 hx | exact co_r4 hx | exact co_r5 hx | exact co_w hx | exact co_h hx | exact pa_a (co_pa hx) | exact (co_re hx).1) ?_
    refine gf_X7_342 rfl dX7_obey_180 (by first | assumption | exact co_a hx | exact co_r0 hx | exact co_r1 hx | exact co_r4 hx | exact co_r5 hx | exact co_w hx | exact co_h hx | exact pa_a (co_pa hx) | exact (co_re hx).1) ?_
    rw [h5]
    refine cg_X7_101 rfl ⟨⟨Nat.le_of_ble_eq_true rfl, Nat.le_of_ble_eq_true rfl⟩, Nat.le_of_ble_eq_true rfl, Nat.le_of_ble_eq_true rfl, Nat.le_of_ble_eq_true rfl⟩ (by first | assumption | exact co_a hx | exact co_r0 hx | exact co_r1 hx | exact co_r4 hx | exact co_r5 hx | exact co_w hx | exact co_h hx | exact pa_a (co_pa hx) | exact (co_re hx).1) dX7_obey_183 (s_X6_addCart (co_wo hx) hA hV.1) ?_
    rintro v μ' ⟨I2, rfl, rfl, k1, k2⟩
    refine px_iret dX7_obey_186 ?_
    exact ⟨I2, rfl, rfl, k1, k2⟩
  · rw [show f_do σ 98 a b d = f_buy σ a d by rw [f_do, if_neg (by decide), if_neg (by decide), if_neg (by decide), if_neg (by decide), if_pos rfl]]
    refine px_aload_0 dX7_obey_0 ?_
    refine gf_X7_43 rfl dX7_obey_1 (by first | assumption | exact co_a hx | exact co_r0 hx | exact co_r1 hx | exact co_r4 hx | exact co_r5 hx | exact co_w hx | exact co_h hx | exact pa_a (co_pa hx) | exact (co_re hx).1) (by first | assumption | exact co_a hx | exact co_r0 hx | exact co_r1 hx | exact co_r4 hx | exact co_r5 hx | exact co_w hx | exact co_h hx | exact pa_a (co_pa hx) | exact (co_re hx).1) ?_
    refine gf_X7_333 rfl dX7_obey_4 (by first | assumption | exact co_a hx | exact co_r0 hx | exact co_r1 hx | exact co_r4 hx | exact co_r5 hx | exact co_w hx | exact co_h hx | exact pa_a (co_pa hx) | exact (co_re hx).1) ?_
    rw [h2]
    refine px_tableIn (off := 180) (tgt := 187) dX7_obey_7 (by decide) (by decide) rfl (by decide) ?_
    refine px_aload_0 dX7_obey_187 ?_
    refine gf_X7_10 rfl dX7_obey_188 (by first | assumption | exact co_a hx | exact co_r0 hx | exact co_r1 hx | exact co_r4 hx | exact co_r5 hx | exact co_w hx | exact co_h hx | exact pa_a (co_pa hx) | exact (co_re hx).1) (by first | assumption | exact co_a hx | exact co_r0 hx | exact co_r1 hx | exact co_r4 hx | exact co_r5 hx | exact co_w hx | exact co_h hx | exact pa_a (co_pa hx) | exact (co_re hx).1) ?_
    refine px_aload_0 dX7_obey_191 ?_
    refine gf_X7_43 rfl dX7_obey_192 (by first | assumption | exact co_a hx | exact co_r0 hx | exact co_r1 hx | exact co_r4 hx | exact co_r5 hx | exact co_w hx | exact co_h hx | exact pa_a (co_pa hx) | exact (co_re hx).1) (by first | assumption | exact co_a hx | exact co_r0 hx | exact co_r1 hx | exact co_r4 hx | exact co_r5 hx | exact co_w hx | exact co_h hx | exact pa_a (co_pa hx) | exact (co_re hx).1) ?_
    refine gf_X7_336 rfl dX7_obey_195 (by first | assumption | exact co_a hx | exact co_r0 hx | exact co_r1 hx | exact co_r4 hx | exact co_r5 hx | exact co_w hx | exact co_h hx | exact pa_a (co_pa hx) | exact (co_re hx).1) ?_
    rw [h3]
    refine px_aload_0 dX7_obey_198 ?_
    refine gf_X7_43 rfl dX7_obey_199 (by first | assumption | exact co_a hx | exact co_r0 hx | exact co_r1 hx | exact co_r4 hx | exact co_r5 hx | exact co_w hx | exact co_h hx | exact pa_a (co_pa hx) | exact (co_re hx).1) (by first | assumption | exact co_a hx | exact co_r0 hx | exact co_r1 hx | exact co_r4 hx | exact co_r5 hx | exact co_w hx | exact co_h hx | exact pa_a (co_pa hx) | exact (co_re hx).1) ?_
    refine gf_X7_342 rfl dX7_obey_202 (by first | assumption | exact co_a hx | exact co_r0 hx | exact co_r1 hx | exact co_r4 hx | exact co_r5 hx | exact co_w hx | exact co_h hx | exact pa_a (co_pa hx) | exact (co_re hx).1) ?_
    rw [h5]
    refine cg_X7_104 rfl ⟨⟨Nat.le_of_ble_eq_true rfl, Nat.le_of_ble_eq_true rfl⟩, Nat.le_of_ble_eq_true rfl, Nat.le_of_ble_eq_true rfl, Nat.le_of_ble_eq_true rfl⟩ (by first | assumption | exact co_a hx | exact co_r0 hx | exact co_r1 hx | exact co_r4 hx | exact co_r5 hx | exact co_w hx | exact co_h hx | exact pa_a (co_pa hx) | exact (co_re hx).1) dX7_obey_205 (s_X6_buySacks (co_wo hx) hA hV.1) ?_
    rintro v μ' ⟨I2, rfl, rfl, k1, k2⟩
    refine px_iret dX7_obey_208 ?_
    exact ⟨I2, rfl, rfl, k1, k2⟩
  · rw [show f_do σ 115 a b d = f_sell σ a d by rw [f_do, if_neg (by decide), if_neg (by decide), if_neg (by decide), if_neg (by decide), if_neg (by decide), if_pos rfl]]
    refine px_aload_0 dX7_obey_0 ?_
    refine gf_X7_43 rfl dX7_obey_1 (by first | assumption | exact co_a hx | exact co_r0 hx | exact co_r1 hx | exact co_r4 hx | exact co_r5 hx | exact co_w hx | exact co_h hx | exact pa_a (co_pa hx) | exact (co_re hx).1) (by first | assumption | exact co_a hx | exact co_r0 hx | exact co_r1 hx | exact co_r4 hx | exact co_r5 hx | exact co_w hx | exact co_h hx | exact pa_a (co_pa hx) | exact (co_re hx).1) ?_
    refine gf_X7_333 rfl dX7_obey_4 (by first | assumption | exact co_a hx | exact co_r0 hx | exact co_r1 hx | exact co_r4 hx | exact co_r5 hx | exact co_w hx | exact co_h hx | exact pa_a (co_pa hx) | exact (co_re hx).1) ?_
    rw [h2]
    refine px_tableIn (off := 202) (tgt := 209) dX7_obey_7 (by decide) (by decide) rfl (by decide) ?_
    refine px_aload_0 dX7_obey_209 ?_
    refine gf_X7_10 rfl dX7_obey_210 (by first | assumption | exact co_a hx | exact co_r0 hx | exact co_r1 hx | exact co_r4 hx | exact co_r5 hx | exact co_w hx | exact co_h hx | exact pa_a (co_pa hx) | exact (co_re hx).1) (by first | assumption | exact co_a hx | exact co_r0 hx | exact co_r1 hx | exact co_r4 hx | exact co_r5 hx | exact co_w hx | exact co_h hx | exact pa_a (co_pa hx) | exact (co_re hx).1) ?_
    refine px_aload_0 dX7_obey_213 ?_
    refine gf_X7_43 rfl dX7_obey_214 (by first | assumption | exact co_a hx | exact co_r0 hx | exact co_r1 hx | exact co_r4 hx | exact co_r5 hx | exact co_w hx | exact co_h hx | exact pa_a (co_pa hx) | exact (co_re hx).1) (by first | assumption | exact co_a hx | exact co_r0 hx | exact co_r1 hx | exact co_r4 hx | exact co_r5 hx | exact co_w hx | exact co_h hx | exact pa_a (co_pa hx) | exact (co_re hx).1) ?_
    refine gf_X7_336 rfl dX7_obey_217 (by first | assumption | exact co_a hx | exact co_r0 hx | exact co_r1 hx | exact co_r4 hx | exact co_r5 hx | exact co_w hx | exact co_h hx | exact pa_a (co_pa hx) | exact (co_re hx).1) ?_
    rw [h3]
    refine px_aload_0 dX7_obey_220 ?_
    refine gf_X7_43 rfl dX7_obey_221 (by first | assumption | exact co_a hx | exact co_r0 hx | exact co_r1 hx | exact co_r4 hx | exact co_r5 hx | exact co_w hx | exact co_h hx | exact pa_a (co_pa hx) | exact (co_re hx).1) (by first | assumption | exact co_a hx | exact co_r0 hx | exact co_r1 hx | exact co_r4 hx | exact co_r5 hx | exact co_w hx | exact co_h hx | exact pa_a (co_pa hx) | exact (co_re hx).1) ?_
    refine gf_X7_342 rfl dX7_obey_224 (by first | assumption | exact co_a hx | exact co_r0 hx | exact co_r1 hx | exact co_r4 hx | exact co_r5 hx | exact co_w hx | exact co_h hx | exact pa_a (co_pa hx) | exact (co_re hx).1) ?_
    rw [h5]
    refine cg_X7_107 rfl ⟨⟨Nat.le_of_ble_eq_true rfl, Nat.le_of_ble_eq_true rfl⟩, Nat.le_of_ble_eq_true rfl, Nat.le_of_ble_eq_true rfl, Nat.le_of_ble_eq_true rfl⟩ (by first | assumption | exact co_a hx | exact co_r0 hx | exact co_r1 hx | exact co_r4 hx | exact co_r5 hx | exact co_w hx | exact co_h hx | exact pa_a (co_pa hx) | exact (co_re hx).1) dX7_obey_227 (s_X6_sellSacks (co_wo hx) hA hV.1) ?_
    rintro v μ' ⟨I2, rfl, rfl, k1, k2⟩
    refine px_iret dX7_obey_230 ?_
    exact ⟨I2, rfl, rfl, k1, k2⟩
  · rw [show f_do σ 111 a b d = f_go σ a d 0 by rw [f_do, if_neg (by decide), if_neg (by decide), if_neg (by decide), if_neg (by decide), if_neg (by decide), if_neg (by decide), if_neg (by decide)]]
    refine px_aload_0 dX7_obey_0 ?_
    refine gf_X7_43 rfl dX7_obey_1 (by first | assumption | exact co_a hx | exact co_r0 hx | exact co_r1 hx | exact co_r4 hx | exact co_r5 hx | exact co_w hx | exact co_h hx | exact pa_a (co_pa hx) | exact (co_re hx).1) (by first | assumption | exact co_a hx | exact co_r0 hx | exact co_r1 hx | exact co_r4 hx | exact co_r5 hx | exact co_w hx | exact co_h hx | exact pa_a (co_pa hx) | exact (co_re hx).1) ?_
    refine gf_X7_333 rfl dX7_obey_4 (by first | assumption | exact co_a hx | exact co_r0 hx | exact co_r1 hx | exact co_r4 hx | exact co_r5 hx | exact co_w hx | exact co_h hx | exact pa_a (co_pa hx) | exact (co_re hx).1) ?_
    rw [h2]
    refine px_tableIn (off := 224) (tgt := 231) dX7_obey_7 (by decide) (by decide) rfl (by decide) ?_
    refine px_aload_0 dX7_obey_231 ?_
    refine gf_X7_10 rfl dX7_obey_232 (by first | assumption | exact co_a hx | exact co_r0 hx | exact co_r1 hx | exact co_r4 hx | exact co_r5 hx | exact co_w hx | exact co_h hx | exact pa_a (co_pa hx) | exact (co_re hx).1) (by first | assumption | exact co_a hx | exact co_r0 hx | exact co_r1 hx | exact co_r4 hx | exact co_r5 hx | exact co_w hx | exact co_h hx | exact pa_a (co_pa hx) | exact (co_re hx).1) ?_
    refine px_aload_0 dX7_obey_235 ?_
    refine gf_X7_43 rfl dX7_obey_236 (by first | assumption | exact co_a hx | exact co_r0 hx | exact co_r1 hx | exact co_r4 hx | exact co_r5 hx | exact co_w hx | exact co_h hx | exact pa_a (co_pa hx) | exact (co_re hx).1) (by first | assumption | exact co_a hx | exact co_r0 hx | exact co_r1 hx | exact co_r4 hx | exact co_r5 hx | exact co_w hx | exact co_h hx | exact pa_a (co_pa hx) | exact (co_re hx).1) ?_
    refine gf_X7_336 rfl dX7_obey_239 (by first | assumption | exact co_a hx | exact co_r0 hx | exact co_r1 hx | exact co_r4 hx | exact co_r5 hx | exact co_w hx | exact co_h hx | exact pa_a (co_pa hx) | exact (co_re hx).1) ?_
    rw [h3]
    refine px_aload_0 dX7_obey_242 ?_
    refine gf_X7_43 rfl dX7_obey_243 (by first | assumption | exact co_a hx | exact co_r0 hx | exact co_r1 hx | exact co_r4 hx | exact co_r5 hx | exact co_w hx | exact co_h hx | exact pa_a (co_pa hx) | exact (co_re hx).1) (by first | assumption | exact co_a hx | exact co_r0 hx | exact co_r1 hx | exact co_r4 hx | exact co_r5 hx | exact co_w hx | exact co_h hx | exact pa_a (co_pa hx) | exact (co_re hx).1) ?_
    refine gf_X7_342 rfl dX7_obey_246 (by first | assumption | exact co_a hx | exact co_r0 hx | exact co_r1 hx | exact co_r4 hx | exact co_r5 hx | exact co_w hx | exact co_h hx | exact pa_a (co_pa hx) | exact (co_re hx).1) ?_
    rw [h5]
    refine px_iconst (0) dX7_obey_249 rfl ?_
    refine cg_X7_110 rfl ⟨⟨Nat.le_of_ble_eq_true rfl, Nat.le_of_ble_eq_true rfl⟩, Nat.le_of_ble_eq_true rfl, Nat.le_of_ble_eq_true rfl, Nat.le_of_ble_eq_true rfl⟩ (by first | assumption | exact co_a hx | exact co_r0 hx | exact co_r1 hx | exact co_r4 hx | exact co_r5 hx | exact co_w hx | exact co_h hx | exact pa_a (co_pa hx) | exact (co_re hx).1) dX7_obey_250 (s_X6_drive (co_wo hx) hA hV.1) ?_
    rintro v μ' ⟨I2, rfl, rfl, k1, k2⟩
    refine px_iret dX7_obey_253 ?_
    exact ⟨I2, rfl, rfl, k1, k2⟩
  · rw [show f_do σ 104 a b d = f_go σ a d 1 by rw [f_do, if_neg (by decide), if_neg (by decide), if_neg (by decide), if_neg (by decide), if_neg (by decide), if_neg (by decide), if_pos rfl]]
    refine px_aload_0 dX7_obey_0 ?_
    refine gf_X7_43 rfl dX7_obey_1 (by first | assumption | exact co_a hx | exact co_r0 hx | exact co_r1 hx | exact co_r4 hx | exact co_r5 hx | exact co_w hx | exact co_h hx | exact pa_a (co_pa hx) | exact (co_re hx).1) (by first | assumption | exact co_a hx | exact co_r0 hx | exact co_r1 hx | exact co_r4 hx | exact co_r5 hx | exact co_w hx | exact co_h hx | exact pa_a (co_pa hx) | exact (co_re hx).1) ?_
    refine gf_X7_333 rfl dX7_obey_4 (by first | assumption | exact co_a hx | exact co_r0 hx | exact co_r1 hx | exact co_r4 hx | exact co_r5 hx | exact co_w hx | exact co_h hx | exact pa_a (co_pa hx) | exact (co_re hx).1) ?_
    rw [h2]
    refine px_tableIn (off := 247) (tgt := 254) dX7_obey_7 (by decide) (by decide) rfl (by decide) ?_
    refine px_aload_0 dX7_obey_254 ?_
    refine gf_X7_10 rfl dX7_obey_255 (by first | assumption | exact co_a hx | exact co_r0 hx | exact co_r1 hx | exact co_r4 hx | exact co_r5 hx | exact co_w hx | exact co_h hx | exact pa_a (co_pa hx) | exact (co_re hx).1) (by first | assumption | exact co_a hx | exact co_r0 hx | exact co_r1 hx | exact co_r4 hx | exact co_r5 hx | exact co_w hx | exact co_h hx | exact pa_a (co_pa hx) | exact (co_re hx).1) ?_
    refine px_aload_0 dX7_obey_258 ?_
    refine gf_X7_43 rfl dX7_obey_259 (by first | assumption | exact co_a hx | exact co_r0 hx | exact co_r1 hx | exact co_r4 hx | exact co_r5 hx | exact co_w hx | exact co_h hx | exact pa_a (co_pa hx) | exact (co_re hx).1) (by first | assumption | exact co_a hx | exact co_r0 hx | exact co_r1 hx | exact co_r4 hx | exact co_r5 hx | exact co_w hx | exact co_h hx | exact pa_a (co_pa hx) | exact (co_re hx).1) ?_
    refine gf_X7_336 rfl dX7_obey_262 (by first | assumption | exact co_a hx | exact co_r0 hx | exact co_r1 hx | exact co_r4 hx | exact co_r5 hx | exact co_w hx | exact co_h hx | exact pa_a (co_pa hx) | exact (co_re hx).1) ?_
    rw [h3]
    refine px_aload_0 dX7_obey_265 ?_
    refine gf_X7_43 rfl dX7_obey_266 (by first | assumption | exact co_a hx | exact co_r0 hx | exact co_r1 hx | exact co_r4 hx | exact co_r5 hx | exact co_w hx | exact co_h hx | exact pa_a (co_pa hx) | exact (co_re hx).1) (by first | assumption | exact co_a hx | exact co_r0 hx | exact co_r1 hx | exact co_r4 hx | exact co_r5 hx | exact co_w hx | exact co_h hx | exact pa_a (co_pa hx) | exact (co_re hx).1) ?_
    refine gf_X7_342 rfl dX7_obey_269 (by first | assumption | exact co_a hx | exact co_r0 hx | exact co_r1 hx | exact co_r4 hx | exact co_r5 hx | exact co_w hx | exact co_h hx | exact pa_a (co_pa hx) | exact (co_re hx).1) ?_
    rw [h5]
    refine px_iconst (1) dX7_obey_272 rfl ?_
    refine cg_X7_110 rfl ⟨⟨Nat.le_of_ble_eq_true rfl, Nat.le_of_ble_eq_true rfl⟩, Nat.le_of_ble_eq_true rfl, Nat.le_of_ble_eq_true rfl, Nat.le_of_ble_eq_true rfl⟩ (by first | assumption | exact co_a hx | exact co_r0 hx | exact co_r1 hx | exact co_r4 hx | exact co_r5 hx | exact co_w hx | exact co_h hx | exact pa_a (co_pa hx) | exact (co_re hx).1) dX7_obey_273 (s_X6_drive (co_wo hx) hA hV.1) ?_
    rintro v μ' ⟨I2, rfl, rfl, k1, k2⟩
    refine px_iret dX7_obey_276 ?_
    exact ⟨I2, rfl, rfl, k1, k2⟩
theorem s_X7_fault (hx : px_co G T R x) (h : px_CI I x A) (hV : px_AV A) : px_C l G 8 0 0 mX7_fault [.ref x] (T, I, J, R) (px_Qx T I J R x (.int (f_flt A.2.2.2)) A) := by
  refine px_met (M := mX7_fault) ([some (.ref x)]) (by decide +kernel) rfl (Nat.le_of_ble_eq_true rfl) rfl ?_
  refine px_aload_0 dX7_fault_0 ?_
  refine gf_X7_43 rfl dX7_fault_1 (by first | assumption | exact co_a hx | exact co_r0 hx | exact co_r1 hx | exact co_r4 hx | exact co_r5 hx | exact co_w hx | exact co_h hx | exact pa_a (co_pa hx) | exact (co_re hx).1) (by first | assumption | exact co_a hx | exact co_r0 hx | exact co_r1 hx | exact co_r4 hx | exact co_r5 hx | exact co_w hx | exact co_h hx | exact pa_a (co_pa hx) | exact (co_re hx).1) ?_
  refine cg_X7_303 rfl ⟨⟨Nat.le_of_ble_eq_true rfl, Nat.le_of_ble_eq_true rfl⟩, Nat.le_of_ble_eq_true rfl, Nat.le_of_ble_eq_true rfl, Nat.le_of_ble_eq_true rfl⟩ (by first | assumption | exact co_a hx | exact co_r0 hx | exact co_r1 hx | exact co_r4 hx | exact co_r5 hx | exact co_w hx | exact co_h hx | exact pa_a (co_pa hx) | exact (co_re hx).1) dX7_fault_4 (s_X3_findFault (co_re hx) (co_pa hx) h.2.2.2.2.1 (by omega)) ?_
  rintro v μ' ⟨rfl, I1, rfl, g⟩
  refine px_iret dX7_fault_7 ?_
  skip
  exact ⟨rfl, I1, J, rfl, ⟨ag_congr h.1 hV.1.1 (fun a a1 a2 => g a (by omega)), ch_congr h.2.1 hV.2.1 (fun a a1 a2 => g a (by omega)), ⟨fun s hs => by rw [g _ (by omega)]; exact h.2.2.1 s hs, fun s hs hk => ag_congr (h.2.2.2.1 s hs hk) (hV.2.2 s hs hk).1 (fun a a1 a2 => g a (by omega)), cp_congr h.2.2.2.2.1 (g _ (by omega)) (g _ (by omega)), by rw [g _ (by omega)]; exact h.2.2.2.2.2.1, by rw [g _ (by omega)]; exact h.2.2.2.2.2.2⟩⟩, fun a ha => g a (by omega), fun a ha => rfl⟩
end CPT

