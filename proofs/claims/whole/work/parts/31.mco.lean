section MCO
variable {l : Launch} {G : px_G} {T : px_T} {I B : px_I} {J : px_J} {R : px_R} {μ : px_M} {m : Nat} {A : px_a} {σ : px_s} {p : px_p} {s : Nat} {f : Bool}
theorem dig_ge : s ≤ (q_dig p s).2.1 := by
  unfold q_dig
  split
  · exact Nat.le_succ _
  · exact Nat.le_refl _
theorem nl_ge (k : Nat) (v : Int32) : s ≤ (q_nl p k s v).1 := by
  induction k generalizing s v with
  | zero => exact Nat.le_refl _
  | succ k ih =>
    rw [q_nl]
    split
    · exact Nat.le_trans (Nat.le_succ s) (ih _)
    · exact Nat.le_refl _
theorem num_ge : s ≤ (q_num p s).2.1 := by
  unfold q_num
  split
  · exact Nat.le_trans (Nat.le_succ s) (nl_ge 3 _)
  · exact Nat.le_refl _
theorem fst_ge {c : Int32} : s ≤ (q_fst p c s).2.1 := by
  unfold q_fst
  split
  · exact num_ge
  · exact dig_ge
theorem snd_ge {c : Int32} : s ≤ (q_snd p c s).2.1 := by
  unfold q_snd
  split
  · exact dig_ge
  · exact Nat.le_refl _
theorem tk_ge {lo hi : Int32} : s ≤ (q_tk p s lo hi).2.1 := by
  unfold q_tk
  split
  · exact Nat.le_succ _
  · exact Nat.le_refl _
theorem go2_ge {r : Bool × Nat × Int32} (h : s ≤ r.2.1) : s ≤ (q_go2 f s r).2 := by
  unfold q_go2
  split
  · exact Nat.le_refl _
  · exact h
theorem ord_gt (h : (q_ord p s).1 = true) : s < (q_ord p s).2.1 := by
  obtain ⟨og, ov⟩ := ord_g p s
  have hl := (ov h).1
  have h0 : (q_g0 p s).2 = s + 1 := by rw [q_g0, if_pos hl]
  have h1 : (q_g0 p s).2 ≤ (q_g1 p s).2 := go2_ge fst_ge
  have h2 : (q_g1 p s).2 ≤ (q_g2 p s).2 := go2_ge snd_ge
  have h3 : (q_g2 p s).2 ≤ (q_g3 p s).2 := go2_ge tk_ge
  have h4 : (q_g3 p s).2 ≤ (q_g4 p s).2 := go2_ge num_ge
  rw [og] at h4
  dsimp only at h4
  omega
/-- where the text fails, from order s on -/
def q_go (p : px_p) : Nat → Nat → Option Nat
  | 0, _ => none
  | k + 1, s => if (q_ord p s).1 = false then some (q_ord p s).2.1 else if (q_ord p s).2.1 < p.1 then (if q_ch p (q_ord p s).2.1 = 59 then q_go p k ((q_ord p s).2.1 + 1) else some (q_ord p s).2.1) else none
def f_flt (p : px_p) : Int32 := match q_go p 81 0 with | none => -6 | some z => nI z
theorem rg_self {v a : Int32} : rg v a a ↔ v = a := by
  refine ⟨fun h => ?_, fun h => ?_⟩
  · exact Int32.le_antisymm (Int32.not_lt.mp (fun q => h (Or.inr q))) (Int32.not_lt.mp (fun q => h (Or.inl q)))
  · subst h
    rintro (q | q) <;> exact Int32.lt_irrefl q
theorem tk59 (hs : s ≤ p.1) : q_go2 false s (q_tk p s 59 59) = if q_ch p s = 59 then (false, s + 1) else (true, s) := by
  rw [go2_f]
  unfold q_tk
  by_cases h : q_ch p s = 59
  · rw [if_pos (rg_self.mpr h), if_pos h]; rfl
  · rw [if_neg (fun q => h (rg_self.mp q)), if_neg h]; rfl
theorem bp_congr {B' : px_I} (h : px_bp B m p) (h1 : B' m 7 = B m 7) (h2 : B' (m + 5) = B (m + 5)) : px_bp B' m p := ⟨h1.trans h.1, h.2.1, fun i hi => by rw [h2]; exact h.2.2 i hi⟩
theorem s_X8_goes0 {Q : Option Value → px_M → Prop} (hm : px_mo G T R m) : ∀ k s (B : px_I) (cnt : Int32), s ≤ p.1 → p.1 < s + k → px_bp B m p → (∀ (B' : px_I) f s' v, (∀ a, a ≠ m → B' a = B a) → (∀ j, j < 9 → B' m j = B m j) → (q_go p k s = none → f = false) → (∀ z, q_go p k s = some z → f = true ∧ s' = z) → Q (some (.int v)) (T, px_tk B' m f s', J, R)) → ∀ o4, (px_W l G yX8_goesThrough cX8_goesThrough 5 (some .int) (px_rm 5 0 0) (px_Fn G Q 0 0) 14 [some (.ref m), some (.int 0), some (.int cnt), some (.int 1), o4] [] 0 0 (T, px_tk B m false s, J, R)) := by
  intro k
  induction k with
  | zero => intro s B cnt h1 h2; exact absurd h2 (by omega)
  | succ k ih =>
    intro s B cnt hs hk hB K o4
    have hle := ord_le (p := p) hs
    have h80 := hB.2.1
    cases ho : (q_ord p s).1 with
    | false =>
      have hg : q_go p (k + 1) s = some (q_ord p s).2.1 := by rw [q_go, if_pos ho]
      refine px_iload_3 dX8_goesThrough_14 ?_
      refine px_if_eq (tgt := 109) dX8_goesThrough_15 (by decide) (fun h15 => (by first | exact absurd h15 ((by decide)) | exact absurd ((by decide)) h15)) (fun h15 => ?_)
      refine px_aload_0 dX8_goesThrough_18 ?_
      refine cg_X8_218 rfl ⟨⟨Nat.le_of_ble_eq_true rfl, Nat.le_of_ble_eq_true rfl⟩, Nat.le_of_ble_eq_true rfl, Nat.le_of_ble_eq_true rfl, Nat.le_of_ble_eq_true rfl⟩ (by first | assumption | exact mo_a hm | exact mo_r0 hm | exact mo_r1 hm | exact mo_r2 hm | exact mo_r4 hm | exact mo_r6 hm | exact mo_r8 hm | exact mo_a1 hm | exact mo_a2 hm | exact mo_a3 hm | exact mo_a4 hm | exact mo_a5 hm | exact mo_a6 hm) dX8_goesThrough_19 (s_X8_readOrder hm hB hs) ?_
      rintro v μ' ⟨rfl, B1, rfl, g1, g2, g3⟩
      refine px_aload_0 dX8_goesThrough_22 ?_
      refine gf_X8_187 rfl dX8_goesThrough_23 (by first | assumption | exact mo_a hm | exact mo_r0 hm | exact mo_r1 hm | exact mo_r2 hm | exact mo_r4 hm | exact mo_r6 hm | exact mo_r8 hm | exact mo_a1 hm | exact mo_a2 hm | exact mo_a3 hm | exact mo_a4 hm | exact mo_a5 hm | exact mo_a6 hm) ?_
      refine px_if_ne (tgt := 44) dX8_goesThrough_26 (by decide) (fun h26 => ?_) (fun h26 => (by first | exact absurd ((by rw [tk_10, ho]; decide)) h26 | exact absurd h26 ((by rw [tk_10, ho]; decide))))
      refine px_iconst (0) dX8_goesThrough_44 rfl ?_
      refine px_istore_3 dX8_goesThrough_45 rfl ?_
      refine px_iload_2 dX8_goesThrough_46 ?_
      refine px_iload_3 dX8_goesThrough_47 ?_
      refine px_if_eq (tgt := 55) dX8_goesThrough_48 (by decide) (fun h48 => ?_) (fun h48 => (by first | exact absurd (rfl) h48 | exact absurd h48 (rfl)))
      refine px_iconst (0) dX8_goesThrough_55 rfl ?_
      refine px_iadd dX8_goesThrough_56 ?_
      refine px_istore_2 dX8_goesThrough_57 rfl ?_
      refine px_iload_3 dX8_goesThrough_58 ?_
      refine px_if_eq (tgt := 77) dX8_goesThrough_59 (by decide) (fun h59 => ?_) (fun h59 => (by first | exact absurd (rfl) h59 | exact absurd h59 (rfl)))
      refine px_iconst (0) dX8_goesThrough_77 rfl ?_
      refine px_istore_3 dX8_goesThrough_78 rfl ?_
      refine px_iload_3 dX8_goesThrough_79 ?_
      refine px_if_eq (tgt := 14) dX8_goesThrough_80 (by decide) (fun h80 => ?_) (fun h80 => (by first | exact absurd (rfl) h80 | exact absurd h80 (rfl)))
      skip
      refine px_iload_3 dX8_goesThrough_14 ?_
      refine px_if_eq (tgt := 109) dX8_goesThrough_15 (by decide) (fun h15 => ?_) (fun h15 => (by first | exact absurd (rfl) h15 | exact absurd h15 (rfl)))
      refine px_iload_2 dX8_goesThrough_109 ?_
      refine px_iret dX8_goesThrough_110 ?_
      exact K B1 _ _ _ g1 (fun j hj => g2 j (by omega)) (fun z => by rw [hg] at z; exact absurd z (by simp)) (fun z hz => by rw [hg] at hz; rw [ho]; exact ⟨rfl, Option.some.inj hz⟩)
    | true =>
      have hlt := ord_gt ho
      have hB1 : ∀ B1 : px_I, (∀ a, a ≠ m → B1 a = B a) → (∀ j, j < 11 → B1 m j = B m j) → px_bp B1 m p := fun B1 g1 g2 => bp_congr hB (g2 7 (by decide)) (g1 _ (by omega))
      by_cases hl : (q_ord p s).2.1 < p.1
      · by_cases h59 : q_ch p (q_ord p s).2.1 = 59
        · have hg : q_go p (k + 1) s = q_go p k ((q_ord p s).2.1 + 1) := by rw [q_go, if_neg (by rw [ho]; decide), if_pos hl, if_pos h59]
          rw [hg] at K
          refine px_iload_3 dX8_goesThrough_14 ?_
          refine px_if_eq (tgt := 109) dX8_goesThrough_15 (by decide) (fun h15 => (by first | exact absurd h15 ((by decide)) | exact absurd ((by decide)) h15)) (fun h15 => ?_)
          refine px_aload_0 dX8_goesThrough_18 ?_
          refine cg_X8_218 rfl ⟨⟨Nat.le_of_ble_eq_true rfl, Nat.le_of_ble_eq_true rfl⟩, Nat.le_of_ble_eq_true rfl, Nat.le_of_ble_eq_true rfl, Nat.le_of_ble_eq_true rfl⟩ (by first | assumption | exact mo_a hm | exact mo_r0 hm | exact mo_r1 hm | exact mo_r2 hm | exact mo_r4 hm | exact mo_r6 hm | exact mo_r8 hm | exact mo_a1 hm | exact mo_a2 hm | exact mo_a3 hm | exact mo_a4 hm | exact mo_a5 hm | exact mo_a6 hm) dX8_goesThrough_19 (s_X8_readOrder hm hB hs) ?_
          rintro v μ' ⟨rfl, B1, rfl, g1, g2, g3⟩; rw [ho]; have hb1 := hB1 B1 g1 g2; have ht := s_X8_takes (l := l) (J := J) (f := false) (lo := 59) (hi := 59) hm hb1 hle; rw [tk59 hle, if_pos h59] at ht
          refine px_aload_0 dX8_goesThrough_22 ?_
          refine gf_X8_187 rfl dX8_goesThrough_23 (by first | assumption | exact mo_a hm | exact mo_r0 hm | exact mo_r1 hm | exact mo_r2 hm | exact mo_r4 hm | exact mo_r6 hm | exact mo_r8 hm | exact mo_a1 hm | exact mo_a2 hm | exact mo_a3 hm | exact mo_a4 hm | exact mo_a5 hm | exact mo_a6 hm) ?_
          refine px_if_ne (tgt := 44) dX8_goesThrough_26 (by decide) (fun h26 => (by first | exact absurd h26 ((by rw [tk_10]; rfl)) | exact absurd ((by rw [tk_10]; rfl)) h26)) (fun h26 => ?_)
          refine px_iload_1 dX8_goesThrough_29 ?_
          refine px_if_eq (tgt := 40) dX8_goesThrough_30 (by decide) (fun h30 => ?_) (fun h30 => (by first | exact absurd (rfl) h30 | exact absurd h30 (rfl)))
          refine px_iconst (1) dX8_goesThrough_40 rfl ?_
          refine px_goto (tgt := 45) dX8_goesThrough_41 (by decide) ?_
          refine px_istore_3 dX8_goesThrough_45 rfl ?_
          refine px_iload_2 dX8_goesThrough_46 ?_
          refine px_iload_3 dX8_goesThrough_47 ?_
          refine px_if_eq (tgt := 55) dX8_goesThrough_48 (by decide) (fun h48 => (by first | exact absurd h48 ((by decide)) | exact absurd ((by decide)) h48)) (fun h48 => ?_)
          refine px_iconst (1) dX8_goesThrough_51 rfl ?_
          refine px_goto (tgt := 56) dX8_goesThrough_52 (by decide) ?_
          refine px_iadd dX8_goesThrough_56 ?_
          refine px_istore_2 dX8_goesThrough_57 rfl ?_
          refine px_iload_3 dX8_goesThrough_58 ?_
          refine px_if_eq (tgt := 77) dX8_goesThrough_59 (by decide) (fun h59 => (by first | exact absurd h59 ((by decide)) | exact absurd ((by decide)) h59)) (fun h59 => ?_)
          refine px_aload_0 dX8_goesThrough_62 ?_
          refine gf_X8_184 rfl dX8_goesThrough_63 (by first | assumption | exact mo_a hm | exact mo_r0 hm | exact mo_r1 hm | exact mo_r2 hm | exact mo_r4 hm | exact mo_r6 hm | exact mo_r8 hm | exact mo_a1 hm | exact mo_a2 hm | exact mo_a3 hm | exact mo_a4 hm | exact mo_a5 hm | exact mo_a6 hm) ?_
          rw [tk_9]
          refine px_aload_0 dX8_goesThrough_66 ?_
          refine gf_X8_156 rfl dX8_goesThrough_67 (by first | assumption | exact mo_a hm | exact mo_r0 hm | exact mo_r1 hm | exact mo_r2 hm | exact mo_r4 hm | exact mo_r6 hm | exact mo_r8 hm | exact mo_a1 hm | exact mo_a2 hm | exact mo_a3 hm | exact mo_a4 hm | exact mo_a5 hm | exact mo_a6 hm) ?_
          rw [tk_nj (by decide) (by decide), hb1.1]
          refine px_icmp_ge (tgt := 77) dX8_goesThrough_70 (by decide) (fun h70 => (by first | exact absurd h70 ((nI_ge hl (by omega))) | exact absurd ((nI_ge hl (by omega))) h70)) (fun h70 => ?_)
          refine px_iconst (1) dX8_goesThrough_73 rfl ?_
          refine px_goto (tgt := 78) dX8_goesThrough_74 (by decide) ?_
          refine px_istore_3 dX8_goesThrough_78 rfl ?_
          refine px_iload_3 dX8_goesThrough_79 ?_
          refine px_if_eq (tgt := 14) dX8_goesThrough_80 (by decide) (fun h80 => (by first | exact absurd h80 ((by decide)) | exact absurd ((by decide)) h80)) (fun h80 => ?_)
          refine px_aload_0 dX8_goesThrough_83 ?_
          refine px_bipush (59) dX8_goesThrough_84 rfl ?_
          refine px_bipush (59) dX8_goesThrough_86 rfl ?_
          refine cd_X8_191 rfl ⟨⟨Nat.le_of_ble_eq_true rfl, Nat.le_of_ble_eq_true rfl⟩, Nat.le_of_ble_eq_true rfl, Nat.le_of_ble_eq_true rfl, Nat.le_of_ble_eq_true rfl⟩ (by first | assumption | exact mo_a hm | exact mo_r0 hm | exact mo_r1 hm | exact mo_r2 hm | exact mo_r4 hm | exact mo_r6 hm | exact mo_r8 hm | exact mo_a1 hm | exact mo_a2 hm | exact mo_a3 hm | exact mo_a4 hm | exact mo_a5 hm | exact mo_a6 hm) dX8_goesThrough_88 (ht) ?_
          refine px_istore_4 dX8_goesThrough_91 rfl ?_
          refine px_aload_0 dX8_goesThrough_93 ?_
          refine gf_X8_187 rfl dX8_goesThrough_94 (by first | assumption | exact mo_a hm | exact mo_r0 hm | exact mo_r1 hm | exact mo_r2 hm | exact mo_r4 hm | exact mo_r6 hm | exact mo_r8 hm | exact mo_a1 hm | exact mo_a2 hm | exact mo_a3 hm | exact mo_a4 hm | exact mo_a5 hm | exact mo_a6 hm) ?_
          refine px_if_ne (tgt := 104) dX8_goesThrough_97 (by decide) (fun h97 => (by first | exact absurd h97 ((by rw [tk_10]; rfl)) | exact absurd ((by rw [tk_10]; rfl)) h97)) (fun h97 => ?_)
          refine px_iconst (1) dX8_goesThrough_100 rfl ?_
          refine px_goto (tgt := 105) dX8_goesThrough_101 (by decide) ?_
          refine px_istore_3 dX8_goesThrough_105 rfl ?_
          refine px_goto (tgt := 14) dX8_goesThrough_106 (by decide) ?_
          exact ih _ B1 _ hl (by omega) hb1 (fun B' f s' v k1 k2 k3 k4 => K B' f s' v (fun a ha => (k1 a ha).trans (g1 a ha)) (fun j hj => (k2 j hj).trans (g2 j (by omega))) k3 k4) _
        · have hg : q_go p (k + 1) s = some (q_ord p s).2.1 := by rw [q_go, if_neg (by rw [ho]; decide), if_pos hl, if_neg h59]
          refine px_iload_3 dX8_goesThrough_14 ?_
          refine px_if_eq (tgt := 109) dX8_goesThrough_15 (by decide) (fun h15 => (by first | exact absurd h15 ((by decide)) | exact absurd ((by decide)) h15)) (fun h15 => ?_)
          refine px_aload_0 dX8_goesThrough_18 ?_
          refine cg_X8_218 rfl ⟨⟨Nat.le_of_ble_eq_true rfl, Nat.le_of_ble_eq_true rfl⟩, Nat.le_of_ble_eq_true rfl, Nat.le_of_ble_eq_true rfl, Nat.le_of_ble_eq_true rfl⟩ (by first | assumption | exact mo_a hm | exact mo_r0 hm | exact mo_r1 hm | exact mo_r2 hm | exact mo_r4 hm | exact mo_r6 hm | exact mo_r8 hm | exact mo_a1 hm | exact mo_a2 hm | exact mo_a3 hm | exact mo_a4 hm | exact mo_a5 hm | exact mo_a6 hm) dX8_goesThrough_19 (s_X8_readOrder hm hB hs) ?_
          rintro v μ' ⟨rfl, B1, rfl, g1, g2, g3⟩; rw [ho]; have hb1 := hB1 B1 g1 g2; have ht := s_X8_takes (l := l) (J := J) (f := false) (lo := 59) (hi := 59) hm hb1 hle; rw [tk59 hle, if_neg h59] at ht
          refine px_aload_0 dX8_goesThrough_22 ?_
          refine gf_X8_187 rfl dX8_goesThrough_23 (by first | assumption | exact mo_a hm | exact mo_r0 hm | exact mo_r1 hm | exact mo_r2 hm | exact mo_r4 hm | exact mo_r6 hm | exact mo_r8 hm | exact mo_a1 hm | exact mo_a2 hm | exact mo_a3 hm | exact mo_a4 hm | exact mo_a5 hm | exact mo_a6 hm) ?_
          refine px_if_ne (tgt := 44) dX8_goesThrough_26 (by decide) (fun h26 => (by first | exact absurd h26 ((by rw [tk_10]; rfl)) | exact absurd ((by rw [tk_10]; rfl)) h26)) (fun h26 => ?_)
          refine px_iload_1 dX8_goesThrough_29 ?_
          refine px_if_eq (tgt := 40) dX8_goesThrough_30 (by decide) (fun h30 => ?_) (fun h30 => (by first | exact absurd (rfl) h30 | exact absurd h30 (rfl)))
          refine px_iconst (1) dX8_goesThrough_40 rfl ?_
          refine px_goto (tgt := 45) dX8_goesThrough_41 (by decide) ?_
          refine px_istore_3 dX8_goesThrough_45 rfl ?_
          refine px_iload_2 dX8_goesThrough_46 ?_
          refine px_iload_3 dX8_goesThrough_47 ?_
          refine px_if_eq (tgt := 55) dX8_goesThrough_48 (by decide) (fun h48 => (by first | exact absurd h48 ((by decide)) | exact absurd ((by decide)) h48)) (fun h48 => ?_)
          refine px_iconst (1) dX8_goesThrough_51 rfl ?_
          refine px_goto (tgt := 56) dX8_goesThrough_52 (by decide) ?_
          refine px_iadd dX8_goesThrough_56 ?_
          refine px_istore_2 dX8_goesThrough_57 rfl ?_
          refine px_iload_3 dX8_goesThrough_58 ?_
          refine px_if_eq (tgt := 77) dX8_goesThrough_59 (by decide) (fun h59 => (by first | exact absurd h59 ((by decide)) | exact absurd ((by decide)) h59)) (fun h59 => ?_)
          refine px_aload_0 dX8_goesThrough_62 ?_
          refine gf_X8_184 rfl dX8_goesThrough_63 (by first | assumption | exact mo_a hm | exact mo_r0 hm | exact mo_r1 hm | exact mo_r2 hm | exact mo_r4 hm | exact mo_r6 hm | exact mo_r8 hm | exact mo_a1 hm | exact mo_a2 hm | exact mo_a3 hm | exact mo_a4 hm | exact mo_a5 hm | exact mo_a6 hm) ?_
          rw [tk_9]
          refine px_aload_0 dX8_goesThrough_66 ?_
          refine gf_X8_156 rfl dX8_goesThrough_67 (by first | assumption | exact mo_a hm | exact mo_r0 hm | exact mo_r1 hm | exact mo_r2 hm | exact mo_r4 hm | exact mo_r6 hm | exact mo_r8 hm | exact mo_a1 hm | exact mo_a2 hm | exact mo_a3 hm | exact mo_a4 hm | exact mo_a5 hm | exact mo_a6 hm) ?_
          rw [tk_nj (by decide) (by decide), hb1.1]
          refine px_icmp_ge (tgt := 77) dX8_goesThrough_70 (by decide) (fun h70 => (by first | exact absurd h70 ((nI_ge hl (by omega))) | exact absurd ((nI_ge hl (by omega))) h70)) (fun h70 => ?_)
          refine px_iconst (1) dX8_goesThrough_73 rfl ?_
          refine px_goto (tgt := 78) dX8_goesThrough_74 (by decide) ?_
          refine px_istore_3 dX8_goesThrough_78 rfl ?_
          refine px_iload_3 dX8_goesThrough_79 ?_
          refine px_if_eq (tgt := 14) dX8_goesThrough_80 (by decide) (fun h80 => (by first | exact absurd h80 ((by decide)) | exact absurd ((by decide)) h80)) (fun h80 => ?_)
          refine px_aload_0 dX8_goesThrough_83 ?_
          refine px_bipush (59) dX8_goesThrough_84 rfl ?_
          refine px_bipush (59) dX8_goesThrough_86 rfl ?_
          refine cd_X8_191 rfl ⟨⟨Nat.le_of_ble_eq_true rfl, Nat.le_of_ble_eq_true rfl⟩, Nat.le_of_ble_eq_true rfl, Nat.le_of_ble_eq_true rfl, Nat.le_of_ble_eq_true rfl⟩ (by first | assumption | exact mo_a hm | exact mo_r0 hm | exact mo_r1 hm | exact mo_r2 hm | exact mo_r4 hm | exact mo_r6 hm | exact mo_r8 hm | exact mo_a1 hm | exact mo_a2 hm | exact mo_a3 hm | exact mo_a4 hm | exact mo_a5 hm | exact mo_a6 hm) dX8_goesThrough_88 (ht) ?_
          refine px_istore_4 dX8_goesThrough_91 rfl ?_
          refine px_aload_0 dX8_goesThrough_93 ?_
          refine gf_X8_187 rfl dX8_goesThrough_94 (by first | assumption | exact mo_a hm | exact mo_r0 hm | exact mo_r1 hm | exact mo_r2 hm | exact mo_r4 hm | exact mo_r6 hm | exact mo_r8 hm | exact mo_a1 hm | exact mo_a2 hm | exact mo_a3 hm | exact mo_a4 hm | exact mo_a5 hm | exact mo_a6 hm) ?_
          refine px_if_ne (tgt := 104) dX8_goesThrough_97 (by decide) (fun h97 => ?_) (fun h97 => (by first | exact absurd ((by rw [tk_10]; exact (by decide : ¬ (1 : Int32) = 0))) h97 | exact absurd h97 ((by rw [tk_10]; exact (by decide : ¬ (1 : Int32) = 0)))))
          refine px_iconst (0) dX8_goesThrough_104 rfl ?_
          refine px_istore_3 dX8_goesThrough_105 rfl ?_
          refine px_goto (tgt := 14) dX8_goesThrough_106 (by decide) ?_
          skip
          refine px_iload_3 dX8_goesThrough_14 ?_
          refine px_if_eq (tgt := 109) dX8_goesThrough_15 (by decide) (fun h15 => ?_) (fun h15 => (by first | exact absurd (rfl) h15 | exact absurd h15 (rfl)))
          refine px_iload_2 dX8_goesThrough_109 ?_
          refine px_iret dX8_goesThrough_110 ?_
          exact K B1 _ _ _ g1 (fun j hj => g2 j (by omega)) (fun z => by rw [hg] at z; exact absurd z (by simp)) (fun z hz => by rw [hg] at hz; exact ⟨rfl, Option.some.inj hz⟩)
      · have hg : q_go p (k + 1) s = none := by rw [q_go, if_neg (by rw [ho]; decide), if_neg hl]
        refine px_iload_3 dX8_goesThrough_14 ?_
        refine px_if_eq (tgt := 109) dX8_goesThrough_15 (by decide) (fun h15 => (by first | exact absurd h15 ((by decide)) | exact absurd ((by decide)) h15)) (fun h15 => ?_)
        refine px_aload_0 dX8_goesThrough_18 ?_
        refine cg_X8_218 rfl ⟨⟨Nat.le_of_ble_eq_true rfl, Nat.le_of_ble_eq_true rfl⟩, Nat.le_of_ble_eq_true rfl, Nat.le_of_ble_eq_true rfl, Nat.le_of_ble_eq_true rfl⟩ (by first | assumption | exact mo_a hm | exact mo_r0 hm | exact mo_r1 hm | exact mo_r2 hm | exact mo_r4 hm | exact mo_r6 hm | exact mo_r8 hm | exact mo_a1 hm | exact mo_a2 hm | exact mo_a3 hm | exact mo_a4 hm | exact mo_a5 hm | exact mo_a6 hm) dX8_goesThrough_19 (s_X8_readOrder hm hB hs) ?_
        rintro v μ' ⟨rfl, B1, rfl, g1, g2, g3⟩; rw [ho]; have hb1 := hB1 B1 g1 g2
        refine px_aload_0 dX8_goesThrough_22 ?_
        refine gf_X8_187 rfl dX8_goesThrough_23 (by first | assumption | exact mo_a hm | exact mo_r0 hm | exact mo_r1 hm | exact mo_r2 hm | exact mo_r4 hm | exact mo_r6 hm | exact mo_r8 hm | exact mo_a1 hm | exact mo_a2 hm | exact mo_a3 hm | exact mo_a4 hm | exact mo_a5 hm | exact mo_a6 hm) ?_
        refine px_if_ne (tgt := 44) dX8_goesThrough_26 (by decide) (fun h26 => (by first | exact absurd h26 ((by rw [tk_10]; rfl)) | exact absurd ((by rw [tk_10]; rfl)) h26)) (fun h26 => ?_)
        refine px_iload_1 dX8_goesThrough_29 ?_
        refine px_if_eq (tgt := 40) dX8_goesThrough_30 (by decide) (fun h30 => ?_) (fun h30 => (by first | exact absurd (rfl) h30 | exact absurd h30 (rfl)))
        refine px_iconst (1) dX8_goesThrough_40 rfl ?_
        refine px_goto (tgt := 45) dX8_goesThrough_41 (by decide) ?_
        refine px_istore_3 dX8_goesThrough_45 rfl ?_
        refine px_iload_2 dX8_goesThrough_46 ?_
        refine px_iload_3 dX8_goesThrough_47 ?_
        refine px_if_eq (tgt := 55) dX8_goesThrough_48 (by decide) (fun h48 => (by first | exact absurd h48 ((by decide)) | exact absurd ((by decide)) h48)) (fun h48 => ?_)
        refine px_iconst (1) dX8_goesThrough_51 rfl ?_
        refine px_goto (tgt := 56) dX8_goesThrough_52 (by decide) ?_
        refine px_iadd dX8_goesThrough_56 ?_
        refine px_istore_2 dX8_goesThrough_57 rfl ?_
        refine px_iload_3 dX8_goesThrough_58 ?_
        refine px_if_eq (tgt := 77) dX8_goesThrough_59 (by decide) (fun h59 => (by first | exact absurd h59 ((by decide)) | exact absurd ((by decide)) h59)) (fun h59 => ?_)
        refine px_aload_0 dX8_goesThrough_62 ?_
        refine gf_X8_184 rfl dX8_goesThrough_63 (by first | assumption | exact mo_a hm | exact mo_r0 hm | exact mo_r1 hm | exact mo_r2 hm | exact mo_r4 hm | exact mo_r6 hm | exact mo_r8 hm | exact mo_a1 hm | exact mo_a2 hm | exact mo_a3 hm | exact mo_a4 hm | exact mo_a5 hm | exact mo_a6 hm) ?_
        rw [tk_9]
        refine px_aload_0 dX8_goesThrough_66 ?_
        refine gf_X8_156 rfl dX8_goesThrough_67 (by first | assumption | exact mo_a hm | exact mo_r0 hm | exact mo_r1 hm | exact mo_r2 hm | exact mo_r4 hm | exact mo_r6 hm | exact mo_r8 hm | exact mo_a1 hm | exact mo_a2 hm | exact mo_a3 hm | exact mo_a4 hm | exact mo_a5 hm | exact mo_a6 hm) ?_
        rw [tk_nj (by decide) (by decide), hb1.1]
        refine px_icmp_ge (tgt := 77) dX8_goesThrough_70 (by decide) (fun h70 => ?_) (fun h70 => (by first | exact absurd ((nI_le (Nat.not_lt.mp hl) (by omega))) h70 | exact absurd h70 ((nI_le (Nat.not_lt.mp hl) (by omega)))))
        refine px_iconst (0) dX8_goesThrough_77 rfl ?_
        refine px_istore_3 dX8_goesThrough_78 rfl ?_
        refine px_iload_3 dX8_goesThrough_79 ?_
        refine px_if_eq (tgt := 14) dX8_goesThrough_80 (by decide) (fun h80 => ?_) (fun h80 => (by first | exact absurd (rfl) h80 | exact absurd h80 (rfl)))
        skip
        refine px_iload_3 dX8_goesThrough_14 ?_
        refine px_if_eq (tgt := 109) dX8_goesThrough_15 (by decide) (fun h15 => ?_) (fun h15 => (by first | exact absurd (rfl) h15 | exact absurd h15 (rfl)))
        refine px_iload_2 dX8_goesThrough_109 ?_
        refine px_iret dX8_goesThrough_110 ?_
        exact K B1 _ _ _ g1 (fun j hj => g2 j (by omega)) (fun z => rfl) (fun z hz => by rw [hg] at hz; exact absurd hz (by simp))
theorem tk_0 : px_up (px_up I m 9 0) m 10 0 = px_tk I m false 0 := by
  funext a k
  unfold px_tk
  rw [px_up_at, px_up_at, px_up_at, px_up_at]
  by_cases h1 : a = m ∧ k = 10
  · rw [if_pos h1, if_neg (by omega), if_pos h1]; rfl
  · rw [if_neg h1, if_neg h1]; rfl
/-- only what the reader keeps is another -/
def px_Qk (T : px_T) (I : px_I) (J : px_J) (R : px_R) (m : Nat) (w : Value) : Option Value → px_M → Prop := fun v μ' => v = some w ∧ ∃ I' : px_I, μ' = (T, I', J, R) ∧ (∀ a, a ≠ m → I' a = I a) ∧ ∀ j, j < 9 → I' m j = I m j
theorem s_X8_fault (hm : px_mo G T R m) (hB : px_bp I m p) : px_C l G 6 0 0 mX8_fault [.ref m] (T, I, J, R) (px_Qk T I J R m (.int (f_flt p))) := by
  have hgt : px_C l G 5 0 0 mX8_goesThrough [.ref m, .int 0] (T, I, J, R) (fun v μ' => ∃ (B' : px_I) (f : Bool) (s' : Nat) (w : Int32), v = some (.int w) ∧ μ' = (T, px_tk B' m f s', J, R) ∧ (∀ a, a ≠ m → B' a = I a) ∧ (∀ j, j < 9 → B' m j = I m j) ∧ (q_go p 81 0 = none → f = false) ∧ (∀ z, q_go p 81 0 = some z → f = true ∧ s' = z)) := by
    refine px_met (M := mX8_goesThrough) ([some (.ref m), some (.int 0), none, none, none]) (by decide +kernel) rfl (Nat.le_of_ble_eq_true rfl) rfl ?_
    refine px_aload_0 dX8_goesThrough_0 ?_
    refine px_iconst (0) dX8_goesThrough_1 rfl ?_
    refine pf_X8_184 rfl dX8_goesThrough_2 (by first | assumption | exact mo_a hm | exact mo_r0 hm | exact mo_r1 hm | exact mo_r2 hm | exact mo_r4 hm | exact mo_r6 hm | exact mo_r8 hm | exact mo_a1 hm | exact mo_a2 hm | exact mo_a3 hm | exact mo_a4 hm | exact mo_a5 hm | exact mo_a6 hm) ?_
    refine px_aload_0 dX8_goesThrough_5 ?_
    refine px_iconst (0) dX8_goesThrough_6 rfl ?_
    refine pf_X8_187 rfl (by first | exact Or.inl rfl | exact Or.inr rfl) dX8_goesThrough_7 (by first | assumption | exact mo_a hm | exact mo_r0 hm | exact mo_r1 hm | exact mo_r2 hm | exact mo_r4 hm | exact mo_r6 hm | exact mo_r8 hm | exact mo_a1 hm | exact mo_a2 hm | exact mo_a3 hm | exact mo_a4 hm | exact mo_a5 hm | exact mo_a6 hm) ?_
    rw [tk_0]
    refine px_iconst (0) dX8_goesThrough_10 rfl ?_
    refine px_istore_2 dX8_goesThrough_11 rfl ?_
    refine px_iconst (1) dX8_goesThrough_12 rfl ?_
    refine px_istore_3 dX8_goesThrough_13 rfl ?_
    exact s_X8_goes0 hm 81 0 I _ (Nat.zero_le _) (by have := hB.2.1; omega) hB (fun B' f s' v k1 k2 k3 k4 => ⟨B', f, s', v, rfl, rfl, k1, k2, k3, k4⟩) _
  refine px_met (M := mX8_fault) ([some (.ref m), none]) (by decide +kernel) rfl (Nat.le_of_ble_eq_true rfl) rfl ?_
  cases hg : q_go p 81 0 with
  | none =>
    have hf : f_flt p = -6 := by rw [f_flt, hg]
    rw [hf]
    refine px_aload_0 dX8_fault_0 ?_
    refine px_iconst (0) dX8_fault_1 rfl ?_
    refine cg_X8_224 rfl ⟨⟨Nat.le_of_ble_eq_true rfl, Nat.le_of_ble_eq_true rfl⟩, Nat.le_of_ble_eq_true rfl, Nat.le_of_ble_eq_true rfl, Nat.le_of_ble_eq_true rfl⟩ (by first | assumption | exact mo_a hm | exact mo_r0 hm | exact mo_r1 hm | exact mo_r2 hm | exact mo_r4 hm | exact mo_r6 hm | exact mo_r8 hm | exact mo_a1 hm | exact mo_a2 hm | exact mo_a3 hm | exact mo_a4 hm | exact mo_a5 hm | exact mo_a6 hm) dX8_fault_2 (hgt) ?_
    rintro v μ' ⟨B', f, s', w, rfl, rfl, k1, k2, k3, k4⟩; obtain rfl := k3 hg
    refine px_istore_1 dX8_fault_5 rfl ?_
    refine px_aload_0 dX8_fault_6 ?_
    refine gf_X8_187 rfl dX8_fault_7 (by first | assumption | exact mo_a hm | exact mo_r0 hm | exact mo_r1 hm | exact mo_r2 hm | exact mo_r4 hm | exact mo_r6 hm | exact mo_r8 hm | exact mo_a1 hm | exact mo_a2 hm | exact mo_a3 hm | exact mo_a4 hm | exact mo_a5 hm | exact mo_a6 hm) ?_
    refine px_if_eq (tgt := 20) dX8_fault_10 (by decide) (fun h10 => ?_) (fun h10 => (by first | exact absurd ((by rw [tk_10]; rfl)) h10 | exact absurd h10 ((by rw [tk_10]; rfl))))
    refine px_bipush (-6) dX8_fault_20 rfl ?_
    refine px_iret dX8_fault_22 ?_
    exact ⟨rfl, _, rfl, fun a ha => by rw [tk_ne ha]; exact k1 a ha, fun j hj => by rw [tk_nj (by omega) (by omega)]; exact k2 j hj⟩
  | some z =>
    have hf : f_flt p = nI z := by rw [f_flt, hg]
    rw [hf]
    refine px_aload_0 dX8_fault_0 ?_
    refine px_iconst (0) dX8_fault_1 rfl ?_
    refine cg_X8_224 rfl ⟨⟨Nat.le_of_ble_eq_true rfl, Nat.le_of_ble_eq_true rfl⟩, Nat.le_of_ble_eq_true rfl, Nat.le_of_ble_eq_true rfl, Nat.le_of_ble_eq_true rfl⟩ (by first | assumption | exact mo_a hm | exact mo_r0 hm | exact mo_r1 hm | exact mo_r2 hm | exact mo_r4 hm | exact mo_r6 hm | exact mo_r8 hm | exact mo_a1 hm | exact mo_a2 hm | exact mo_a3 hm | exact mo_a4 hm | exact mo_a5 hm | exact mo_a6 hm) dX8_fault_2 (hgt) ?_
    rintro v μ' ⟨B', f, s', w, rfl, rfl, k1, k2, k3, k4⟩; obtain ⟨rfl, rfl⟩ := k4 z hg
    refine px_istore_1 dX8_fault_5 rfl ?_
    refine px_aload_0 dX8_fault_6 ?_
    refine gf_X8_187 rfl dX8_fault_7 (by first | assumption | exact mo_a hm | exact mo_r0 hm | exact mo_r1 hm | exact mo_r2 hm | exact mo_r4 hm | exact mo_r6 hm | exact mo_r8 hm | exact mo_a1 hm | exact mo_a2 hm | exact mo_a3 hm | exact mo_a4 hm | exact mo_a5 hm | exact mo_a6 hm) ?_
    refine px_if_eq (tgt := 20) dX8_fault_10 (by decide) (fun h10 => (by first | exact absurd h10 ((by rw [tk_10]; decide)) | exact absurd ((by rw [tk_10]; decide)) h10)) (fun h10 => ?_)
    refine px_aload_0 dX8_fault_13 ?_
    refine gf_X8_184 rfl dX8_fault_14 (by first | assumption | exact mo_a hm | exact mo_r0 hm | exact mo_r1 hm | exact mo_r2 hm | exact mo_r4 hm | exact mo_r6 hm | exact mo_r8 hm | exact mo_a1 hm | exact mo_a2 hm | exact mo_a3 hm | exact mo_a4 hm | exact mo_a5 hm | exact mo_a6 hm) ?_
    rw [tk_9]
    refine px_goto (tgt := 22) dX8_fault_17 (by decide) ?_
    refine px_iret dX8_fault_22 ?_
    exact ⟨rfl, _, rfl, fun a ha => by rw [tk_ne ha]; exact k1 a ha, fun j hj => by rw [tk_nj (by omega) (by omega)]; exact k2 j hj⟩
/-- the orders of a text without a fault, from s on, until one can't be done -/
def q_do (p : px_p) : Nat → Nat → px_s → Nat → Nat × px_s
  | 0, _, σ, n => (n, σ)
  | k + 1, s, σ, n =>
    let r := q_ord p s
    let q := f_do σ r.2.2.1 r.2.2.2.1 r.2.2.2.2.1 r.2.2.2.2.2
    if q.1 < 0 then (n, q.2) else if r.2.1 < p.1 then q_do p k (r.2.1 + 1) q.2 (n + 1) else (n + 1, q.2)
theorem V_qdo (k s n : Nat) (h : px_VV σ) : px_VV (q_do p k s σ n).2 := by
  induction k generalizing s σ n with
  | zero => exact h
  | succ k ih =>
    rw [q_do]
    split
    · exact V_do h _ _ _ _
    · split
      · exact ih _ _ (V_do h _ _ _ _)
      · exact V_do h _ _ _ _
theorem set_tk {τ : px_s} : px_set (px_tk B m f s) (m + 1) τ = px_tk (px_set B (m + 1) τ) m f s := by
  funext a k
  by_cases h : a = m + 1
  · subst h; rw [px_set_self, tk_ne (by omega), px_set_self]
  · rw [px_set_ne h]
    unfold px_tk
    rw [px_up_at, px_up_at, px_up_at, px_up_at, px_set_ne h]
theorem s_X8_goes1 {Q : Option Value → px_M → Prop} (hm : px_mo G T R m) : ∀ k s (B : px_I) (n : Nat), s ≤ p.1 → p.1 < s + k → px_bp B m p → px_VV (B (m + 1)) → q_go p k s = none → (∀ (B' : px_I) f s', (∀ a, a ≠ m → a ≠ m + 1 → B' a = B a) → (∀ j, j < 9 → B' m j = B m j) → B' (m + 1) = (q_do p k s (B (m + 1)) n).2 → Q (some (.int (nI (q_do p k s (B (m + 1)) n).1))) (T, px_tk B' m f s', J, R)) → ∀ o4, (px_W l G yX8_goesThrough cX8_goesThrough 5 (some .int) (px_rm 5 0 0) (px_Fn G Q 0 0) 14 [some (.ref m), some (.int 1), some (.int (nI n)), some (.int 1), o4] [] 0 0 (T, px_tk B m false s, J, R)) := by
  intro k
  induction k with
  | zero => intro s B cnt h1 h2; exact absurd h2 (by omega)
  | succ k ih =>
    intro s B n hs hk hB hV hgo K o4
    have hle := ord_le (p := p) hs
    have h80 := hB.2.1
    have ho : (q_ord p s).1 = true := by
      cases ho : (q_ord p s).1
      · rw [q_go, if_pos ho] at hgo; exact absurd hgo (by simp)
      · rfl
    have hlt := ord_gt ho
    obtain ⟨-, ov⟩ := ord_g p s
    obtain ⟨hlet, -, -, -, hov⟩ := ov ho
    have hlt2 : q_let (q_ord p s).2.2.1 := by rw [hov]; exact hlet
    rw [q_do] at K
    try dsimp only at K
    -- behind the order that was read, the order is done
    have hdo : ∀ B1 : px_I, (∀ a, a ≠ m → B1 a = B a) → (∀ j, j < 11 → B1 m j = B m j) → ((q_ord p s).1 = true → B1 m 11 = (q_ord p s).2.2.1 ∧ B1 m 12 = (q_ord p s).2.2.2.1 ∧ B1 m 13 = (q_ord p s).2.2.2.2.1 ∧ B1 m 14 = (q_ord p s).2.2.2.2.2) → px_K l G 4 mX8_does [.ref m] (T, px_tk B1 m false (q_ord p s).2.1, J, R) (some (.int (f_do (B (m + 1)) (q_ord p s).2.2.1 (q_ord p s).2.2.2.1 (q_ord p s).2.2.2.2.1 (q_ord p s).2.2.2.2.2).1)) (T, px_tk (px_set B1 (m + 1) (f_do (B (m + 1)) (q_ord p s).2.2.1 (q_ord p s).2.2.2.1 (q_ord p s).2.2.2.2.1 (q_ord p s).2.2.2.2.2).2) m false (q_ord p s).2.1, J, R) := by
      intro B1 g1 g2 g3
      obtain ⟨e1, e2, e3, e4⟩ := g3 ho
      have e : px_tk B1 m false (q_ord p s).2.1 (m + 1) = B (m + 1) := by rw [tk_ne (by omega), g1 _ (by omega)]
      have hd := s_X8_does (l := l) (I := px_tk B1 m false (q_ord p s).2.1) (J := J) (c := (q_ord p s).2.2.1) (a := (q_ord p s).2.2.2.1) (b := (q_ord p s).2.2.2.2.1) (d := (q_ord p s).2.2.2.2.2) hm (by rw [e]; exact hV) (by rw [tk_nj (by decide) (by decide)]; exact e1) (by rw [tk_nj (by decide) (by decide)]; exact e2) (by rw [tk_nj (by decide) (by decide)]; exact e3) (by rw [tk_nj (by decide) (by decide)]; exact e4) hlt2
      rw [e, set_tk] at hd
      exact hd
    have hVd := V_do hV (q_ord p s).2.2.1 (q_ord p s).2.2.2.1 (q_ord p s).2.2.2.2.1 (q_ord p s).2.2.2.2.2
    generalize f_do (B (m + 1)) (q_ord p s).2.2.1 (q_ord p s).2.2.2.1 (q_ord p s).2.2.2.2.1 (q_ord p s).2.2.2.2.2 = q at hdo K hVd
    have hB1 : ∀ B1 : px_I, (∀ a, a ≠ m → B1 a = B a) → (∀ j, j < 11 → B1 m j = B m j) → px_bp (px_set B1 (m + 1) q.2) m p := fun B1 g1 g2 => bp_congr hB (by rw [px_set_ne (by omega)]; exact g2 7 (by decide)) (by rw [px_set_ne (by omega)]; exact g1 _ (by omega))
    have hag : ∀ B1 : px_I, (∀ a, a ≠ m → B1 a = B a) → ∀ a, a ≠ m → a ≠ m + 1 → px_set B1 (m + 1) q.2 a = B a := fun B1 g1 a h1 h2 => by rw [px_set_ne h2]; exact g1 a h1
    have hag2 : ∀ B1 : px_I, (∀ j, j < 11 → B1 m j = B m j) → ∀ j, j < 9 → px_set B1 (m + 1) q.2 m j = B m j := fun B1 g2 j hj => by rw [px_set_ne (by omega)]; exact g2 j (by omega)
    by_cases hneg : q.1 < 0
    · rw [if_pos hneg] at K
      refine px_iload_3 dX8_goesThrough_14 ?_
      refine px_if_eq (tgt := 109) dX8_goesThrough_15 (by decide) (fun h15 => (by first | exact absurd h15 ((by decide)) | exact absurd ((by decide)) h15)) (fun h15 => ?_)
      refine px_aload_0 dX8_goesThrough_18 ?_
      refine cg_X8_218 rfl ⟨⟨Nat.le_of_ble_eq_true rfl, Nat.le_of_ble_eq_true rfl⟩, Nat.le_of_ble_eq_true rfl, Nat.le_of_ble_eq_true rfl, Nat.le_of_ble_eq_true rfl⟩ (by first | assumption | exact mo_a hm | exact mo_r0 hm | exact mo_r1 hm | exact mo_r2 hm | exact mo_r4 hm | exact mo_r6 hm | exact mo_r8 hm | exact mo_a1 hm | exact mo_a2 hm | exact mo_a3 hm | exact mo_a4 hm | exact mo_a5 hm | exact mo_a6 hm) dX8_goesThrough_19 (s_X8_readOrder hm hB hs) ?_
      rintro v μ' ⟨rfl, B1, rfl, g1, g2, g3⟩; rw [ho]; have hd := hdo B1 g1 g2 g3; rw [show (!true) = false from rfl]
      refine px_aload_0 dX8_goesThrough_22 ?_
      refine gf_X8_187 rfl dX8_goesThrough_23 (by first | assumption | exact mo_a hm | exact mo_r0 hm | exact mo_r1 hm | exact mo_r2 hm | exact mo_r4 hm | exact mo_r6 hm | exact mo_r8 hm | exact mo_a1 hm | exact mo_a2 hm | exact mo_a3 hm | exact mo_a4 hm | exact mo_a5 hm | exact mo_a6 hm) ?_
      refine px_if_ne (tgt := 44) dX8_goesThrough_26 (by decide) (fun h26 => (by first | exact absurd h26 ((by rw [tk_10]; rfl)) | exact absurd ((by rw [tk_10]; rfl)) h26)) (fun h26 => ?_)
      refine px_iload_1 dX8_goesThrough_29 ?_
      refine px_if_eq (tgt := 40) dX8_goesThrough_30 (by decide) (fun h30 => (by first | exact absurd h30 ((by decide)) | exact absurd ((by decide)) h30)) (fun h30 => ?_)
      refine px_aload_0 dX8_goesThrough_33 ?_
      refine cd_X8_221 rfl ⟨⟨Nat.le_of_ble_eq_true rfl, Nat.le_of_ble_eq_true rfl⟩, Nat.le_of_ble_eq_true rfl, Nat.le_of_ble_eq_true rfl, Nat.le_of_ble_eq_true rfl⟩ (by first | assumption | exact mo_a hm | exact mo_r0 hm | exact mo_r1 hm | exact mo_r2 hm | exact mo_r4 hm | exact mo_r6 hm | exact mo_r8 hm | exact mo_a1 hm | exact mo_a2 hm | exact mo_a3 hm | exact mo_a4 hm | exact mo_a5 hm | exact mo_a6 hm) dX8_goesThrough_34 (hd) ?_
      refine px_if_lt (tgt := 44) dX8_goesThrough_37 (by decide) (fun h37 => ?_) (fun h37 => (by first | exact absurd (hneg) h37 | exact absurd h37 (hneg)))
      refine px_iconst (0) dX8_goesThrough_44 rfl ?_
      refine px_istore_3 dX8_goesThrough_45 rfl ?_
      refine px_iload_2 dX8_goesThrough_46 ?_
      refine px_iload_3 dX8_goesThrough_47 ?_
      refine px_if_eq (tgt := 55) dX8_goesThrough_48 (by decide) (fun h48 => ?_) (fun h48 => (by first | exact absurd (rfl) h48 | exact absurd h48 (rfl)))
      refine px_iconst (0) dX8_goesThrough_55 rfl ?_
      refine px_iadd dX8_goesThrough_56 ?_
      rw [show nI n + 0 = nI n from nI_add n 0]
      refine px_istore_2 dX8_goesThrough_57 rfl ?_
      refine px_iload_3 dX8_goesThrough_58 ?_
      refine px_if_eq (tgt := 77) dX8_goesThrough_59 (by decide) (fun h59 => ?_) (fun h59 => (by first | exact absurd (rfl) h59 | exact absurd h59 (rfl)))
      refine px_iconst (0) dX8_goesThrough_77 rfl ?_
      refine px_istore_3 dX8_goesThrough_78 rfl ?_
      refine px_iload_3 dX8_goesThrough_79 ?_
      refine px_if_eq (tgt := 14) dX8_goesThrough_80 (by decide) (fun h80 => ?_) (fun h80 => (by first | exact absurd (rfl) h80 | exact absurd h80 (rfl)))
      skip
      refine px_iload_3 dX8_goesThrough_14 ?_
      refine px_if_eq (tgt := 109) dX8_goesThrough_15 (by decide) (fun h15 => ?_) (fun h15 => (by first | exact absurd (rfl) h15 | exact absurd h15 (rfl)))
      refine px_iload_2 dX8_goesThrough_109 ?_
      refine px_iret dX8_goesThrough_110 ?_
      exact K _ _ _ (hag B1 g1) (hag2 B1 g2) px_set_self
    · rw [if_neg hneg] at K
      by_cases hl : (q_ord p s).2.1 < p.1
      · rw [if_pos hl] at K
        have h59 : q_ch p (q_ord p s).2.1 = 59 := by
          refine Classical.byContradiction (fun z => ?_)
          rw [q_go, if_neg (by rw [ho]; decide), if_pos hl, if_neg z] at hgo
          exact absurd hgo (by simp)
        have hgo2 : q_go p k ((q_ord p s).2.1 + 1) = none := by rw [q_go, if_neg (by rw [ho]; decide), if_pos hl, if_pos h59] at hgo; exact hgo
        refine px_iload_3 dX8_goesThrough_14 ?_
        refine px_if_eq (tgt := 109) dX8_goesThrough_15 (by decide) (fun h15 => (by first | exact absurd h15 ((by decide)) | exact absurd ((by decide)) h15)) (fun h15 => ?_)
        refine px_aload_0 dX8_goesThrough_18 ?_
        refine cg_X8_218 rfl ⟨⟨Nat.le_of_ble_eq_true rfl, Nat.le_of_ble_eq_true rfl⟩, Nat.le_of_ble_eq_true rfl, Nat.le_of_ble_eq_true rfl, Nat.le_of_ble_eq_true rfl⟩ (by first | assumption | exact mo_a hm | exact mo_r0 hm | exact mo_r1 hm | exact mo_r2 hm | exact mo_r4 hm | exact mo_r6 hm | exact mo_r8 hm | exact mo_a1 hm | exact mo_a2 hm | exact mo_a3 hm | exact mo_a4 hm | exact mo_a5 hm | exact mo_a6 hm) dX8_goesThrough_19 (s_X8_readOrder hm hB hs) ?_
        rintro v μ' ⟨rfl, B1, rfl, g1, g2, g3⟩; rw [ho]; have hd := hdo B1 g1 g2 g3; rw [show (!true) = false from rfl]; have hb1 := hB1 B1 g1 g2; have ht := s_X8_takes (l := l) (J := J) (f := false) (lo := 59) (hi := 59) hm hb1 hle; rw [tk59 hle, if_pos h59] at ht
        refine px_aload_0 dX8_goesThrough_22 ?_
        refine gf_X8_187 rfl dX8_goesThrough_23 (by first | assumption | exact mo_a hm | exact mo_r0 hm | exact mo_r1 hm | exact mo_r2 hm | exact mo_r4 hm | exact mo_r6 hm | exact mo_r8 hm | exact mo_a1 hm | exact mo_a2 hm | exact mo_a3 hm | exact mo_a4 hm | exact mo_a5 hm | exact mo_a6 hm) ?_
        refine px_if_ne (tgt := 44) dX8_goesThrough_26 (by decide) (fun h26 => (by first | exact absurd h26 ((by rw [tk_10]; rfl)) | exact absurd ((by rw [tk_10]; rfl)) h26)) (fun h26 => ?_)
        refine px_iload_1 dX8_goesThrough_29 ?_
        refine px_if_eq (tgt := 40) dX8_goesThrough_30 (by decide) (fun h30 => (by first | exact absurd h30 ((by decide)) | exact absurd ((by decide)) h30)) (fun h30 => ?_)
        refine px_aload_0 dX8_goesThrough_33 ?_
        refine cd_X8_221 rfl ⟨⟨Nat.le_of_ble_eq_true rfl, Nat.le_of_ble_eq_true rfl⟩, Nat.le_of_ble_eq_true rfl, Nat.le_of_ble_eq_true rfl, Nat.le_of_ble_eq_true rfl⟩ (by first | assumption | exact mo_a hm | exact mo_r0 hm | exact mo_r1 hm | exact mo_r2 hm | exact mo_r4 hm | exact mo_r6 hm | exact mo_r8 hm | exact mo_a1 hm | exact mo_a2 hm | exact mo_a3 hm | exact mo_a4 hm | exact mo_a5 hm | exact mo_a6 hm) dX8_goesThrough_34 (hd) ?_
        refine px_if_lt (tgt := 44) dX8_goesThrough_37 (by decide) (fun h37 => (by first | exact absurd h37 (hneg) | exact absurd (hneg) h37)) (fun h37 => ?_)
        refine px_iconst (1) dX8_goesThrough_40 rfl ?_
        refine px_goto (tgt := 45) dX8_goesThrough_41 (by decide) ?_
        refine px_istore_3 dX8_goesThrough_45 rfl ?_
        refine px_iload_2 dX8_goesThrough_46 ?_
        refine px_iload_3 dX8_goesThrough_47 ?_
        refine px_if_eq (tgt := 55) dX8_goesThrough_48 (by decide) (fun h48 => (by first | exact absurd h48 ((by decide)) | exact absurd ((by decide)) h48)) (fun h48 => ?_)
        refine px_iconst (1) dX8_goesThrough_51 rfl ?_
        refine px_goto (tgt := 56) dX8_goesThrough_52 (by decide) ?_
        refine px_iadd dX8_goesThrough_56 ?_
        rw [nI_1]
        refine px_istore_2 dX8_goesThrough_57 rfl ?_
        refine px_iload_3 dX8_goesThrough_58 ?_
        refine px_if_eq (tgt := 77) dX8_goesThrough_59 (by decide) (fun h59 => (by first | exact absurd h59 ((by decide)) | exact absurd ((by decide)) h59)) (fun h59 => ?_)
        refine px_aload_0 dX8_goesThrough_62 ?_
        refine gf_X8_184 rfl dX8_goesThrough_63 (by first | assumption | exact mo_a hm | exact mo_r0 hm | exact mo_r1 hm | exact mo_r2 hm | exact mo_r4 hm | exact mo_r6 hm | exact mo_r8 hm | exact mo_a1 hm | exact mo_a2 hm | exact mo_a3 hm | exact mo_a4 hm | exact mo_a5 hm | exact mo_a6 hm) ?_
        rw [tk_9]
        refine px_aload_0 dX8_goesThrough_66 ?_
        refine gf_X8_156 rfl dX8_goesThrough_67 (by first | assumption | exact mo_a hm | exact mo_r0 hm | exact mo_r1 hm | exact mo_r2 hm | exact mo_r4 hm | exact mo_r6 hm | exact mo_r8 hm | exact mo_a1 hm | exact mo_a2 hm | exact mo_a3 hm | exact mo_a4 hm | exact mo_a5 hm | exact mo_a6 hm) ?_
        rw [tk_nj (by decide) (by decide), hb1.1]
        refine px_icmp_ge (tgt := 77) dX8_goesThrough_70 (by decide) (fun h70 => (by first | exact absurd h70 ((nI_ge hl (by omega))) | exact absurd ((nI_ge hl (by omega))) h70)) (fun h70 => ?_)
        refine px_iconst (1) dX8_goesThrough_73 rfl ?_
        refine px_goto (tgt := 78) dX8_goesThrough_74 (by decide) ?_
        refine px_istore_3 dX8_goesThrough_78 rfl ?_
        refine px_iload_3 dX8_goesThrough_79 ?_
        refine px_if_eq (tgt := 14) dX8_goesThrough_80 (by decide) (fun h80 => (by first | exact absurd h80 ((by decide)) | exact absurd ((by decide)) h80)) (fun h80 => ?_)
        refine px_aload_0 dX8_goesThrough_83 ?_
        refine px_bipush (59) dX8_goesThrough_84 rfl ?_
        refine px_bipush (59) dX8_goesThrough_86 rfl ?_
        refine cd_X8_191 rfl ⟨⟨Nat.le_of_ble_eq_true rfl, Nat.le_of_ble_eq_true rfl⟩, Nat.le_of_ble_eq_true rfl, Nat.le_of_ble_eq_true rfl, Nat.le_of_ble_eq_true rfl⟩ (by first | assumption | exact mo_a hm | exact mo_r0 hm | exact mo_r1 hm | exact mo_r2 hm | exact mo_r4 hm | exact mo_r6 hm | exact mo_r8 hm | exact mo_a1 hm | exact mo_a2 hm | exact mo_a3 hm | exact mo_a4 hm | exact mo_a5 hm | exact mo_a6 hm) dX8_goesThrough_88 (ht) ?_
        refine px_istore_4 dX8_goesThrough_91 rfl ?_
        refine px_aload_0 dX8_goesThrough_93 ?_
        refine gf_X8_187 rfl dX8_goesThrough_94 (by first | assumption | exact mo_a hm | exact mo_r0 hm | exact mo_r1 hm | exact mo_r2 hm | exact mo_r4 hm | exact mo_r6 hm | exact mo_r8 hm | exact mo_a1 hm | exact mo_a2 hm | exact mo_a3 hm | exact mo_a4 hm | exact mo_a5 hm | exact mo_a6 hm) ?_
        refine px_if_ne (tgt := 104) dX8_goesThrough_97 (by decide) (fun h97 => (by first | exact absurd h97 ((by rw [tk_10]; rfl)) | exact absurd ((by rw [tk_10]; rfl)) h97)) (fun h97 => ?_)
        refine px_iconst (1) dX8_goesThrough_100 rfl ?_
        refine px_goto (tgt := 105) dX8_goesThrough_101 (by decide) ?_
        refine px_istore_3 dX8_goesThrough_105 rfl ?_
        refine px_goto (tgt := 14) dX8_goesThrough_106 (by decide) ?_
        skip
        refine ih _ _ _ hl (by omega) hb1 (by rw [px_set_self]; exact hVd) hgo2 (fun B' f s' k1 k2 k3 => ?_) _
        rw [px_set_self] at k3 ⊢
        exact K B' f s' (fun a h1 h2 => (k1 a h1 h2).trans (hag B1 g1 a h1 h2)) (fun j hj => (k2 j hj).trans (hag2 B1 g2 j hj)) k3
      · rw [if_neg hl] at K
        refine px_iload_3 dX8_goesThrough_14 ?_
        refine px_if_eq (tgt := 109) dX8_goesThrough_15 (by decide) (fun h15 => (by first | exact absurd h15 ((by decide)) | exact absurd ((by decide)) h15)) (fun h15 => ?_)
        refine px_aload_0 dX8_goesThrough_18 ?_
        refine cg_X8_218 rfl ⟨⟨Nat.le_of_ble_eq_true rfl, Nat.le_of_ble_eq_true rfl⟩, Nat.le_of_ble_eq_true rfl, Nat.le_of_ble_eq_true rfl, Nat.le_of_ble_eq_true rfl⟩ (by first | assumption | exact mo_a hm | exact mo_r0 hm | exact mo_r1 hm | exact mo_r2 hm | exact mo_r4 hm | exact mo_r6 hm | exact mo_r8 hm | exact mo_a1 hm | exact mo_a2 hm | exact mo_a3 hm | exact mo_a4 hm | exact mo_a5 hm | exact mo_a6 hm) dX8_goesThrough_19 (s_X8_readOrder hm hB hs) ?_
        rintro v μ' ⟨rfl, B1, rfl, g1, g2, g3⟩; rw [ho]; have hd := hdo B1 g1 g2 g3; rw [show (!true) = false from rfl]; have hb1 := hB1 B1 g1 g2
        refine px_aload_0 dX8_goesThrough_22 ?_
        refine gf_X8_187 rfl dX8_goesThrough_23 (by first | assumption | exact mo_a hm | exact mo_r0 hm | exact mo_r1 hm | exact mo_r2 hm | exact mo_r4 hm | exact mo_r6 hm | exact mo_r8 hm | exact mo_a1 hm | exact mo_a2 hm | exact mo_a3 hm | exact mo_a4 hm | exact mo_a5 hm | exact mo_a6 hm) ?_
        refine px_if_ne (tgt := 44) dX8_goesThrough_26 (by decide) (fun h26 => (by first | exact absurd h26 ((by rw [tk_10]; rfl)) | exact absurd ((by rw [tk_10]; rfl)) h26)) (fun h26 => ?_)
        refine px_iload_1 dX8_goesThrough_29 ?_
        refine px_if_eq (tgt := 40) dX8_goesThrough_30 (by decide) (fun h30 => (by first | exact absurd h30 ((by decide)) | exact absurd ((by decide)) h30)) (fun h30 => ?_)
        refine px_aload_0 dX8_goesThrough_33 ?_
        refine cd_X8_221 rfl ⟨⟨Nat.le_of_ble_eq_true rfl, Nat.le_of_ble_eq_true rfl⟩, Nat.le_of_ble_eq_true rfl, Nat.le_of_ble_eq_true rfl, Nat.le_of_ble_eq_true rfl⟩ (by first | assumption | exact mo_a hm | exact mo_r0 hm | exact mo_r1 hm | exact mo_r2 hm | exact mo_r4 hm | exact mo_r6 hm | exact mo_r8 hm | exact mo_a1 hm | exact mo_a2 hm | exact mo_a3 hm | exact mo_a4 hm | exact mo_a5 hm | exact mo_a6 hm) dX8_goesThrough_34 (hd) ?_
        refine px_if_lt (tgt := 44) dX8_goesThrough_37 (by decide) (fun h37 => (by first | exact absurd h37 (hneg) | exact absurd (hneg) h37)) (fun h37 => ?_)
        refine px_iconst (1) dX8_goesThrough_40 rfl ?_
        refine px_goto (tgt := 45) dX8_goesThrough_41 (by decide) ?_
        refine px_istore_3 dX8_goesThrough_45 rfl ?_
        refine px_iload_2 dX8_goesThrough_46 ?_
        refine px_iload_3 dX8_goesThrough_47 ?_
        refine px_if_eq (tgt := 55) dX8_goesThrough_48 (by decide) (fun h48 => (by first | exact absurd h48 ((by decide)) | exact absurd ((by decide)) h48)) (fun h48 => ?_)
        refine px_iconst (1) dX8_goesThrough_51 rfl ?_
        refine px_goto (tgt := 56) dX8_goesThrough_52 (by decide) ?_
        refine px_iadd dX8_goesThrough_56 ?_
        rw [nI_1]
        refine px_istore_2 dX8_goesThrough_57 rfl ?_
        refine px_iload_3 dX8_goesThrough_58 ?_
        refine px_if_eq (tgt := 77) dX8_goesThrough_59 (by decide) (fun h59 => (by first | exact absurd h59 ((by decide)) | exact absurd ((by decide)) h59)) (fun h59 => ?_)
        refine px_aload_0 dX8_goesThrough_62 ?_
        refine gf_X8_184 rfl dX8_goesThrough_63 (by first | assumption | exact mo_a hm | exact mo_r0 hm | exact mo_r1 hm | exact mo_r2 hm | exact mo_r4 hm | exact mo_r6 hm | exact mo_r8 hm | exact mo_a1 hm | exact mo_a2 hm | exact mo_a3 hm | exact mo_a4 hm | exact mo_a5 hm | exact mo_a6 hm) ?_
        rw [tk_9]
        refine px_aload_0 dX8_goesThrough_66 ?_
        refine gf_X8_156 rfl dX8_goesThrough_67 (by first | assumption | exact mo_a hm | exact mo_r0 hm | exact mo_r1 hm | exact mo_r2 hm | exact mo_r4 hm | exact mo_r6 hm | exact mo_r8 hm | exact mo_a1 hm | exact mo_a2 hm | exact mo_a3 hm | exact mo_a4 hm | exact mo_a5 hm | exact mo_a6 hm) ?_
        rw [tk_nj (by decide) (by decide), hb1.1]
        refine px_icmp_ge (tgt := 77) dX8_goesThrough_70 (by decide) (fun h70 => ?_) (fun h70 => (by first | exact absurd ((nI_le (Nat.not_lt.mp hl) (by omega))) h70 | exact absurd h70 ((nI_le (Nat.not_lt.mp hl) (by omega)))))
        refine px_iconst (0) dX8_goesThrough_77 rfl ?_
        refine px_istore_3 dX8_goesThrough_78 rfl ?_
        refine px_iload_3 dX8_goesThrough_79 ?_
        refine px_if_eq (tgt := 14) dX8_goesThrough_80 (by decide) (fun h80 => ?_) (fun h80 => (by first | exact absurd (rfl) h80 | exact absurd h80 (rfl)))
        skip
        refine px_iload_3 dX8_goesThrough_14 ?_
        refine px_if_eq (tgt := 109) dX8_goesThrough_15 (by decide) (fun h15 => ?_) (fun h15 => (by first | exact absurd (rfl) h15 | exact absurd h15 (rfl)))
        refine px_iload_2 dX8_goesThrough_109 ?_
        refine px_iret dX8_goesThrough_110 ?_
        exact K _ _ _ (hag B1 g1) (hag2 B1 g2) px_set_self
def a_co (A : px_a) : Int32 × px_a := if f_flt A.2.2.2 = -6 then (nI (q_do A.2.2.2 81 0 A.1 0).1, ((q_do A.2.2.2 81 0 A.1 0).2, h_push A.2.1.1 A.2.1.2 A.1, A.2.2.1, (0, A.2.2.2.2))) else (-3, A)
theorem MI_bp (h : px_MI I m A) : px_bp I m A.2.2.2 := ⟨h.2.2.2.2.1, h.2.2.2.2.2.1, h.2.2.2.2.2.2⟩
theorem MI_kept {I' : px_I} (h : px_MI I m A) (g1 : ∀ a, a ≠ m → I' a = I a) (g2 : ∀ j, j < 9 → I' m j = I m j) : px_MI I' m A := by
  obtain ⟨h1, ⟨h2, h3, h4⟩, h5, h6, h7, h8, h9⟩ := h
  exact ⟨by rw [g1 _ (by omega)]; exact h1, ⟨by rw [g2 _ (by decide)]; exact h2, h3, fun i hi k hk => by rw [g1 _ (by omega)]; exact h4 i hi k hk⟩, by rw [g2 _ (by decide)]; exact h5, fun s hs hv k hk => by rw [g1 _ (by omega)]; exact h6 s hs hv k hk, by rw [g2 _ (by decide)]; exact h7, h8, fun i hi => by rw [g1 _ (by omega)]; exact h9 i hi⟩
theorem s_X8_carryOut (hm : px_mo G T R m) (h : px_MI I m A) (hV : px_AV A) : px_C l G 7 0 0 mX8_carryOut [.ref m] (T, I, J, R) (px_Qm T I J R m (.int (a_co A).1) (a_co A).2) := by
  refine px_met (M := mX8_carryOut) ([some (.ref m), none]) (by decide +kernel) rfl (Nat.le_of_ble_eq_true rfl) rfl ?_
  by_cases hf : f_flt A.2.2.2 = -6
  · have ha : a_co A = (nI (q_do A.2.2.2 81 0 A.1 0).1, ((q_do A.2.2.2 81 0 A.1 0).2, h_push A.2.1.1 A.2.1.2 A.1, A.2.2.1, (0, A.2.2.2.2))) := if_pos hf
    have hgo : q_go A.2.2.2 81 0 = none := by
      cases hg : q_go A.2.2.2 81 0 with
      | none => rfl
      | some z =>
        -- a place of a fault is no -6
        exfalso
        rw [f_flt, hg] at hf
        have hz : ∀ k s, s ≤ A.2.2.2.1 → ∀ z, q_go A.2.2.2 k s = some z → z ≤ A.2.2.2.1 := by
          intro k
          induction k with
          | zero => intro s _ z hz; exact absurd hz (by simp [q_go])
          | succ k ih =>
            intro s hs z hz
            have hle := ord_le (p := A.2.2.2) hs
            rw [q_go] at hz
            split at hz
            · rw [← Option.some.inj hz]; exact hle
            · split at hz
              · rename_i hl
                split at hz
                · exact ih _ hl z hz
                · rw [← Option.some.inj hz]; exact hle
              · exact absurd hz (by simp)
        have hzl := hz 81 0 (Nat.zero_le _) z hg
        have h80 : A.2.2.2.1 ≤ 80 := h.2.2.2.2.2.1
        exact absurd (show (nI z).toInt = (-6 : Int32).toInt from congrArg Int32.toInt hf) (by rw [nI_ti (by omega), show (-6 : Int32).toInt = -6 from rfl]; omega)
    rw [ha]
    have h11 := h
    have hgt : ∀ I1 : px_I, px_bp I1 m A.2.2.2 → I1 (m + 1) = A.1 → px_C l G 5 0 0 mX8_goesThrough [.ref m, .int 1] (T, I1, J, R) (fun v μ' => ∃ (B' : px_I) (f : Bool) (s' : Nat), v = some (.int (nI (q_do A.2.2.2 81 0 A.1 0).1)) ∧ μ' = (T, px_tk B' m f s', J, R) ∧ (∀ a, a ≠ m → a ≠ m + 1 → B' a = I1 a) ∧ (∀ j, j < 9 → B' m j = I1 m j) ∧ B' (m + 1) = (q_do A.2.2.2 81 0 A.1 0).2) := by
      intro I1 hB h1
      refine px_met (M := mX8_goesThrough) ([some (.ref m), some (.int 1), none, none, none]) (by decide +kernel) rfl (Nat.le_of_ble_eq_true rfl) rfl ?_
      refine px_aload_0 dX8_goesThrough_0 ?_
      refine px_iconst (0) dX8_goesThrough_1 rfl ?_
      refine pf_X8_184 rfl dX8_goesThrough_2 (by first | assumption | exact mo_a hm | exact mo_r0 hm | exact mo_r1 hm | exact mo_r2 hm | exact mo_r4 hm | exact mo_r6 hm | exact mo_r8 hm | exact mo_a1 hm | exact mo_a2 hm | exact mo_a3 hm | exact mo_a4 hm | exact mo_a5 hm | exact mo_a6 hm) ?_
      refine px_aload_0 dX8_goesThrough_5 ?_
      refine px_iconst (0) dX8_goesThrough_6 rfl ?_
      refine pf_X8_187 rfl (by first | exact Or.inl rfl | exact Or.inr rfl) dX8_goesThrough_7 (by first | assumption | exact mo_a hm | exact mo_r0 hm | exact mo_r1 hm | exact mo_r2 hm | exact mo_r4 hm | exact mo_r6 hm | exact mo_r8 hm | exact mo_a1 hm | exact mo_a2 hm | exact mo_a3 hm | exact mo_a4 hm | exact mo_a5 hm | exact mo_a6 hm) ?_
      rw [tk_0]
      refine px_iconst (0) dX8_goesThrough_10 rfl ?_
      refine px_istore_2 dX8_goesThrough_11 rfl ?_
      refine px_iconst (1) dX8_goesThrough_12 rfl ?_
      refine px_istore_3 dX8_goesThrough_13 rfl ?_
      exact s_X8_goes1 hm 81 0 I1 0 (Nat.zero_le _) (by have := hB.2.1; omega) hB (by rw [h1]; exact hV.1) hgo (fun B' f s' k1 k2 k3 => ⟨B', f, s', by rw [h1], rfl, k1, k2, by rw [← h1]; exact k3⟩) _
    refine px_aload_0 dX8_carryOut_0 ?_
    refine cg_X8_228 rfl ⟨⟨Nat.le_of_ble_eq_true rfl, Nat.le_of_ble_eq_true rfl⟩, Nat.le_of_ble_eq_true rfl, Nat.le_of_ble_eq_true rfl, Nat.le_of_ble_eq_true rfl⟩ (by first | assumption | exact mo_a hm | exact mo_r0 hm | exact mo_r1 hm | exact mo_r2 hm | exact mo_r4 hm | exact mo_r6 hm | exact mo_r8 hm | exact mo_a1 hm | exact mo_a2 hm | exact mo_a3 hm | exact mo_a4 hm | exact mo_a5 hm | exact mo_a6 hm) dX8_carryOut_1 (s_X8_fault hm (MI_bp h)) ?_
    rintro v μ' ⟨rfl, I1, rfl, g1, g2⟩; rw [hf]; have hM1 := MI_kept h g1 g2; have hM2 := MI_aside (f := I1 (m + 1)) hM1
    refine px_bipush (-6) dX8_carryOut_4 rfl ?_
    refine px_icmp_eq (tgt := 12) dX8_carryOut_6 (by decide) (fun h6 => ?_) (fun h6 => (by first | exact absurd (rfl) h6 | exact absurd h6 (rfl)))
    refine px_aload_0 dX8_carryOut_12 ?_
    refine cd_X8_90 rfl ⟨⟨Nat.le_of_ble_eq_true rfl, Nat.le_of_ble_eq_true rfl⟩, Nat.le_of_ble_eq_true rfl, Nat.le_of_ble_eq_true rfl, Nat.le_of_ble_eq_true rfl⟩ (by first | assumption | exact mo_a hm | exact mo_r0 hm | exact mo_r1 hm | exact mo_r2 hm | exact mo_r4 hm | exact mo_r6 hm | exact mo_r8 hm | exact mo_a1 hm | exact mo_a2 hm | exact mo_a3 hm | exact mo_a4 hm | exact mo_a5 hm | exact mo_a6 hm) dX8_carryOut_13 (s_X8_putAside hm) ?_
    refine px_aload_0 dX8_carryOut_16 ?_
    refine px_iconst (1) dX8_carryOut_17 rfl ?_
    refine cg_X8_224 rfl ⟨⟨Nat.le_of_ble_eq_true rfl, Nat.le_of_ble_eq_true rfl⟩, Nat.le_of_ble_eq_true rfl, Nat.le_of_ble_eq_true rfl, Nat.le_of_ble_eq_true rfl⟩ (by first | assumption | exact mo_a hm | exact mo_r0 hm | exact mo_r1 hm | exact mo_r2 hm | exact mo_r4 hm | exact mo_r6 hm | exact mo_r8 hm | exact mo_a1 hm | exact mo_a2 hm | exact mo_a3 hm | exact mo_a4 hm | exact mo_a5 hm | exact mo_a6 hm) dX8_carryOut_18 (hgt _ (MI_bp hM2) hM2.1) ?_
    rintro v μ' ⟨B', f, s', rfl, rfl, k1, k2, k3⟩; have hhi : px_hi (px_tk B' m f s') m A.2.1.1 A.2.1.2 := ⟨by rw [tk_nj (by decide) (by decide), k2 _ (by decide)]; exact hM2.2.1.1, hM2.2.1.2.1, fun i hi k hk => by rw [tk_ne (by omega), k1 _ (by omega) (by omega)]; exact hM2.2.1.2.2 i hi k hk⟩
    refine px_istore_1 dX8_carryOut_21 rfl ?_
    refine px_aload_0 dX8_carryOut_22 ?_
    refine cg_X8_37 rfl ⟨⟨Nat.le_of_ble_eq_true rfl, Nat.le_of_ble_eq_true rfl⟩, Nat.le_of_ble_eq_true rfl, Nat.le_of_ble_eq_true rfl, Nat.le_of_ble_eq_true rfl⟩ (by first | assumption | exact mo_a hm | exact mo_r0 hm | exact mo_r1 hm | exact mo_r2 hm | exact mo_r4 hm | exact mo_r6 hm | exact mo_r8 hm | exact mo_a1 hm | exact mo_a2 hm | exact mo_a3 hm | exact mo_a4 hm | exact mo_a5 hm | exact mo_a6 hm) dX8_carryOut_23 (s_X8_record hm hhi) ?_
    rintro v μ' ⟨I4, rfl, rfl, hh, r1, r2⟩
    refine px_aload_0 dX8_carryOut_26 ?_
    refine px_iconst (0) dX8_carryOut_27 rfl ?_
    refine pf_X8_156 rfl dX8_carryOut_28 (by first | assumption | exact mo_a hm | exact mo_r0 hm | exact mo_r1 hm | exact mo_r2 hm | exact mo_r4 hm | exact mo_r6 hm | exact mo_r8 hm | exact mo_a1 hm | exact mo_a2 hm | exact mo_a3 hm | exact mo_a4 hm | exact mo_a5 hm | exact mo_a6 hm) ?_
    refine px_iload_1 dX8_carryOut_31 ?_
    refine px_iret dX8_carryOut_32 ?_
    skip
    have e2 : ∀ k, k < 151 → px_tk B' m f s' (m + 2) k = A.1 k := fun k hk => by rw [tk_ne (by omega), k1 _ (by omega) (by omega), px_cpf_in (by omega), hM1.1, Nat.sub_zero]
    have hcg := h_push_congr (kn := A.2.1.1) (H := A.2.1.2) e2
    rw [hcg.1] at hh
    have hh2 := px_hi_congr hh (fun i _ k hk => hcg.2 i k hk)
    obtain ⟨h1, ⟨h2, h3, h4⟩, h5, h6, h7, h8, h9⟩ := hM2
    refine ⟨rfl, _, J, rfl, ⟨?_, ⟨?_, hh2.2.1, fun i hi q hq => ?_⟩, ?_, fun s hs hv q hq => ?_, ?_, Nat.zero_le _, fun i hi => absurd hi (Nat.not_lt_zero i)⟩, fun a ha => ?_, fun a ha => rfl⟩
    · rw [px_up_ne (by omega), r1 _ (by omega) (by omega), tk_ne (by omega)]; exact k3
    · rw [px_up_nj (by decide)]; exact hh2.1
    · rw [px_up_ne (by omega)]; exact hh2.2.2 i hi q hq
    · rw [px_up_nj (by decide), r2 _ (by decide), tk_nj (by decide) (by decide), k2 _ (by decide)]; exact h5
    · rw [px_up_ne (by omega), r1 _ (by omega) (by omega), tk_ne (by omega), k1 _ (by omega) (by omega)]; exact h6 s hs hv q hq
    · exact px_up_self _ _ _ _
    · rw [px_up_ne (by omega), r1 _ (by omega) (by omega), tk_ne (by omega), k1 _ (by omega) (by omega), px_cpf_ne (by omega), g1 _ (by omega)]
  · have ha : a_co A = (-3, A) := if_neg hf
    rw [ha]
    refine px_aload_0 dX8_carryOut_0 ?_
    refine cg_X8_228 rfl ⟨⟨Nat.le_of_ble_eq_true rfl, Nat.le_of_ble_eq_true rfl⟩, Nat.le_of_ble_eq_true rfl, Nat.le_of_ble_eq_true rfl, Nat.le_of_ble_eq_true rfl⟩ (by first | assumption | exact mo_a hm | exact mo_r0 hm | exact mo_r1 hm | exact mo_r2 hm | exact mo_r4 hm | exact mo_r6 hm | exact mo_r8 hm | exact mo_a1 hm | exact mo_a2 hm | exact mo_a3 hm | exact mo_a4 hm | exact mo_a5 hm | exact mo_a6 hm) dX8_carryOut_1 (s_X8_fault hm (MI_bp h)) ?_
    rintro v μ' ⟨rfl, I1, rfl, g1, g2⟩
    refine px_bipush (-6) dX8_carryOut_4 rfl ?_
    refine px_icmp_eq (tgt := 12) dX8_carryOut_6 (by decide) (fun h6 => (by first | exact absurd h6 (hf) | exact absurd (hf) h6)) (fun h6 => ?_)
    refine px_bipush (-3) dX8_carryOut_9 rfl ?_
    refine px_iret dX8_carryOut_11 ?_
    exact ⟨rfl, I1, J, rfl, MI_kept h g1 g2, fun a ha => g1 a (by omega), fun _ _ => rfl⟩
end MCO

