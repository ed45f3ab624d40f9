section MST
variable {l : Launch} {G : px_G} {T : px_T} {I : px_I} {J : px_J} {R : px_R} {μ : px_M} {m : Nat} {σ : px_s}
/-- the best way from town a by the first so many ways -/
def f_st (σ : px_s) (W : Nat → Int64) (left : Nat) (a : Int32) : Nat → Int64 × Int32 × Int32
  | 0 => (100 * W (ix a), -6, 0)
  | i + 1 => if σ (9 + 6 * (i / 4) + i % 2) = a ∧ (f_st σ W left a i).1 < f_by σ W (i / 4) (i % 2) left (i / 2 % 2) then (f_by σ W (i / 4) (i % 2) left (i / 2 % 2), nI (i / 4), nI (i / 2 % 2)) else f_st σ W left a i
def f_step (σ : px_s) (a w : Int32) : Int32 := if ¬ rg a 0 7 then -1 else if ¬ rg w 0 1 then -2 else if w = 0 then (f_st σ (f_w σ 0 (ix (σ 144) - 1)) (ix (σ 144)) a (4 * f_nr σ)).2.1 else (f_st σ (f_w σ 0 (ix (σ 144) - 1)) (ix (σ 144)) a (4 * f_nr σ)).2.2
theorem s_X8_step {a w : Int32} (hm : px_mo G T R m) (hV : px_V (I (m + 1))) : px_C l G 4 0 0 mX8_step [.ref m, .int a, .int w] (T, I, J, R) (px_Qj T I J R m (.int (f_step (I (m + 1)) a w))) := by
  have hn := hV.1.1
  have h14 := hV.1.2.1
  have e8 : (4 : Int32) * I (m + 1) 8 = nI (4 * f_nr (I (m + 1))) := by rw [hn, show (4 : Int32) * nI (f_nr (I (m + 1))) = nI 4 * nI (f_nr (I (m + 1))) from rfl, pk_mul]
  obtain ⟨e4, l1, l4⟩ := legs_of hV
  refine px_met (M := mX8_step) ([some (.ref m), some (.int a), some (.int w), none, none, none, none, none, none, none, none, none, none, none]) (by decide +kernel) rfl (Nat.le_of_ble_eq_true rfl) rfl ?_
  by_cases hr : rg a 0 7
  · have h7 := ix_le hr (k := 7) rfl
    by_cases hw : rg w 0 1
    · generalize hg : ix (I (m + 1) 144) = g at *
      obtain ⟨g', rfl⟩ : ∃ g', g = g' + 1 := ⟨g - 1, by omega⟩
      have e4' : I (m + 1) 144 - 1 = nI g' := by rw [e4, nI_pred]
      have hf : f_step (I (m + 1)) a w = if w = 0 then (f_st (I (m + 1)) (f_w (I (m + 1)) 0 g') (g' + 1) a (4 * f_nr (I (m + 1)))).2.1 else (f_st (I (m + 1)) (f_w (I (m + 1)) 0 g') (g' + 1) a (4 * f_nr (I (m + 1)))).2.2 := by rw [f_step, if_neg (fun q => q hr), if_neg (fun q => q hw), hg]; rfl
      rw [hf]
      generalize hQ : px_Qj T I J R m (.int (if w = 0 then (f_st (I (m + 1)) (f_w (I (m + 1)) 0 g') (g' + 1) a (4 * f_nr (I (m + 1)))).2.1 else (f_st (I (m + 1)) (f_w (I (m + 1)) 0 g') (g' + 1) a (4 * f_nr (I (m + 1)))).2.2)) = Q
      have L : ∀ (J' : px_J), (∀ b, b ≠ m + 6 → J' b = J b) → (∀ q, q ≤ g' + 1 → ∀ t, t < 8 → J' (m + 6) (8 * q + t) = f_w (I (m + 1)) 0 q t) → ∀ n i, i + n = 4 * f_nr (I (m + 1)) → ∀ o9 o10 o11 o13, (px_W l G yX8_step cX8_step 14 (some .int) (px_rm 4 0 0) (px_Fn G Q 0 0) 65 [some (.ref m), some (.int a), some (.int w), some (.int (I (m + 1) 144)), some (.long (f_st (I (m + 1)) (f_w (I (m + 1)) 0 g') (g' + 1) a i).1), none, some (.int (f_st (I (m + 1)) (f_w (I (m + 1)) 0 g') (g' + 1) a i).2.1), some (.int (f_st (I (m + 1)) (f_w (I (m + 1)) 0 g') (g' + 1) a i).2.2), some (.int (nI i)), o9, o10, o11, none, o13] [] 0 0 (T, I, J', R)) := by
        intro J' g1 g2 n
        induction n with
        | zero =>
          intro i hi o9 o10 o11 o13
          obtain rfl : i = 4 * f_nr (I (m + 1)) := by omega
          by_cases w0 : w = 0
          · rw [if_pos w0] at hQ
            refine px_iload_8 dX8_step_65 ?_
            refine px_iconst (4) dX8_step_67 rfl ?_
            refine px_aload_0 dX8_step_68 ?_
            refine gf_X8_7 rfl dX8_step_69 (by first | assumption | exact mo_a hm | exact mo_r0 hm | exact mo_r1 hm | exact mo_r2 hm | exact mo_r4 hm | exact mo_r6 hm | exact mo_r8 hm | exact mo_a1 hm | exact mo_a2 hm | exact mo_a3 hm | exact mo_a4 hm | exact mo_a5 hm | exact mo_a6 hm) (by first | assumption | exact mo_a hm | exact mo_r0 hm | exact mo_r1 hm | exact mo_r2 hm | exact mo_r4 hm | exact mo_r6 hm | exact mo_r8 hm | exact mo_a1 hm | exact mo_a2 hm | exact mo_a3 hm | exact mo_a4 hm | exact mo_a5 hm | exact mo_a6 hm) ?_
            refine px_bipush (8) dX8_step_72 rfl ?_
            refine px_ialdN (j := 8) dX8_step_74 (by first | assumption | exact mo_a hm | exact mo_r0 hm | exact mo_r1 hm | exact mo_r2 hm | exact mo_r4 hm | exact mo_r6 hm | exact mo_r8 hm | exact mo_a1 hm | exact mo_a2 hm | exact mo_a3 hm | exact mo_a4 hm | exact mo_a5 hm | exact mo_a6 hm) (by first | rfl | exact ix_eq (by assumption)) (by first | decide | omega) ?_
            refine px_imul dX8_step_75 ?_
            rw [e8]
            refine px_icmp_ge (tgt := 196) dX8_step_76 (by decide) (fun h76 => ?_) (fun h76 => (by first | exact absurd ((nI_le (Nat.le_refl _) (by omega))) h76 | exact absurd h76 ((nI_le (Nat.le_refl _) (by omega)))))
            refine px_iload_2 dX8_step_196 ?_
            refine px_if_ne (tgt := 205) dX8_step_197 (by decide) (fun h197 => (by first | exact absurd h197 (w0) | exact absurd (w0) h197)) (fun h197 => ?_)
            refine px_iload_6 dX8_step_200 ?_
            refine px_goto (tgt := 207) dX8_step_202 (by decide) ?_
            refine px_iret dX8_step_207 ?_
            subst hQ; exact ⟨rfl, J', rfl, g1⟩
          · rw [if_neg w0] at hQ
            refine px_iload_8 dX8_step_65 ?_
            refine px_iconst (4) dX8_step_67 rfl ?_
            refine px_aload_0 dX8_step_68 ?_
            refine gf_X8_7 rfl dX8_step_69 (by first | assumption | exact mo_a hm | exact mo_r0 hm | exact mo_r1 hm | exact mo_r2 hm | exact mo_r4 hm | exact mo_r6 hm | exact mo_r8 hm | exact mo_a1 hm | exact mo_a2 hm | exact mo_a3 hm | exact mo_a4 hm | exact mo_a5 hm | exact mo_a6 hm) (by first | assumption | exact mo_a hm | exact mo_r0 hm | exact mo_r1 hm | exact mo_r2 hm | exact mo_r4 hm | exact mo_r6 hm | exact mo_r8 hm | exact mo_a1 hm | exact mo_a2 hm | exact mo_a3 hm | exact mo_a4 hm | exact mo_a5 hm | exact mo_a6 hm) ?_
            refine px_bipush (8) dX8_step_72 rfl ?_
            refine px_ialdN (j := 8) dX8_step_74 (by first | assumption | exact mo_a hm | exact mo_r0 hm | exact mo_r1 hm | exact mo_r2 hm | exact mo_r4 hm | exact mo_r6 hm | exact mo_r8 hm | exact mo_a1 hm | exact mo_a2 hm | exact mo_a3 hm | exact mo_a4 hm | exact mo_a5 hm | exact mo_a6 hm) (by first | rfl | exact ix_eq (by assumption)) (by first | decide | omega) ?_
            refine px_imul dX8_step_75 ?_
            rw [e8]
            refine px_icmp_ge (tgt := 196) dX8_step_76 (by decide) (fun h76 => ?_) (fun h76 => (by first | exact absurd ((nI_le (Nat.le_refl _) (by omega))) h76 | exact absurd h76 ((nI_le (Nat.le_refl _) (by omega)))))
            refine px_iload_2 dX8_step_196 ?_
            refine px_if_ne (tgt := 205) dX8_step_197 (by decide) (fun h197 => ?_) (fun h197 => (by first | exact absurd (w0) h197 | exact absurd h197 (w0)))
            refine px_iload_7 dX8_step_205 ?_
            refine px_iret dX8_step_207 ?_
            subst hQ; exact ⟨rfl, J', rfl, g1⟩
        | succ n ih =>
          intro i hi o9 o10 o11 o13
          have hlt : ¬ nI (4 * f_nr (I (m + 1))) ≤ nI i := nI_ge (by omega) (by omega)
          have hr : i / 4 < f_nr (I (m + 1)) := by omega
          have hk : i % 2 < 2 := Nat.mod_lt _ (by decide)
          have e1 : nI i / 4 = nI (i / 4) := pk_div (d := 4) (by omega) (by decide) (by decide)
          have e2 : nI i / 2 - nI i / 2 / 2 * 2 = nI (i / 2 % 2) := by rw [show nI i / 2 = nI (i / 2) from pk_div (d := 2) (by omega) (by decide) (by decide)]; exact pk_rem (d := 2) (by omega) (by decide) (by decide)
          have e5 : nI i - nI i / 2 * 2 = nI (i % 2) := pk_rem (d := 2) (by omega) (by decide) (by decide)
          have hend := s_X8_end (l := l) (I := I) (J := J') (v := nI i / 4) (u := nI i - nI i / 2 * 2) hm e1 (by omega) e5 (by omega)
          have hpre : ∀ t, t < 8 → J' (m + 6) (8 * g' + t) = f_w (I (m + 1)) 0 g' t := g2 g' (by omega)
          have ih2 := ih (i + 1) (by omega)
          by_cases h1 : i / 2 % 2 = 1
          · have b1 : nI i / 2 - nI i / 2 / 2 * 2 = 1 := by rw [e2, h1]; rfl
            have hby := s_X8_by (l := l) (J := J') (b := 1) (h := i / 2 % 2) hm hV e1 hr e5 hk e4 (by omega) (by rw [h1]; rfl) (by omega) hpre
            by_cases hc : I (m + 1) (9 + 6 * (i / 4) + i % 2) = a
            · by_cases hv : (f_st (I (m + 1)) (f_w (I (m + 1)) 0 g') (g' + 1) a i).1 < f_by (I (m + 1)) (f_w (I (m + 1)) 0 g') (i / 4) (i % 2) (g' + 1) (i / 2 % 2)
              · rw [f_st, if_pos ⟨hc, hv⟩] at ih2
                dsimp only at ih2
                refine px_iload_8 dX8_step_65 ?_
                refine px_iconst (4) dX8_step_67 rfl ?_
                refine px_aload_0 dX8_step_68 ?_
                refine gf_X8_7 rfl dX8_step_69 (by first | assumption | exact mo_a hm | exact mo_r0 hm | exact mo_r1 hm | exact mo_r2 hm | exact mo_r4 hm | exact mo_r6 hm | exact mo_r8 hm | exact mo_a1 hm | exact mo_a2 hm | exact mo_a3 hm | exact mo_a4 hm | exact mo_a5 hm | exact mo_a6 hm) (by first | assumption | exact mo_a hm | exact mo_r0 hm | exact mo_r1 hm | exact mo_r2 hm | exact mo_r4 hm | exact mo_r6 hm | exact mo_r8 hm | exact mo_a1 hm | exact mo_a2 hm | exact mo_a3 hm | exact mo_a4 hm | exact mo_a5 hm | exact mo_a6 hm) ?_
                refine px_bipush (8) dX8_step_72 rfl ?_
                refine px_ialdN (j := 8) dX8_step_74 (by first | assumption | exact mo_a hm | exact mo_r0 hm | exact mo_r1 hm | exact mo_r2 hm | exact mo_r4 hm | exact mo_r6 hm | exact mo_r8 hm | exact mo_a1 hm | exact mo_a2 hm | exact mo_a3 hm | exact mo_a4 hm | exact mo_a5 hm | exact mo_a6 hm) (by first | rfl | exact ix_eq (by assumption)) (by first | decide | omega) ?_
                refine px_imul dX8_step_75 ?_
                rw [e8]
                refine px_icmp_ge (tgt := 196) dX8_step_76 (by decide) (fun h76 => (by first | exact absurd h76 (hlt) | exact absurd (hlt) h76)) (fun h76 => ?_)
                refine px_iload_8 dX8_step_79 ?_
                refine px_iconst (2) dX8_step_81 rfl ?_
                refine px_irem dX8_step_82 (by decide) ?_
                refine px_istore_9 dX8_step_83 rfl ?_
                refine px_iload_8 dX8_step_85 ?_
                refine px_iconst (2) dX8_step_87 rfl ?_
                refine px_idiv dX8_step_88 (by decide) ?_
                refine px_iconst (2) dX8_step_89 rfl ?_
                refine px_irem dX8_step_90 (by decide) ?_
                refine px_istore_10 dX8_step_91 rfl ?_
                refine px_aload_0 dX8_step_93 ?_
                refine px_iload_8 dX8_step_94 ?_
                refine px_iconst (4) dX8_step_96 rfl ?_
                refine px_idiv dX8_step_97 (by decide) ?_
                refine px_iload_9 dX8_step_98 ?_
                refine px_iload_3 dX8_step_100 ?_
                refine px_iload_10 dX8_step_101 ?_
                refine px_iconst (1) dX8_step_103 rfl ?_
                refine px_icmp_ne (tgt := 111) dX8_step_104 (by decide) (fun h104 => (by first | exact absurd h104 (b1) | exact absurd (b1) h104)) (fun h104 => ?_)
                refine px_iconst (1) dX8_step_107 rfl ?_
                refine px_goto (tgt := 112) dX8_step_108 (by decide) ?_
                refine cd_X8_74 rfl ⟨⟨Nat.le_of_ble_eq_true rfl, Nat.le_of_ble_eq_true rfl⟩, Nat.le_of_ble_eq_true rfl, Nat.le_of_ble_eq_true rfl, Nat.le_of_ble_eq_true rfl⟩ (by first | assumption | exact mo_a hm | exact mo_r0 hm | exact mo_r1 hm | exact mo_r2 hm | exact mo_r4 hm | exact mo_r6 hm | exact mo_r8 hm | exact mo_a1 hm | exact mo_a2 hm | exact mo_a3 hm | exact mo_a4 hm | exact mo_a5 hm | exact mo_a6 hm) dX8_step_112 (hby) ?_
                refine px_lstore_11 dX8_step_115 rfl ?_
                refine px_aload_0 dX8_step_117 ?_
                refine px_iload_8 dX8_step_118 ?_
                refine px_iconst (4) dX8_step_120 rfl ?_
                refine px_idiv dX8_step_121 (by decide) ?_
                refine px_iload_9 dX8_step_122 ?_
                refine cd_X8_48 rfl ⟨⟨Nat.le_of_ble_eq_true rfl, Nat.le_of_ble_eq_true rfl⟩, Nat.le_of_ble_eq_true rfl, Nat.le_of_ble_eq_true rfl, Nat.le_of_ble_eq_true rfl⟩ (by first | assumption | exact mo_a hm | exact mo_r0 hm | exact mo_r1 hm | exact mo_r2 hm | exact mo_r4 hm | exact mo_r6 hm | exact mo_r8 hm | exact mo_a1 hm | exact mo_a2 hm | exact mo_a3 hm | exact mo_a4 hm | exact mo_a5 hm | exact mo_a6 hm) dX8_step_124 (hend) ?_
                refine px_iload_1 dX8_step_127 ?_
                refine px_icmp_ne (tgt := 143) dX8_step_128 (by decide) (fun h128 => (by first | exact absurd h128 (hc) | exact absurd (hc) h128)) (fun h128 => ?_)
                refine px_lload_11 dX8_step_131 ?_
                refine px_lload_4 dX8_step_133 ?_
                refine px_lcmp dX8_step_135 ?_
                refine px_lc_le (tgt := 143) dX8_step_136 (by decide) (fun h136 => (by first | exact absurd h136 ((Int64.not_le.mpr hv)) | exact absurd ((Int64.not_le.mpr hv)) h136)) (fun h136 => ?_)
                refine px_iconst (1) dX8_step_139 rfl ?_
                refine px_goto (tgt := 144) dX8_step_140 (by decide) ?_
                refine px_istore_13 dX8_step_144 rfl ?_
                refine px_iload_13 dX8_step_146 ?_
                refine px_if_eq (tgt := 158) dX8_step_148 (by decide) (fun h148 => (by first | exact absurd h148 ((by decide)) | exact absurd ((by decide)) h148)) (fun h148 => ?_)
                refine px_iload_8 dX8_step_151 ?_
                refine px_iconst (4) dX8_step_153 rfl ?_
                refine px_idiv dX8_step_154 (by decide) ?_
                rw [e1]
                refine px_goto (tgt := 160) dX8_step_155 (by decide) ?_
                refine px_istore_6 dX8_step_160 rfl ?_
                refine px_iload_13 dX8_step_162 ?_
                refine px_if_eq (tgt := 172) dX8_step_164 (by decide) (fun h164 => (by first | exact absurd h164 ((by decide)) | exact absurd ((by decide)) h164)) (fun h164 => ?_)
                refine px_iload_10 dX8_step_167 ?_
                rw [e2]
                refine px_goto (tgt := 174) dX8_step_169 (by decide) ?_
                refine px_istore_7 dX8_step_174 rfl ?_
                refine px_iload_13 dX8_step_176 ?_
                refine px_if_eq (tgt := 186) dX8_step_178 (by decide) (fun h178 => (by first | exact absurd h178 ((by decide)) | exact absurd ((by decide)) h178)) (fun h178 => ?_)
                refine px_lload_11 dX8_step_181 ?_
                refine px_goto (tgt := 188) dX8_step_183 (by decide) ?_
                refine px_lstore_4 dX8_step_188 rfl ?_
                refine px_iinc_8 dX8_step_190 rfl ?_
                refine px_goto (tgt := 65) dX8_step_193 (by decide) ?_
                rw [inc_nI]; exact ih2 _ _ _ _
              · rw [f_st, if_neg (fun q => hv q.2)] at ih2
                refine px_iload_8 dX8_step_65 ?_
                refine px_iconst (4) dX8_step_67 rfl ?_
                refine px_aload_0 dX8_step_68 ?_
                refine gf_X8_7 rfl dX8_step_69 (by first | assumption | exact mo_a hm | exact mo_r0 hm | exact mo_r1 hm | exact mo_r2 hm | exact mo_r4 hm | exact mo_r6 hm | exact mo_r8 hm | exact mo_a1 hm | exact mo_a2 hm | exact mo_a3 hm | exact mo_a4 hm | exact mo_a5 hm | exact mo_a6 hm) (by first | assumption | exact mo_a hm | exact mo_r0 hm | exact mo_r1 hm | exact mo_r2 hm | exact mo_r4 hm | exact mo_r6 hm | exact mo_r8 hm | exact mo_a1 hm | exact mo_a2 hm | exact mo_a3 hm | exact mo_a4 hm | exact mo_a5 hm | exact mo_a6 hm) ?_
                refine px_bipush (8) dX8_step_72 rfl ?_
                refine px_ialdN (j := 8) dX8_step_74 (by first | assumption | exact mo_a hm | exact mo_r0 hm | exact mo_r1 hm | exact mo_r2 hm | exact mo_r4 hm | exact mo_r6 hm | exact mo_r8 hm | exact mo_a1 hm | exact mo_a2 hm | exact mo_a3 hm | exact mo_a4 hm | exact mo_a5 hm | exact mo_a6 hm) (by first | rfl | exact ix_eq (by assumption)) (by first | decide | omega) ?_
                refine px_imul dX8_step_75 ?_
                rw [e8]
                refine px_icmp_ge (tgt := 196) dX8_step_76 (by decide) (fun h76 => (by first | exact absurd h76 (hlt) | exact absurd (hlt) h76)) (fun h76 => ?_)
                refine px_iload_8 dX8_step_79 ?_
                refine px_iconst (2) dX8_step_81 rfl ?_
                refine px_irem dX8_step_82 (by decide) ?_
                refine px_istore_9 dX8_step_83 rfl ?_
                refine px_iload_8 dX8_step_85 ?_
                refine px_iconst (2) dX8_step_87 rfl ?_
                refine px_idiv dX8_step_88 (by decide) ?_
                refine px_iconst (2) dX8_step_89 rfl ?_
                refine px_irem dX8_step_90 (by decide) ?_
                refine px_istore_10 dX8_step_91 rfl ?_
                refine px_aload_0 dX8_step_93 ?_
                refine px_iload_8 dX8_step_94 ?_
                refine px_iconst (4) dX8_step_96 rfl ?_
                refine px_idiv dX8_step_97 (by decide) ?_
                refine px_iload_9 dX8_step_98 ?_
                refine px_iload_3 dX8_step_100 ?_
                refine px_iload_10 dX8_step_101 ?_
                refine px_iconst (1) dX8_step_103 rfl ?_
                refine px_icmp_ne (tgt := 111) dX8_step_104 (by decide) (fun h104 => (by first | exact absurd h104 (b1) | exact absurd (b1) h104)) (fun h104 => ?_)
                refine px_iconst (1) dX8_step_107 rfl ?_
                refine px_goto (tgt := 112) dX8_step_108 (by decide) ?_
                refine cd_X8_74 rfl ⟨⟨Nat.le_of_ble_eq_true rfl, Nat.le_of_ble_eq_true rfl⟩, Nat.le_of_ble_eq_true rfl, Nat.le_of_ble_eq_true rfl, Nat.le_of_ble_eq_true rfl⟩ (by first | assumption | exact mo_a hm | exact mo_r0 hm | exact mo_r1 hm | exact mo_r2 hm | exact mo_r4 hm | exact mo_r6 hm | exact mo_r8 hm | exact mo_a1 hm | exact mo_a2 hm | exact mo_a3 hm | exact mo_a4 hm | exact mo_a5 hm | exact mo_a6 hm) dX8_step_112 (hby) ?_
                refine px_lstore_11 dX8_step_115 rfl ?_
                refine px_aload_0 dX8_step_117 ?_
                refine px_iload_8 dX8_step_118 ?_
                refine px_iconst (4) dX8_step_120 rfl ?_
                refine px_idiv dX8_step_121 (by decide) ?_
                refine px_iload_9 dX8_step_122 ?_
                refine cd_X8_48 rfl ⟨⟨Nat.le_of_ble_eq_true rfl, Nat.le_of_ble_eq_true rfl⟩, Nat.le_of_ble_eq_true rfl, Nat.le_of_ble_eq_true rfl, Nat.le_of_ble_eq_true rfl⟩ (by first | assumption | exact mo_a hm | exact mo_r0 hm | exact mo_r1 hm | exact mo_r2 hm | exact mo_r4 hm | exact mo_r6 hm | exact mo_r8 hm | exact mo_a1 hm | exact mo_a2 hm | exact mo_a3 hm | exact mo_a4 hm | exact mo_a5 hm | exact mo_a6 hm) dX8_step_124 (hend) ?_
                refine px_iload_1 dX8_step_127 ?_
                refine px_icmp_ne (tgt := 143) dX8_step_128 (by decide) (fun h128 => (by first | exact absurd h128 (hc) | exact absurd (hc) h128)) (fun h128 => ?_)
                refine px_lload_11 dX8_step_131 ?_
                refine px_lload_4 dX8_step_133 ?_
                refine px_lcmp dX8_step_135 ?_
                refine px_lc_le (tgt := 143) dX8_step_136 (by decide) (fun h136 => ?_) (fun h136 => (by first | exact absurd ((Int64.not_lt.mp hv)) h136 | exact absurd h136 ((Int64.not_lt.mp hv))))
                refine px_iconst (0) dX8_step_143 rfl ?_
                refine px_istore_13 dX8_step_144 rfl ?_
                refine px_iload_13 dX8_step_146 ?_
                refine px_if_eq (tgt := 158) dX8_step_148 (by decide) (fun h148 => ?_) (fun h148 => (by first | exact absurd (rfl) h148 | exact absurd h148 (rfl)))
                refine px_iload_6 dX8_step_158 ?_
                refine px_istore_6 dX8_step_160 rfl ?_
                refine px_iload_13 dX8_step_162 ?_
                refine px_if_eq (tgt := 172) dX8_step_164 (by decide) (fun h164 => ?_) (fun h164 => (by first | exact absurd (rfl) h164 | exact absurd h164 (rfl)))
                refine px_iload_7 dX8_step_172 ?_
                refine px_istore_7 dX8_step_174 rfl ?_
                refine px_iload_13 dX8_step_176 ?_
                refine px_if_eq (tgt := 186) dX8_step_178 (by decide) (fun h178 => ?_) (fun h178 => (by first | exact absurd (rfl) h178 | exact absurd h178 (rfl)))
                refine px_lload_4 dX8_step_186 ?_
                refine px_lstore_4 dX8_step_188 rfl ?_
                refine px_iinc_8 dX8_step_190 rfl ?_
                refine px_goto (tgt := 65) dX8_step_193 (by decide) ?_
                rw [inc_nI]; exact ih2 _ _ _ _
            · rw [f_st, if_neg (fun q => hc q.1)] at ih2
              refine px_iload_8 dX8_step_65 ?_
              refine px_iconst (4) dX8_step_67 rfl ?_
              refine px_aload_0 dX8_step_68 ?_
              refine gf_X8_7 rfl dX8_step_69 (by first | assumption | exact mo_a hm | exact mo_r0 hm | exact mo_r1 hm | exact mo_r2 hm | exact mo_r4 hm | exact mo_r6 hm | exact mo_r8 hm | exact mo_a1 hm | exact mo_a2 hm | exact mo_a3 hm | exact mo_a4 hm | exact mo_a5 hm | exact mo_a6 hm) (by first | assumption | exact mo_a hm | exact mo_r0 hm | exact mo_r1 hm | exact mo_r2 hm | exact mo_r4 hm | exact mo_r6 hm | exact mo_r8 hm | exact mo_a1 hm | exact mo_a2 hm | exact mo_a3 hm | exact mo_a4 hm | exact mo_a5 hm | exact mo_a6 hm) ?_
              refine px_bipush (8) dX8_step_72 rfl ?_
              refine px_ialdN (j := 8) dX8_step_74 (by first | assumption | exact mo_a hm | exact mo_r0 hm | exact mo_r1 hm | exact mo_r2 hm | exact mo_r4 hm | exact mo_r6 hm | exact mo_r8 hm | exact mo_a1 hm | exact mo_a2 hm | exact mo_a3 hm | exact mo_a4 hm | exact mo_a5 hm | exact mo_a6 hm) (by first | rfl | exact ix_eq (by assumption)) (by first | decide | omega) ?_
              refine px_imul dX8_step_75 ?_
              rw [e8]
              refine px_icmp_ge (tgt := 196) dX8_step_76 (by decide) (fun h76 => (by first | exact absurd h76 (hlt) | exact absurd (hlt) h76)) (fun h76 => ?_)
              refine px_iload_8 dX8_step_79 ?_
              refine px_iconst (2) dX8_step_81 rfl ?_
              refine px_irem dX8_step_82 (by decide) ?_
              refine px_istore_9 dX8_step_83 rfl ?_
              refine px_iload_8 dX8_step_85 ?_
              refine px_iconst (2) dX8_step_87 rfl ?_
              refine px_idiv dX8_step_88 (by decide) ?_
              refine px_iconst (2) dX8_step_89 rfl ?_
              refine px_irem dX8_step_90 (by decide) ?_
              refine px_istore_10 dX8_step_91 rfl ?_
              refine px_aload_0 dX8_step_93 ?_
              refine px_iload_8 dX8_step_94 ?_
              refine px_iconst (4) dX8_step_96 rfl ?_
              refine px_idiv dX8_step_97 (by decide) ?_
              refine px_iload_9 dX8_step_98 ?_
              refine px_iload_3 dX8_step_100 ?_
              refine px_iload_10 dX8_step_101 ?_
              refine px_iconst (1) dX8_step_103 rfl ?_
              refine px_icmp_ne (tgt := 111) dX8_step_104 (by decide) (fun h104 => (by first | exact absurd h104 (b1) | exact absurd (b1) h104)) (fun h104 => ?_)
              refine px_iconst (1) dX8_step_107 rfl ?_
              refine px_goto (tgt := 112) dX8_step_108 (by decide) ?_
              refine cd_X8_74 rfl ⟨⟨Nat.le_of_ble_eq_true rfl, Nat.le_of_ble_eq_true rfl⟩, Nat.le_of_ble_eq_true rfl, Nat.le_of_ble_eq_true rfl, Nat.le_of_ble_eq_true rfl⟩ (by first | assumption | exact mo_a hm | exact mo_r0 hm | exact mo_r1 hm | exact mo_r2 hm | exact mo_r4 hm | exact mo_r6 hm | exact mo_r8 hm | exact mo_a1 hm | exact mo_a2 hm | exact mo_a3 hm | exact mo_a4 hm | exact mo_a5 hm | exact mo_a6 hm) dX8_step_112 (hby) ?_
              refine px_lstore_11 dX8_step_115 rfl ?_
              refine px_aload_0 dX8_step_117 ?_
              refine px_iload_8 dX8_step_118 ?_
              refine px_iconst (4) dX8_step_120 rfl ?_
              refine px_idiv dX8_step_121 (by decide) ?_
              refine px_iload_9 dX8_step_122 ?_
              refine cd_X8_48 rfl ⟨⟨Nat.le_of_ble_eq_true rfl, Nat.le_of_ble_eq_true rfl⟩, Nat.le_of_ble_eq_true rfl, Nat.le_of_ble_eq_true rfl, Nat.le_of_ble_eq_true rfl⟩ (by first | assumption | exact mo_a hm | exact mo_r0 hm | exact mo_r1 hm | exact mo_r2 hm | exact mo_r4 hm | exact mo_r6 hm | exact mo_r8 hm | exact mo_a1 hm | exact mo_a2 hm | exact mo_a3 hm | exact mo_a4 hm | exact mo_a5 hm | exact mo_a6 hm) dX8_step_124 (hend) ?_
              refine px_iload_1 dX8_step_127 ?_
              refine px_icmp_ne (tgt := 143) dX8_step_128 (by decide) (fun h128 => ?_) (fun h128 => (by first | exact absurd (hc) h128 | exact absurd h128 (hc)))
              refine px_iconst (0) dX8_step_143 rfl ?_
              refine px_istore_13 dX8_step_144 rfl ?_
              refine px_iload_13 dX8_step_146 ?_
              refine px_if_eq (tgt := 158) dX8_step_148 (by decide) (fun h148 => ?_) (fun h148 => (by first | exact absurd (rfl) h148 | exact absurd h148 (rfl)))
              refine px_iload_6 dX8_step_158 ?_
              refine px_istore_6 dX8_step_160 rfl ?_
              refine px_iload_13 dX8_step_162 ?_
              refine px_if_eq (tgt := 172) dX8_step_164 (by decide) (fun h164 => ?_) (fun h164 => (by first | exact absurd (rfl) h164 | exact absurd h164 (rfl)))
              refine px_iload_7 dX8_step_172 ?_
              refine px_istore_7 dX8_step_174 rfl ?_
              refine px_iload_13 dX8_step_176 ?_
              refine px_if_eq (tgt := 186) dX8_step_178 (by decide) (fun h178 => ?_) (fun h178 => (by first | exact absurd (rfl) h178 | exact absurd h178 (rfl)))
              refine px_lload_4 dX8_step_186 ?_
              refine px_lstore_4 dX8_step_188 rfl ?_
              refine px_iinc_8 dX8_step_190 rfl ?_
              refine px_goto (tgt := 65) dX8_step_193 (by decide) ?_
              rw [inc_nI]; exact ih2 _ _ _ _
          · have b1 : ¬ nI i / 2 - nI i / 2 / 2 * 2 = 1 := by rw [e2, show i / 2 % 2 = 0 by omega]; decide
            have hby := s_X8_by (l := l) (J := J') (b := 0) (h := i / 2 % 2) hm hV e1 hr e5 hk e4 (by omega) (by rw [show i / 2 % 2 = 0 by omega]; rfl) (by omega) hpre
            by_cases hc : I (m + 1) (9 + 6 * (i / 4) + i % 2) = a
            · by_cases hv : (f_st (I (m + 1)) (f_w (I (m + 1)) 0 g') (g' + 1) a i).1 < f_by (I (m + 1)) (f_w (I (m + 1)) 0 g') (i / 4) (i % 2) (g' + 1) (i / 2 % 2)
              · rw [f_st, if_pos ⟨hc, hv⟩] at ih2
                dsimp only at ih2
                refine px_iload_8 dX8_step_65 ?_
                refine px_iconst (4) dX8_step_67 rfl ?_
                refine px_aload_0 dX8_step_68 ?_
                refine gf_X8_7 rfl dX8_step_69 (by first | assumption | exact mo_a hm | exact mo_r0 hm | exact mo_r1 hm | exact mo_r2 hm | exact mo_r4 hm | exact mo_r6 hm | exact mo_r8 hm | exact mo_a1 hm | exact mo_a2 hm | exact mo_a3 hm | exact mo_a4 hm | exact mo_a5 hm | exact mo_a6 hm) (by first | assumption | exact mo_a hm | exact mo_r0 hm | exact mo_r1 hm | exact mo_r2 hm | exact mo_r4 hm | exact mo_r6 hm | exact mo_r8 hm | exact mo_a1 hm | exact mo_a2 hm | exact mo_a3 hm | exact mo_a4 hm | exact mo_a5 hm | exact mo_a6 hm) ?_
                refine px_bipush (8) dX8_step_72 rfl ?_
                refine px_ialdN (j := 8) dX8_step_74 (by first | assumption | exact mo_a hm | exact mo_r0 hm | exact mo_r1 hm | exact mo_r2 hm | exact mo_r4 hm | exact mo_r6 hm | exact mo_r8 hm | exact mo_a1 hm | exact mo_a2 hm | exact mo_a3 hm | exact mo_a4 hm | exact mo_a5 hm | exact mo_a6 hm) (by first | rfl | exact ix_eq (by assumption)) (by first | decide | omega) ?_
                refine px_imul dX8_step_75 ?_
                rw [e8]
                refine px_icmp_ge (tgt := 196) dX8_step_76 (by decide) (fun h76 => (by first | exact absurd h76 (hlt) | exact absurd (hlt) h76)) (fun h76 => ?_)
                refine px_iload_8 dX8_step_79 ?_
                refine px_iconst (2) dX8_step_81 rfl ?_
                refine px_irem dX8_step_82 (by decide) ?_
                refine px_istore_9 dX8_step_83 rfl ?_
                refine px_iload_8 dX8_step_85 ?_
                refine px_iconst (2) dX8_step_87 rfl ?_
                refine px_idiv dX8_step_88 (by decide) ?_
                refine px_iconst (2) dX8_step_89 rfl ?_
                refine px_irem dX8_step_90 (by decide) ?_
                refine px_istore_10 dX8_step_91 rfl ?_
                refine px_aload_0 dX8_step_93 ?_
                refine px_iload_8 dX8_step_94 ?_
                refine px_iconst (4) dX8_step_96 rfl ?_
                refine px_idiv dX8_step_97 (by decide) ?_
                refine px_iload_9 dX8_step_98 ?_
                refine px_iload_3 dX8_step_100 ?_
                refine px_iload_10 dX8_step_101 ?_
                refine px_iconst (1) dX8_step_103 rfl ?_
                refine px_icmp_ne (tgt := 111) dX8_step_104 (by decide) (fun h104 => ?_) (fun h104 => (by first | exact absurd (b1) h104 | exact absurd h104 (b1)))
                refine px_iconst (0) dX8_step_111 rfl ?_
                refine cd_X8_74 rfl ⟨⟨Nat.le_of_ble_eq_true rfl, Nat.le_of_ble_eq_true rfl⟩, Nat.le_of_ble_eq_true rfl, Nat.le_of_ble_eq_true rfl, Nat.le_of_ble_eq_true rfl⟩ (by first | assumption | exact mo_a hm | exact mo_r0 hm | exact mo_r1 hm | exact mo_r2 hm | exact mo_r4 hm | exact mo_r6 hm | exact mo_r8 hm | exact mo_a1 hm | exact mo_a2 hm | exact mo_a3 hm | exact mo_a4 hm | exact mo_a5 hm | exact mo_a6 hm) dX8_step_112 (hby) ?_
                refine px_lstore_11 dX8_step_115 rfl ?_
                refine px_aload_0 dX8_step_117 ?_
                refine px_iload_8 dX8_step_118 ?_
                refine px_iconst (4) dX8_step_120 rfl ?_
                refine px_idiv dX8_step_121 (by decide) ?_
                refine px_iload_9 dX8_step_122 ?_
                refine cd_X8_48 rfl ⟨⟨Nat.le_of_ble_eq_true rfl, Nat.le_of_ble_eq_true rfl⟩, Nat.le_of_ble_eq_true rfl, Nat.le_of_ble_eq_true rfl, Nat.le_of_ble_eq_true rfl⟩ (by first | assumption | exact mo_a hm | exact mo_r0 hm | exact mo_r1 hm | exact mo_r2 hm | exact mo_r4 hm | exact mo_r6 hm | exact mo_r8 hm | exact mo_a1 hm | exact mo_a2 hm | exact mo_a3 hm | exact mo_a4 hm | exact mo_a5 hm | exact mo_a6 hm) dX8_step_124 (hend) ?_
                refine px_iload_1 dX8_step_127 ?_
                refine px_icmp_ne (tgt := 143) dX8_step_128 (by decide) (fun h128 => (by first | exact absurd h128 (hc) | exact absurd (hc) h128)) (fun h128 => ?_)
                refine px_lload_11 dX8_step_131 ?_
                refine px_lload_4 dX8_step_133 ?_
                refine px_lcmp dX8_step_135 ?_
                refine px_lc_le (tgt := 143) dX8_step_136 (by decide) (fun h136 => (by first | exact absurd h136 ((Int64.not_le.mpr hv)) | exact absurd ((Int64.not_le.mpr hv)) h136)) (fun h136 => ?_)
                refine px_iconst (1) dX8_step_139 rfl ?_
                refine px_goto (tgt := 144) dX8_step_140 (by decide) ?_
                refine px_istore_13 dX8_step_144 rfl ?_
                refine px_iload_13 dX8_step_146 ?_
                refine px_if_eq (tgt := 158) dX8_step_148 (by decide) (fun h148 => (by first | exact absurd h148 ((by decide)) | exact absurd ((by decide)) h148)) (fun h148 => ?_)
                refine px_iload_8 dX8_step_151 ?_
                refine px_iconst (4) dX8_step_153 rfl ?_
                refine px_idiv dX8_step_154 (by decide) ?_
                rw [e1]
                refine px_goto (tgt := 160) dX8_step_155 (by decide) ?_
                refine px_istore_6 dX8_step_160 rfl ?_
                refine px_iload_13 dX8_step_162 ?_
                refine px_if_eq (tgt := 172) dX8_step_164 (by decide) (fun h164 => (by first | exact absurd h164 ((by decide)) | exact absurd ((by decide)) h164)) (fun h164 => ?_)
                refine px_iload_10 dX8_step_167 ?_
                rw [e2]
                refine px_goto (tgt := 174) dX8_step_169 (by decide) ?_
                refine px_istore_7 dX8_step_174 rfl ?_
                refine px_iload_13 dX8_step_176 ?_
                refine px_if_eq (tgt := 186) dX8_step_178 (by decide) (fun h178 => (by first | exact absurd h178 ((by decide)) | exact absurd ((by decide)) h178)) (fun h178 => ?_)
                refine px_lload_11 dX8_step_181 ?_
                refine px_goto (tgt := 188) dX8_step_183 (by decide) ?_
                refine px_lstore_4 dX8_step_188 rfl ?_
                refine px_iinc_8 dX8_step_190 rfl ?_
                refine px_goto (tgt := 65) dX8_step_193 (by decide) ?_
                rw [inc_nI]; exact ih2 _ _ _ _
              · rw [f_st, if_neg (fun q => hv q.2)] at ih2
                refine px_iload_8 dX8_step_65 ?_
                refine px_iconst (4) dX8_step_67 rfl ?_
                refine px_aload_0 dX8_step_68 ?_
                refine gf_X8_7 rfl dX8_step_69 (by first | assumption | exact mo_a hm | exact mo_r0 hm | exact mo_r1 hm | exact mo_r2 hm | exact mo_r4 hm | exact mo_r6 hm | exact mo_r8 hm | exact mo_a1 hm | exact mo_a2 hm | exact mo_a3 hm | exact mo_a4 hm | exact mo_a5 hm | exact mo_a6 hm) (by first | assumption | exact mo_a hm | exact mo_r0 hm | exact mo_r1 hm | exact mo_r2 hm | exact mo_r4 hm | exact mo_r6 hm | exact mo_r8 hm | exact mo_a1 hm | exact mo_a2 hm | exact mo_a3 hm | exact mo_a4 hm | exact mo_a5 hm | exact mo_a6 hm) ?_
                refine px_bipush (8) dX8_step_72 rfl ?_
                refine px_ialdN (j := 8) dX8_step_74 (by first | assumption | exact mo_a hm | exact mo_r0 hm | exact mo_r1 hm | exact mo_r2 hm | exact mo_r4 hm | exact mo_r6 hm | exact mo_r8 hm | exact mo_a1 hm | exact mo_a2 hm | exact mo_a3 hm | exact mo_a4 hm | exact mo_a5 hm | exact mo_a6 hm) (by first | rfl | exact ix_eq (by assumption)) (by first | decide | omega) ?_
                refine px_imul dX8_step_75 ?_
                rw [e8]
                refine px_icmp_ge (tgt := 196) dX8_step_76 (by decide) (fun h76 => (by first | exact absurd h76 (hlt) | exact absurd (hlt) h76)) (fun h76 => ?_)
                refine px_iload_8 dX8_step_79 ?_
                refine px_iconst (2) dX8_step_81 rfl ?_
                refine px_irem dX8_step_82 (by decide) ?_
                refine px_istore_9 dX8_step_83 rfl ?_
                refine px_iload_8 dX8_step_85 ?_
                refine px_iconst (2) dX8_step_87 rfl ?_
                refine px_idiv dX8_step_88 (by decide) ?_
                refine px_iconst (2) dX8_step_89 rfl ?_
                refine px_irem dX8_step_90 (by decide) ?_
                refine px_istore_10 dX8_step_91 rfl ?_
                refine px_aload_0 dX8_step_93 ?_
                refine px_iload_8 dX8_step_94 ?_
                refine px_iconst (4) dX8_step_96 rfl ?_
                refine px_idiv dX8_step_97 (by decide) ?_
                refine px_iload_9 dX8_step_98 ?_
                refine px_iload_3 dX8_step_100 ?_
                refine px_iload_10 dX8_step_101 ?_
                refine px_iconst (1) dX8_step_103 rfl ?_
                refine px_icmp_ne (tgt := 111) dX8_step_104 (by decide) (fun h104 => ?_) (fun h104 => (by first | exact absurd (b1) h104 | exact absurd h104 (b1)))
                refine px_iconst (0) dX8_step_111 rfl ?_
                refine cd_X8_74 rfl ⟨⟨Nat.le_of_ble_eq_true rfl, Nat.le_of_ble_eq_true rfl⟩, Nat.le_of_ble_eq_true rfl, Nat.le_of_ble_eq_true rfl, Nat.le_of_ble_eq_true rfl⟩ (by first | assumption | exact mo_a hm | exact mo_r0 hm | exact mo_r1 hm | exact mo_r2 hm | exact mo_r4 hm | exact mo_r6 hm | exact mo_r8 hm | exact mo_a1 hm | exact mo_a2 hm | exact mo_a3 hm | exact mo_a4 hm | exact mo_a5 hm | exact mo_a6 hm) dX8_step_112 (hby) ?_
                refine px_lstore_11 dX8_step_115 rfl ?_
                refine px_aload_0 dX8_step_117 ?_
                refine px_iload_8 dX8_step_118 ?_
                refine px_iconst (4) dX8_step_120 rfl ?_
                refine px_idiv dX8_step_121 (by decide) ?_
                refine px_iload_9 dX8_step_122 ?_
                refine cd_X8_48 rfl ⟨⟨Nat.le_of_ble_eq_true rfl, Nat.le_of_ble_eq_true rfl⟩, Nat.le_of_ble_eq_true rfl, Nat.le_of_ble_eq_true rfl, Nat.le_of_ble_eq_true rfl⟩ (by first | assumption | exact mo_a hm | exact mo_r0 hm | exact mo_r1 hm | exact mo_r2 hm | exact mo_r4 hm | exact mo_r6 hm | exact mo_r8 hm | exact mo_a1 hm | exact mo_a2 hm | exact mo_a3 hm | exact mo_a4 hm | exact mo_a5 hm | exact mo_a6 hm) dX8_step_124 (hend) ?_
                refine px_iload_1 dX8_step_127 ?_
                refine px_icmp_ne (tgt := 143) dX8_step_128 (by decide) (fun h128 => (by first | exact absurd h128 (hc) | exact absurd (hc) h128)) (fun h128 => ?_)
                refine px_lload_11 dX8_step_131 ?_
                refine px_lload_4 dX8_step_133 ?_
                refine px_lcmp dX8_step_135 ?_
                refine px_lc_le (tgt := 143) dX8_step_136 (by decide) (fun h136 => ?_) (fun h136 => (by first | exact absurd ((Int64.not_lt.mp hv)) h136 | exact absurd h136 ((Int64.not_lt.mp hv))))
                refine px_iconst (0) dX8_step_143 rfl ?_
                refine px_istore_13 dX8_step_144 rfl ?_
                refine px_iload_13 dX8_step_146 ?_
                refine px_if_eq (tgt := 158) dX8_step_148 (by decide) (fun h148 => ?_) (fun h148 => (by first | exact absurd (rfl) h148 | exact absurd h148 (rfl)))
                refine px_iload_6 dX8_step_158 ?_
                refine px_istore_6 dX8_step_160 rfl ?_
                refine px_iload_13 dX8_step_162 ?_
                refine px_if_eq (tgt := 172) dX8_step_164 (by decide) (fun h164 => ?_) (fun h164 => (by first | exact absurd (rfl) h164 | exact absurd h164 (rfl)))
                refine px_iload_7 dX8_step_172 ?_
                refine px_istore_7 dX8_step_174 rfl ?_
                refine px_iload_13 dX8_step_176 ?_
                refine px_if_eq (tgt := 186) dX8_step_178 (by decide) (fun h178 => ?_) (fun h178 => (by first | exact absurd (rfl) h178 | exact absurd h178 (rfl)))
                refine px_lload_4 dX8_step_186 ?_
                refine px_lstore_4 dX8_step_188 rfl ?_
                refine px_iinc_8 dX8_step_190 rfl ?_
                refine px_goto (tgt := 65) dX8_step_193 (by decide) ?_
                rw [inc_nI]; exact ih2 _ _ _ _
            · rw [f_st, if_neg (fun q => hc q.1)] at ih2
              refine px_iload_8 dX8_step_65 ?_
              refine px_iconst (4) dX8_step_67 rfl ?_
              refine px_aload_0 dX8_step_68 ?_
              refine gf_X8_7 rfl dX8_step_69 (by first | assumption | exact mo_a hm | exact mo_r0 hm | exact mo_r1 hm | exact mo_r2 hm | exact mo_r4 hm | exact mo_r6 hm | exact mo_r8 hm | exact mo_a1 hm | exact mo_a2 hm | exact mo_a3 hm | exact mo_a4 hm | exact mo_a5 hm | exact mo_a6 hm) (by first | assumption | exact mo_a hm | exact mo_r0 hm | exact mo_r1 hm | exact mo_r2 hm | exact mo_r4 hm | exact mo_r6 hm | exact mo_r8 hm | exact mo_a1 hm | exact mo_a2 hm | exact mo_a3 hm | exact mo_a4 hm | exact mo_a5 hm | exact mo_a6 hm) ?_
              refine px_bipush (8) dX8_step_72 rfl ?_
              refine px_ialdN (j := 8) dX8_step_74 (by first | assumption | exact mo_a hm | exact mo_r0 hm | exact mo_r1 hm | exact mo_r2 hm | exact mo_r4 hm | exact mo_r6 hm | exact mo_r8 hm | exact mo_a1 hm | exact mo_a2 hm | exact mo_a3 hm | exact mo_a4 hm | exact mo_a5 hm | exact mo_a6 hm) (by first | rfl | exact ix_eq (by assumption)) (by first | decide | omega) ?_
              refine px_imul dX8_step_75 ?_
              rw [e8]
              refine px_icmp_ge (tgt := 196) dX8_step_76 (by decide) (fun h76 => (by first | exact absurd h76 (hlt) | exact absurd (hlt) h76)) (fun h76 => ?_)
              refine px_iload_8 dX8_step_79 ?_
              refine px_iconst (2) dX8_step_81 rfl ?_
              refine px_irem dX8_step_82 (by decide) ?_
              refine px_istore_9 dX8_step_83 rfl ?_
              refine px_iload_8 dX8_step_85 ?_
              refine px_iconst (2) dX8_step_87 rfl ?_
              refine px_idiv dX8_step_88 (by decide) ?_
              refine px_iconst (2) dX8_step_89 rfl ?_
              refine px_irem dX8_step_90 (by decide) ?_
              refine px_istore_10 dX8_step_91 rfl ?_
              refine px_aload_0 dX8_step_93 ?_
              refine px_iload_8 dX8_step_94 ?_
              refine px_iconst (4) dX8_step_96 rfl ?_
              refine px_idiv dX8_step_97 (by decide) ?_
              refine px_iload_9 dX8_step_98 ?_
              refine px_iload_3 dX8_step_100 ?_
              refine px_iload_10 dX8_step_101 ?_
              refine px_iconst (1) dX8_step_103 rfl ?_
              refine px_icmp_ne (tgt := 111) dX8_step_104 (by decide) (fun h104 => ?_) (fun h104 => (by first | exact absurd (b1) h104 | exact absurd h104 (b1)))
              refine px_iconst (0) dX8_step_111 rfl ?_
              refine cd_X8_74 rfl ⟨⟨Nat.le_of_ble_eq_true rfl, Nat.le_of_ble_eq_true rfl⟩, Nat.le_of_ble_eq_true rfl, Nat.le_of_ble_eq_true rfl, Nat.le_of_ble_eq_true rfl⟩ (by first | assumption | exact mo_a hm | exact mo_r0 hm | exact mo_r1 hm | exact mo_r2 hm | exact mo_r4 hm | exact mo_r6 hm | exact mo_r8 hm | exact mo_a1 hm | exact mo_a2 hm | exact mo_a3 hm | exact mo_a4 hm | exact mo_a5 hm | exact mo_a6 hm) dX8_step_112 (hby) ?_
              refine px_lstore_11 dX8_step_115 rfl ?_
              refine px_aload_0 dX8_step_117 ?_
              refine px_iload_8 dX8_step_118 ?_
              refine px_iconst (4) dX8_step_120 rfl ?_
              refine px_idiv dX8_step_121 (by decide) ?_
              refine px_iload_9 dX8_step_122 ?_
              refine cd_X8_48 rfl ⟨⟨Nat.le_of_ble_eq_true rfl, Nat.le_of_ble_eq_true rfl⟩, Nat.le_of_ble_eq_true rfl, Nat.le_of_ble_eq_true rfl, Nat.le_of_ble_eq_true rfl⟩ (by first | assumption | exact mo_a hm | exact mo_r0 hm | exact mo_r1 hm | exact mo_r2 hm | exact mo_r4 hm | exact mo_r6 hm | exact mo_r8 hm | exact mo_a1 hm | exact mo_a2 hm | exact mo_a3 hm | exact mo_a4 hm | exact mo_a5 hm | exact mo_a6 hm) dX8_step_124 (hend) ?_
              refine px_iload_1 dX8_step_127 ?_
              refine px_icmp_ne (tgt := 143) dX8_step_128 (by decide) (fun h128 => ?_) (fun h128 => (by first | exact absurd (hc) h128 | exact absurd h128 (hc)))
              refine px_iconst (0) dX8_step_143 rfl ?_
              refine px_istore_13 dX8_step_144 rfl ?_
              refine px_iload_13 dX8_step_146 ?_
              refine px_if_eq (tgt := 158) dX8_step_148 (by decide) (fun h148 => ?_) (fun h148 => (by first | exact absurd (rfl) h148 | exact absurd h148 (rfl)))
              refine px_iload_6 dX8_step_158 ?_
              refine px_istore_6 dX8_step_160 rfl ?_
              refine px_iload_13 dX8_step_162 ?_
              refine px_if_eq (tgt := 172) dX8_step_164 (by decide) (fun h164 => ?_) (fun h164 => (by first | exact absurd (rfl) h164 | exact absurd h164 (rfl)))
              refine px_iload_7 dX8_step_172 ?_
              refine px_istore_7 dX8_step_174 rfl ?_
              refine px_iload_13 dX8_step_176 ?_
              refine px_if_eq (tgt := 186) dX8_step_178 (by decide) (fun h178 => ?_) (fun h178 => (by first | exact absurd (rfl) h178 | exact absurd h178 (rfl)))
              refine px_lload_4 dX8_step_186 ?_
              refine px_lstore_4 dX8_step_188 rfl ?_
              refine px_iinc_8 dX8_step_190 rfl ?_
              refine px_goto (tgt := 65) dX8_step_193 (by decide) ?_
              rw [inc_nI]; exact ih2 _ _ _ _
      refine px_iload_1 dX8_step_0 ?_
      refine cd_X8_108 rfl ⟨⟨Nat.le_of_ble_eq_true rfl, Nat.le_of_ble_eq_true rfl⟩, Nat.le_of_ble_eq_true rfl, Nat.le_of_ble_eq_true rfl, Nat.le_of_ble_eq_true rfl⟩ dX8_step_1 (s_X8_isTown) ?_
      refine px_ifb_ne (tgt := 9) dX8_step_4 (by decide) (fun h4 => ?_) (fun h4 => (by first | exact absurd (hr) h4 | exact absurd h4 (hr)))
      refine px_iload_2 dX8_step_9 ?_
      refine px_iconst (0) dX8_step_10 rfl ?_
      refine px_iconst (1) dX8_step_11 rfl ?_
      refine cd_X8_29 rfl ⟨⟨Nat.le_of_ble_eq_true rfl, Nat.le_of_ble_eq_true rfl⟩, Nat.le_of_ble_eq_true rfl, Nat.le_of_ble_eq_true rfl, Nat.le_of_ble_eq_true rfl⟩ dX8_step_12 (s_X8_in) ?_
      refine px_ifb_ne (tgt := 21) dX8_step_15 (by decide) (fun h15 => ?_) (fun h15 => (by first | exact absurd (hw) h15 | exact absurd h15 (hw)))
      refine px_aload_0 dX8_step_21 ?_
      refine gf_X8_7 rfl dX8_step_22 (by first | assumption | exact mo_a hm | exact mo_r0 hm | exact mo_r1 hm | exact mo_r2 hm | exact mo_r4 hm | exact mo_r6 hm | exact mo_r8 hm | exact mo_a1 hm | exact mo_a2 hm | exact mo_a3 hm | exact mo_a4 hm | exact mo_a5 hm | exact mo_a6 hm) (by first | assumption | exact mo_a hm | exact mo_r0 hm | exact mo_r1 hm | exact mo_r2 hm | exact mo_r4 hm | exact mo_r6 hm | exact mo_r8 hm | exact mo_a1 hm | exact mo_a2 hm | exact mo_a3 hm | exact mo_a4 hm | exact mo_a5 hm | exact mo_a6 hm) ?_
      refine px_sipush (144) dX8_step_25 rfl ?_
      refine px_ialdN (j := 144) dX8_step_28 (by first | assumption | exact mo_a hm | exact mo_r0 hm | exact mo_r1 hm | exact mo_r2 hm | exact mo_r4 hm | exact mo_r6 hm | exact mo_r8 hm | exact mo_a1 hm | exact mo_a2 hm | exact mo_a3 hm | exact mo_a4 hm | exact mo_a5 hm | exact mo_a6 hm) (by first | rfl | exact ix_eq (by assumption)) (by first | decide | omega) ?_
      refine px_istore_3 dX8_step_29 rfl ?_
      refine px_aload_0 dX8_step_30 ?_
      refine px_iload_3 dX8_step_31 ?_
      refine px_iconst (0) dX8_step_32 rfl ?_
      refine cg_X8_78 rfl ⟨⟨Nat.le_of_ble_eq_true rfl, Nat.le_of_ble_eq_true rfl⟩, Nat.le_of_ble_eq_true rfl, Nat.le_of_ble_eq_true rfl, Nat.le_of_ble_eq_true rfl⟩ (by first | assumption | exact mo_a hm | exact mo_r0 hm | exact mo_r1 hm | exact mo_r2 hm | exact mo_r4 hm | exact mo_r6 hm | exact mo_r8 hm | exact mo_a1 hm | exact mo_a2 hm | exact mo_a3 hm | exact mo_a4 hm | exact mo_a5 hm | exact mo_a6 hm) dX8_step_33 (s_X8_workOut hm hV e4 l4) ?_
      rintro v μ' ⟨rfl, J', rfl, g1, g2⟩
      refine px_ldc2 ck_X8_68 dX8_step_36 ?_
      refine px_aload_0 dX8_step_39 ?_
      refine gf_X8_25 rfl dX8_step_40 (by first | assumption | exact mo_a hm | exact mo_r0 hm | exact mo_r1 hm | exact mo_r2 hm | exact mo_r4 hm | exact mo_r6 hm | exact mo_r8 hm | exact mo_a1 hm | exact mo_a2 hm | exact mo_a3 hm | exact mo_a4 hm | exact mo_a5 hm | exact mo_a6 hm) (by first | assumption | exact mo_a hm | exact mo_r0 hm | exact mo_r1 hm | exact mo_r2 hm | exact mo_r4 hm | exact mo_r6 hm | exact mo_r8 hm | exact mo_a1 hm | exact mo_a2 hm | exact mo_a3 hm | exact mo_a4 hm | exact mo_a5 hm | exact mo_a6 hm) ?_
      refine px_bipush (8) dX8_step_43 rfl ?_
      refine px_iload_3 dX8_step_45 ?_
      refine px_iconst (1) dX8_step_46 rfl ?_
      refine px_isub dX8_step_47 ?_
      refine px_imul dX8_step_48 ?_
      refine px_iload_1 dX8_step_49 ?_
      refine px_iadd dX8_step_50 ?_
      refine px_laldN dX8_step_51 (by first | assumption | exact mo_a hm | exact mo_r0 hm | exact mo_r1 hm | exact mo_r2 hm | exact mo_r4 hm | exact mo_r6 hm | exact mo_r8 hm | exact mo_a1 hm | exact mo_a2 hm | exact mo_a3 hm | exact mo_a4 hm | exact mo_a5 hm | exact mo_a6 hm) (by exact wix e4' (ix_eq hr)) (by omega) ?_
      rw [g2 g' (by omega) (ix a) (by omega)]
      refine px_lmul dX8_step_52 ?_
      refine px_lstore_4 dX8_step_53 rfl ?_
      refine px_bipush (-6) dX8_step_55 rfl ?_
      refine px_istore_6 dX8_step_57 rfl ?_
      refine px_iconst (0) dX8_step_59 rfl ?_
      refine px_istore_7 dX8_step_60 rfl ?_
      refine px_iconst (0) dX8_step_62 rfl ?_
      refine px_istore_8 dX8_step_63 rfl ?_
      exact L J' g1 g2 _ 0 (Nat.zero_add _) _ _ _ _
    · have hf : f_step (I (m + 1)) a w = -2 := by rw [f_step, if_neg (fun q => q hr), if_pos hw]
      rw [hf]
      refine px_iload_1 dX8_step_0 ?_
      refine cd_X8_108 rfl ⟨⟨Nat.le_of_ble_eq_true rfl, Nat.le_of_ble_eq_true rfl⟩, Nat.le_of_ble_eq_true rfl, Nat.le_of_ble_eq_true rfl, Nat.le_of_ble_eq_true rfl⟩ dX8_step_1 (s_X8_isTown) ?_
      refine px_ifb_ne (tgt := 9) dX8_step_4 (by decide) (fun h4 => ?_) (fun h4 => (by first | exact absurd (hr) h4 | exact absurd h4 (hr)))
      refine px_iload_2 dX8_step_9 ?_
      refine px_iconst (0) dX8_step_10 rfl ?_
      refine px_iconst (1) dX8_step_11 rfl ?_
      refine cd_X8_29 rfl ⟨⟨Nat.le_of_ble_eq_true rfl, Nat.le_of_ble_eq_true rfl⟩, Nat.le_of_ble_eq_true rfl, Nat.le_of_ble_eq_true rfl, Nat.le_of_ble_eq_true rfl⟩ dX8_step_12 (s_X8_in) ?_
      refine px_ifb_ne (tgt := 21) dX8_step_15 (by decide) (fun h15 => (by first | exact absurd h15 (hw) | exact absurd (hw) h15)) (fun h15 => ?_)
      refine px_bipush (-2) dX8_step_18 rfl ?_
      refine px_iret dX8_step_20 ?_
      exact ⟨rfl, J, rfl, fun _ _ => rfl⟩
  · have hf : f_step (I (m + 1)) a w = -1 := by rw [f_step, if_pos hr]
    rw [hf]
    refine px_iload_1 dX8_step_0 ?_
    refine cd_X8_108 rfl ⟨⟨Nat.le_of_ble_eq_true rfl, Nat.le_of_ble_eq_true rfl⟩, Nat.le_of_ble_eq_true rfl, Nat.le_of_ble_eq_true rfl, Nat.le_of_ble_eq_true rfl⟩ dX8_step_1 (s_X8_isTown) ?_
    refine px_ifb_ne (tgt := 9) dX8_step_4 (by decide) (fun h4 => (by first | exact absurd h4 (hr) | exact absurd (hr) h4)) (fun h4 => ?_)
    refine px_iconst (-1) dX8_step_7 rfl ?_
    refine px_iret dX8_step_8 ?_
    exact ⟨rfl, J, rfl, fun _ _ => rfl⟩
end MST

