section CHN
variable {l : Launch} {G : px_G} {T : px_T} {I I' : px_I} {J : px_J} {R : px_R} {μ : px_M} {x h w : Nat} {σ τ : px_s} {A : px_a} {kn : Nat} {H : Nat → px_s}
theorem s_X7_lowerEnd {q : Nat} {P : Nat → Nat} {u v : Int32} (hx : px_co G T R x) (hA : px_ag I (x + 1) σ) (hV : px_V σ) (hq : q < 2 * f_nr σ) (hP : ∀ t, t < 8 → P t ≤ 999) (hI : ∀ t, t < 8 → I (x + 224) t = nI (P t)) (eu : u = nI (n_a σ q)) (ev : v = nI (n_b σ q)) : px_K l G 4 mX7_lowerEnd ([.ref x, .ref (x + 1 + 5 + q / 2), .int u, .int v]) ((T, I, J, R)) (none) ((T, px_up I (x + 224) (n_b σ q) (nI (h_relax (n_a σ) (n_b σ) (n_F σ) q P (n_b σ q))), J, R)) := by
  obtain ⟨e1, l1, e2, l2⟩ := ab_lt hV hq
  have h14 := hV.1.2.1
  have hm := s_X6_mostAtEnd (l := l) (J := J) (p := nI (P (n_a σ q))) (co_wo hx) hA hV (show q / 2 < f_nr σ by omega)
  have hPa := hP _ l1
  have hPb := hP _ l2
  rw [ma_nI hV hq hPa] at hm
  have hle : n_F σ q (P (n_a σ q)) ≤ P (n_a σ q) + ix (σ (9 + 6 * (q / 2) + 2)) := by unfold n_F; exact Nat.min_le_left _ _
  obtain ⟨-, -, -, -, -, -, -, ht, -⟩ := hV.2.1 _ (show q / 2 < f_nr σ by omega)
  obtain ⟨et, -, bt⟩ := rg_ix (a := 0) (b := 200) (by decide) (by decide) ht
  have hre : (if nI (n_F σ q (P (n_a σ q))) < nI (P (n_b σ q)) then nI (n_F σ q (P (n_a σ q))) else nI (P (n_b σ q))) = nI (h_relax (n_a σ) (n_b σ) (n_F σ) q P (n_b σ q)) := by
    rw [h_relax, updn_eq, ← mn_nI (by omega) (by omega)]; rfl
  refine px_met (M := mX7_lowerEnd) ([some (.ref x), some (.ref (x + 1 + 5 + q / 2)), some (.int u), some (.int v)]) (by decide +kernel) rfl (Nat.le_of_ble_eq_true rfl) rfl ?_
  refine px_aload_0 dX7_lowerEnd_0 ?_
  refine gf_X7_59 rfl dX7_lowerEnd_1 (by first | assumption | exact co_a hx | exact co_r0 hx | exact co_r1 hx | exact co_r4 hx | exact co_r8 hx | exact co_hp hx | exact co_w hx | exact co_h hx | exact wo_r0 (co_wo hx) | exact wo_r1 (co_wo hx) | exact wo_r2 (co_wo hx) | exact wo_a1 (co_wo hx) | exact wo_a2 (co_wo hx) | exact wo_a3 (co_wo hx) | exact wo_rr (co_wo hx) (by omega) | exact wo_ra (co_wo hx) (by omega) | exact pa_a (co_pa hx)) (by first | assumption | exact co_a hx | exact co_r0 hx | exact co_r1 hx | exact co_r4 hx | exact co_r8 hx | exact co_hp hx | exact co_w hx | exact co_h hx | exact wo_r0 (co_wo hx) | exact wo_r1 (co_wo hx) | exact wo_r2 (co_wo hx) | exact wo_a1 (co_wo hx) | exact wo_a2 (co_wo hx) | exact wo_a3 (co_wo hx) | exact wo_rr (co_wo hx) (by omega) | exact wo_ra (co_wo hx) (by omega) | exact pa_a (co_pa hx)) ?_
  refine px_iload_3 dX7_lowerEnd_4 ?_
  refine px_aload_0 dX7_lowerEnd_5 ?_
  refine gf_X7_59 rfl dX7_lowerEnd_6 (by first | assumption | exact co_a hx | exact co_r0 hx | exact co_r1 hx | exact co_r4 hx | exact co_r8 hx | exact co_hp hx | exact co_w hx | exact co_h hx | exact wo_r0 (co_wo hx) | exact wo_r1 (co_wo hx) | exact wo_r2 (co_wo hx) | exact wo_a1 (co_wo hx) | exact wo_a2 (co_wo hx) | exact wo_a3 (co_wo hx) | exact wo_rr (co_wo hx) (by omega) | exact wo_ra (co_wo hx) (by omega) | exact pa_a (co_pa hx)) (by first | assumption | exact co_a hx | exact co_r0 hx | exact co_r1 hx | exact co_r4 hx | exact co_r8 hx | exact co_hp hx | exact co_w hx | exact co_h hx | exact wo_r0 (co_wo hx) | exact wo_r1 (co_wo hx) | exact wo_r2 (co_wo hx) | exact wo_a1 (co_wo hx) | exact wo_a2 (co_wo hx) | exact wo_a3 (co_wo hx) | exact wo_rr (co_wo hx) (by omega) | exact wo_ra (co_wo hx) (by omega) | exact pa_a (co_pa hx)) ?_
  refine px_iload_3 dX7_lowerEnd_9 ?_
  refine px_ialdN dX7_lowerEnd_10 (by first | assumption | exact co_a hx | exact co_r0 hx | exact co_r1 hx | exact co_r4 hx | exact co_r8 hx | exact co_hp hx | exact co_w hx | exact co_h hx | exact wo_r0 (co_wo hx) | exact wo_r1 (co_wo hx) | exact wo_r2 (co_wo hx) | exact wo_a1 (co_wo hx) | exact wo_a2 (co_wo hx) | exact wo_a3 (co_wo hx) | exact wo_rr (co_wo hx) (by omega) | exact wo_ra (co_wo hx) (by omega) | exact pa_a (co_pa hx)) (by exact ev) (by omega) ?_
  rw [hI _ l2]
  refine px_aload_0 dX7_lowerEnd_11 ?_
  refine gf_X7_10 rfl dX7_lowerEnd_12 (by first | assumption | exact co_a hx | exact co_r0 hx | exact co_r1 hx | exact co_r4 hx | exact co_r8 hx | exact co_hp hx | exact co_w hx | exact co_h hx | exact wo_r0 (co_wo hx) | exact wo_r1 (co_wo hx) | exact wo_r2 (co_wo hx) | exact wo_a1 (co_wo hx) | exact wo_a2 (co_wo hx) | exact wo_a3 (co_wo hx) | exact wo_rr (co_wo hx) (by omega) | exact wo_ra (co_wo hx) (by omega) | exact pa_a (co_pa hx)) (by first | assumption | exact co_a hx | exact co_r0 hx | exact co_r1 hx | exact co_r4 hx | exact co_r8 hx | exact co_hp hx | exact co_w hx | exact co_h hx | exact wo_r0 (co_wo hx) | exact wo_r1 (co_wo hx) | exact wo_r2 (co_wo hx) | exact wo_a1 (co_wo hx) | exact wo_a2 (co_wo hx) | exact wo_a3 (co_wo hx) | exact wo_rr (co_wo hx) (by omega) | exact wo_ra (co_wo hx) (by omega) | exact pa_a (co_pa hx)) ?_
  refine px_aload_1 dX7_lowerEnd_15 ?_
  refine px_aload_0 dX7_lowerEnd_16 ?_
  refine gf_X7_59 rfl dX7_lowerEnd_17 (by first | assumption | exact co_a hx | exact co_r0 hx | exact co_r1 hx | exact co_r4 hx | exact co_r8 hx | exact co_hp hx | exact co_w hx | exact co_h hx | exact wo_r0 (co_wo hx) | exact wo_r1 (co_wo hx) | exact wo_r2 (co_wo hx) | exact wo_a1 (co_wo hx) | exact wo_a2 (co_wo hx) | exact wo_a3 (co_wo hx) | exact wo_rr (co_wo hx) (by omega) | exact wo_ra (co_wo hx) (by omega) | exact pa_a (co_pa hx)) (by first | assumption | exact co_a hx | exact co_r0 hx | exact co_r1 hx | exact co_r4 hx | exact co_r8 hx | exact co_hp hx | exact co_w hx | exact co_h hx | exact wo_r0 (co_wo hx) | exact wo_r1 (co_wo hx) | exact wo_r2 (co_wo hx) | exact wo_a1 (co_wo hx) | exact wo_a2 (co_wo hx) | exact wo_a3 (co_wo hx) | exact wo_rr (co_wo hx) (by omega) | exact wo_ra (co_wo hx) (by omega) | exact pa_a (co_pa hx)) ?_
  refine px_iload_2 dX7_lowerEnd_20 ?_
  refine px_ialdN dX7_lowerEnd_21 (by first | assumption | exact co_a hx | exact co_r0 hx | exact co_r1 hx | exact co_r4 hx | exact co_r8 hx | exact co_hp hx | exact co_w hx | exact co_h hx | exact wo_r0 (co_wo hx) | exact wo_r1 (co_wo hx) | exact wo_r2 (co_wo hx) | exact wo_a1 (co_wo hx) | exact wo_a2 (co_wo hx) | exact wo_a3 (co_wo hx) | exact wo_rr (co_wo hx) (by omega) | exact wo_ra (co_wo hx) (by omega) | exact pa_a (co_pa hx)) (by exact eu) (by omega) ?_
  rw [hI _ l1]
  refine cd_X7_286 rfl ⟨⟨Nat.le_of_ble_eq_true rfl, Nat.le_of_ble_eq_true rfl⟩, Nat.le_of_ble_eq_true rfl, Nat.le_of_ble_eq_true rfl, Nat.le_of_ble_eq_true rfl⟩ (by first | assumption | exact co_a hx | exact co_r0 hx | exact co_r1 hx | exact co_r4 hx | exact co_r8 hx | exact co_hp hx | exact co_w hx | exact co_h hx | exact wo_r0 (co_wo hx) | exact wo_r1 (co_wo hx) | exact wo_r2 (co_wo hx) | exact wo_a1 (co_wo hx) | exact wo_a2 (co_wo hx) | exact wo_a3 (co_wo hx) | exact wo_rr (co_wo hx) (by omega) | exact wo_ra (co_wo hx) (by omega) | exact pa_a (co_pa hx)) dX7_lowerEnd_22 (hm) ?_
  refine cl_X7_290 rfl ⟨Nat.le_of_ble_eq_true rfl, Nat.le_of_ble_eq_true rfl, Nat.le_of_ble_eq_true rfl, Nat.le_of_ble_eq_true rfl⟩ dX7_lowerEnd_25 ?_
  rw [hre]
  refine px_iastN dX7_lowerEnd_28 (by first | assumption | exact co_a hx | exact co_r0 hx | exact co_r1 hx | exact co_r4 hx | exact co_r8 hx | exact co_hp hx | exact co_w hx | exact co_h hx | exact wo_r0 (co_wo hx) | exact wo_r1 (co_wo hx) | exact wo_r2 (co_wo hx) | exact wo_a1 (co_wo hx) | exact wo_a2 (co_wo hx) | exact wo_a3 (co_wo hx) | exact wo_rr (co_wo hx) (by omega) | exact wo_ra (co_wo hx) (by omega) | exact pa_a (co_pa hx)) (by exact ev) (by omega) ?_
  refine px_vret dX7_lowerEnd_29 ?_
  exact ⟨rfl, rfl⟩
theorem relax_row {q : Nat} {P : Nat → Nat} (hI : ∀ t, t < 8 → I (x + 224) t = nI (P t)) {b : Nat} {a : Nat → Nat} {bb : Nat → Nat} {F : Nat → Nat → Nat} (eb : bb q = b) : ∀ t, t < 8 → px_up I (x + 224) b (nI (h_relax a bb F q P b)) (x + 224) t = nI (h_relax a bb F q P t) := by
  intro t ht
  rw [px_up_at]
  by_cases z : t = b
  · subst z; rw [if_pos ⟨rfl, rfl⟩]
  · rw [if_neg (fun q => z q.2), hI t ht, h_relax, updn_ne (by rw [eb]; exact z)]
theorem s_X7_findHonest (hx : px_co G T R x) (hA : px_ag I (x + 1) σ) (hV : px_V σ) : px_C l G 5 0 0 mX7_findHonestPrices [.ref x] (T, I, J, R) (fun v μ' => v = some (.int (f_df σ 8)) ∧ ∃ I' : px_I, μ' = (T, I', J, R) ∧ (∀ a, a ≠ x + 224 → I' a = I a) ∧ ∀ t, t < 8 → I' (x + 224) t = nI (f_hp σ t)) := by
  have hn := ag_n4 hA hV
  have h14 := hV.1.2.1
  refine px_met (M := mX7_findHonestPrices) ([some (.ref x), none, none, none]) (by decide +kernel) rfl (Nat.le_of_ble_eq_true rfl) rfl ?_
  generalize hQ : (fun v μ' => v = some (.int (f_df σ 8)) ∧ ∃ I' : px_I, μ' = (T, I', J, R) ∧ (∀ a, a ≠ x + 224 → I' a = I a) ∧ ∀ t, t < 8 → I' (x + 224) t = nI (f_hp σ t) : Option Value → px_M → Prop) = Q
  have hag : ∀ I1 : px_I, (∀ a, a ≠ x + 224 → I1 a = I a) → px_ag I1 (x + 1) σ := fun I1 g => ag_congr hA hV (fun a a1 a2 => g a (by omega))
  -- how many are different
  have LC : ∀ (I1 : px_I), (∀ a, a ≠ x + 224 → I1 a = I a) → (∀ t, t < 8 → I1 (x + 224) t = nI (f_hp σ t)) → ∀ n t, t + n = 8 → ∀ o3, (px_W l G yX7_findHonestPrices cX7_findHonestPrices 4 (some .int) (px_rm 5 0 0) (px_Fn G Q 0 0) 91 [some (.ref x), some (.int (f_df σ t)), some (.int (nI t)), o3] [] 0 0 (T, I1, J, R)) := by
    intro I1 g1 g2 n
    induction n with
    | zero =>
      intro t ht o3
      obtain rfl : t = 8 := by omega
      refine px_iload_2 dX7_findHonestPrices_91 ?_
      refine px_bipush (8) dX7_findHonestPrices_92 rfl ?_
      refine px_icmp_ge (tgt := 132) dX7_findHonestPrices_94 (by decide) (fun h94 => ?_) (fun h94 => (by first | exact absurd ((nI_le (a := 8) (b := 8) (by omega) (by omega))) h94 | exact absurd h94 ((nI_le (a := 8) (b := 8) (by omega) (by omega)))))
      refine px_iload_1 dX7_findHonestPrices_132 ?_
      refine px_iret dX7_findHonestPrices_133 ?_
      subst hQ; exact ⟨rfl, I1, rfl, g1, g2⟩
    | succ n ih =>
      intro t ht o3
      have ih2 := ih (t + 1) (by omega)
      rw [f_df] at ih2
      have hb := s_X7_bit (l := l) (G := G) (P := ¬ nI (f_hp σ t) = σ t) (μ := (T, I1, J, R))
      by_cases he : nI (f_hp σ t) = σ t
      · rw [if_pos he] at ih2
        rw [if_neg (fun q => q he)] at hb
        refine px_iload_2 dX7_findHonestPrices_91 ?_
        refine px_bipush (8) dX7_findHonestPrices_92 rfl ?_
        refine px_icmp_ge (tgt := 132) dX7_findHonestPrices_94 (by decide) (fun h94 => (by first | exact absurd h94 ((nI_ge (a := t) (b := 8) (by omega) (by omega))) | exact absurd ((nI_ge (a := t) (b := 8) (by omega) (by omega))) h94)) (fun h94 => ?_)
        refine px_iload_1 dX7_findHonestPrices_97 ?_
        refine px_aload_0 dX7_findHonestPrices_98 ?_
        refine gf_X7_59 rfl dX7_findHonestPrices_99 (by first | assumption | exact co_a hx | exact co_r0 hx | exact co_r1 hx | exact co_r4 hx | exact co_r8 hx | exact co_hp hx | exact co_w hx | exact co_h hx | exact wo_r0 (co_wo hx) | exact wo_r1 (co_wo hx) | exact wo_r2 (co_wo hx) | exact wo_a1 (co_wo hx) | exact wo_a2 (co_wo hx) | exact wo_a3 (co_wo hx) | exact wo_rr (co_wo hx) (by omega) | exact wo_ra (co_wo hx) (by omega) | exact pa_a (co_pa hx)) (by first | assumption | exact co_a hx | exact co_r0 hx | exact co_r1 hx | exact co_r4 hx | exact co_r8 hx | exact co_hp hx | exact co_w hx | exact co_h hx | exact wo_r0 (co_wo hx) | exact wo_r1 (co_wo hx) | exact wo_r2 (co_wo hx) | exact wo_a1 (co_wo hx) | exact wo_a2 (co_wo hx) | exact wo_a3 (co_wo hx) | exact wo_rr (co_wo hx) (by omega) | exact wo_ra (co_wo hx) (by omega) | exact pa_a (co_pa hx)) ?_
        refine px_iload_2 dX7_findHonestPrices_102 ?_
        refine px_ialdN dX7_findHonestPrices_103 (by first | assumption | exact co_a hx | exact co_r0 hx | exact co_r1 hx | exact co_r4 hx | exact co_r8 hx | exact co_hp hx | exact co_w hx | exact co_h hx | exact wo_r0 (co_wo hx) | exact wo_r1 (co_wo hx) | exact wo_r2 (co_wo hx) | exact wo_a1 (co_wo hx) | exact wo_a2 (co_wo hx) | exact wo_a3 (co_wo hx) | exact wo_rr (co_wo hx) (by omega) | exact wo_ra (co_wo hx) (by omega) | exact pa_a (co_pa hx)) (by first | rfl | assumption | exact ix_eq (by assumption)) (by omega) ?_
        rw [g2 t (by omega)]
        refine px_aload_0 dX7_findHonestPrices_104 ?_
        refine gf_X7_10 rfl dX7_findHonestPrices_105 (by first | assumption | exact co_a hx | exact co_r0 hx | exact co_r1 hx | exact co_r4 hx | exact co_r8 hx | exact co_hp hx | exact co_w hx | exact co_h hx | exact wo_r0 (co_wo hx) | exact wo_r1 (co_wo hx) | exact wo_r2 (co_wo hx) | exact wo_a1 (co_wo hx) | exact wo_a2 (co_wo hx) | exact wo_a3 (co_wo hx) | exact wo_rr (co_wo hx) (by omega) | exact wo_ra (co_wo hx) (by omega) | exact pa_a (co_pa hx)) (by first | assumption | exact co_a hx | exact co_r0 hx | exact co_r1 hx | exact co_r4 hx | exact co_r8 hx | exact co_hp hx | exact co_w hx | exact co_h hx | exact wo_r0 (co_wo hx) | exact wo_r1 (co_wo hx) | exact wo_r2 (co_wo hx) | exact wo_a1 (co_wo hx) | exact wo_a2 (co_wo hx) | exact wo_a3 (co_wo hx) | exact wo_rr (co_wo hx) (by omega) | exact wo_ra (co_wo hx) (by omega) | exact pa_a (co_pa hx)) ?_
        refine gf_X7_92 rfl dX7_findHonestPrices_108 (by first | assumption | exact co_a hx | exact co_r0 hx | exact co_r1 hx | exact co_r4 hx | exact co_r8 hx | exact co_hp hx | exact co_w hx | exact co_h hx | exact wo_r0 (co_wo hx) | exact wo_r1 (co_wo hx) | exact wo_r2 (co_wo hx) | exact wo_a1 (co_wo hx) | exact wo_a2 (co_wo hx) | exact wo_a3 (co_wo hx) | exact wo_rr (co_wo hx) (by omega) | exact wo_ra (co_wo hx) (by omega) | exact pa_a (co_pa hx)) (by first | assumption | exact co_a hx | exact co_r0 hx | exact co_r1 hx | exact co_r4 hx | exact co_r8 hx | exact co_hp hx | exact co_w hx | exact co_h hx | exact wo_r0 (co_wo hx) | exact wo_r1 (co_wo hx) | exact wo_r2 (co_wo hx) | exact wo_a1 (co_wo hx) | exact wo_a2 (co_wo hx) | exact wo_a3 (co_wo hx) | exact wo_rr (co_wo hx) (by omega) | exact wo_ra (co_wo hx) (by omega) | exact pa_a (co_pa hx)) ?_
        refine px_iload_2 dX7_findHonestPrices_111 ?_
        refine px_ialdN dX7_findHonestPrices_112 (by first | assumption | exact co_a hx | exact co_r0 hx | exact co_r1 hx | exact co_r4 hx | exact co_r8 hx | exact co_hp hx | exact co_w hx | exact co_h hx | exact wo_r0 (co_wo hx) | exact wo_r1 (co_wo hx) | exact wo_r2 (co_wo hx) | exact wo_a1 (co_wo hx) | exact wo_a2 (co_wo hx) | exact wo_a3 (co_wo hx) | exact wo_rr (co_wo hx) (by omega) | exact wo_ra (co_wo hx) (by omega) | exact pa_a (co_pa hx)) (by first | rfl | assumption | exact ix_eq (by assumption)) (by omega) ?_
        rw [ag_pr (hag I1 g1) (by omega)]
        refine px_icmp_eq (tgt := 120) dX7_findHonestPrices_113 (by decide) (fun h113 => ?_) (fun h113 => (by first | exact absurd (he) h113 | exact absurd h113 (he)))
        refine px_iconst (0) dX7_findHonestPrices_120 rfl ?_
        refine cd_X7_166 rfl ⟨⟨Nat.le_of_ble_eq_true rfl, Nat.le_of_ble_eq_true rfl⟩, Nat.le_of_ble_eq_true rfl, Nat.le_of_ble_eq_true rfl, Nat.le_of_ble_eq_true rfl⟩ dX7_findHonestPrices_121 (hb) ?_
        refine px_iadd dX7_findHonestPrices_124 ?_
        refine px_istore_1 dX7_findHonestPrices_125 rfl ?_
        refine px_iinc_2 dX7_findHonestPrices_126 rfl ?_
        refine px_goto (tgt := 91) dX7_findHonestPrices_129 (by decide) ?_
        rw [inc_nI]; exact ih2 _
      · rw [if_neg he] at ih2
        rw [if_pos he] at hb
        refine px_iload_2 dX7_findHonestPrices_91 ?_
        refine px_bipush (8) dX7_findHonestPrices_92 rfl ?_
        refine px_icmp_ge (tgt := 132) dX7_findHonestPrices_94 (by decide) (fun h94 => (by first | exact absurd h94 ((nI_ge (a := t) (b := 8) (by omega) (by omega))) | exact absurd ((nI_ge (a := t) (b := 8) (by omega) (by omega))) h94)) (fun h94 => ?_)
        refine px_iload_1 dX7_findHonestPrices_97 ?_
        refine px_aload_0 dX7_findHonestPrices_98 ?_
        refine gf_X7_59 rfl dX7_findHonestPrices_99 (by first | assumption | exact co_a hx | exact co_r0 hx | exact co_r1 hx | exact co_r4 hx | exact co_r8 hx | exact co_hp hx | exact co_w hx | exact co_h hx | exact wo_r0 (co_wo hx) | exact wo_r1 (co_wo hx) | exact wo_r2 (co_wo hx) | exact wo_a1 (co_wo hx) | exact wo_a2 (co_wo hx) | exact wo_a3 (co_wo hx) | exact wo_rr (co_wo hx) (by omega) | exact wo_ra (co_wo hx) (by omega) | exact pa_a (co_pa hx)) (by first | assumption | exact co_a hx | exact co_r0 hx | exact co_r1 hx | exact co_r4 hx | exact co_r8 hx | exact co_hp hx | exact co_w hx | exact co_h hx | exact wo_r0 (co_wo hx) | exact wo_r1 (co_wo hx) | exact wo_r2 (co_wo hx) | exact wo_a1 (co_wo hx) | exact wo_a2 (co_wo hx) | exact wo_a3 (co_wo hx) | exact wo_rr (co_wo hx) (by omega) | exact wo_ra (co_wo hx) (by omega) | exact pa_a (co_pa hx)) ?_
        refine px_iload_2 dX7_findHonestPrices_102 ?_
        refine px_ialdN dX7_findHonestPrices_103 (by first | assumption | exact co_a hx | exact co_r0 hx | exact co_r1 hx | exact co_r4 hx | exact co_r8 hx | exact co_hp hx | exact co_w hx | exact co_h hx | exact wo_r0 (co_wo hx) | exact wo_r1 (co_wo hx) | exact wo_r2 (co_wo hx) | exact wo_a1 (co_wo hx) | exact wo_a2 (co_wo hx) | exact wo_a3 (co_wo hx) | exact wo_rr (co_wo hx) (by omega) | exact wo_ra (co_wo hx) (by omega) | exact pa_a (co_pa hx)) (by first | rfl | assumption | exact ix_eq (by assumption)) (by omega) ?_
        rw [g2 t (by omega)]
        refine px_aload_0 dX7_findHonestPrices_104 ?_
        refine gf_X7_10 rfl dX7_findHonestPrices_105 (by first | assumption | exact co_a hx | exact co_r0 hx | exact co_r1 hx | exact co_r4 hx | exact co_r8 hx | exact co_hp hx | exact co_w hx | exact co_h hx | exact wo_r0 (co_wo hx) | exact wo_r1 (co_wo hx) | exact wo_r2 (co_wo hx) | exact wo_a1 (co_wo hx) | exact wo_a2 (co_wo hx) | exact wo_a3 (co_wo hx) | exact wo_rr (co_wo hx) (by omega) | exact wo_ra (co_wo hx) (by omega) | exact pa_a (co_pa hx)) (by first | assumption | exact co_a hx | exact co_r0 hx | exact co_r1 hx | exact co_r4 hx | exact co_r8 hx | exact co_hp hx | exact co_w hx | exact co_h hx | exact wo_r0 (co_wo hx) | exact wo_r1 (co_wo hx) | exact wo_r2 (co_wo hx) | exact wo_a1 (co_wo hx) | exact wo_a2 (co_wo hx) | exact wo_a3 (co_wo hx) | exact wo_rr (co_wo hx) (by omega) | exact wo_ra (co_wo hx) (by omega) | exact pa_a (co_pa hx)) ?_
        refine gf_X7_92 rfl dX7_findHonestPrices_108 (by first | assumption | exact co_a hx | exact co_r0 hx | exact co_r1 hx | exact co_r4 hx | exact co_r8 hx | exact co_hp hx | exact co_w hx | exact co_h hx | exact wo_r0 (co_wo hx) | exact wo_r1 (co_wo hx) | exact wo_r2 (co_wo hx) | exact wo_a1 (co_wo hx) | exact wo_a2 (co_wo hx) | exact wo_a3 (co_wo hx) | exact wo_rr (co_wo hx) (by omega) | exact wo_ra (co_wo hx) (by omega) | exact pa_a (co_pa hx)) (by first | assumption | exact co_a hx | exact co_r0 hx | exact co_r1 hx | exact co_r4 hx | exact co_r8 hx | exact co_hp hx | exact co_w hx | exact co_h hx | exact wo_r0 (co_wo hx) | exact wo_r1 (co_wo hx) | exact wo_r2 (co_wo hx) | exact wo_a1 (co_wo hx) | exact wo_a2 (co_wo hx) | exact wo_a3 (co_wo hx) | exact wo_rr (co_wo hx) (by omega) | exact wo_ra (co_wo hx) (by omega) | exact pa_a (co_pa hx)) ?_
        refine px_iload_2 dX7_findHonestPrices_111 ?_
        refine px_ialdN dX7_findHonestPrices_112 (by first | assumption | exact co_a hx | exact co_r0 hx | exact co_r1 hx | exact co_r4 hx | exact co_r8 hx | exact co_hp hx | exact co_w hx | exact co_h hx | exact wo_r0 (co_wo hx) | exact wo_r1 (co_wo hx) | exact wo_r2 (co_wo hx) | exact wo_a1 (co_wo hx) | exact wo_a2 (co_wo hx) | exact wo_a3 (co_wo hx) | exact wo_rr (co_wo hx) (by omega) | exact wo_ra (co_wo hx) (by omega) | exact pa_a (co_pa hx)) (by first | rfl | assumption | exact ix_eq (by assumption)) (by omega) ?_
        rw [ag_pr (hag I1 g1) (by omega)]
        refine px_icmp_eq (tgt := 120) dX7_findHonestPrices_113 (by decide) (fun h113 => (by first | exact absurd h113 (he) | exact absurd (he) h113)) (fun h113 => ?_)
        refine px_iconst (1) dX7_findHonestPrices_116 rfl ?_
        refine px_goto (tgt := 121) dX7_findHonestPrices_117 (by decide) ?_
        refine cd_X7_166 rfl ⟨⟨Nat.le_of_ble_eq_true rfl, Nat.le_of_ble_eq_true rfl⟩, Nat.le_of_ble_eq_true rfl, Nat.le_of_ble_eq_true rfl, Nat.le_of_ble_eq_true rfl⟩ dX7_findHonestPrices_121 (hb) ?_
        refine px_iadd dX7_findHonestPrices_124 ?_
        refine px_istore_1 dX7_findHonestPrices_125 rfl ?_
        refine px_iinc_2 dX7_findHonestPrices_126 rfl ?_
        refine px_goto (tgt := 91) dX7_findHonestPrices_129 (by decide) ?_
        rw [inc_nI]; exact ih2 _
  -- a round
  have LR : ∀ (P : Nat → Nat), (∀ t, t < 8 → P t ≤ 999) → ∀ rd n i, i + n = f_nr σ → ∀ (I1 : px_I), (∀ a, a ≠ x + 224 → I1 a = I a) → (∀ t, t < 8 → I1 (x + 224) t = nI (h_rnd (n_a σ) (n_b σ) (n_F σ) P (2 * i) t)) → (∀ (I2 : px_I), (∀ a, a ≠ x + 224 → I2 a = I a) → (∀ t, t < 8 → I2 (x + 224) t = nI (h_rnd (n_a σ) (n_b σ) (n_F σ) P (2 * f_nr σ) t)) → ∀ o2 o3, (px_W l G yX7_findHonestPrices cX7_findHonestPrices 4 (some .int) (px_rm 5 0 0) (px_Fn G Q 0 0) 20 [some (.ref x), some (.int (nI (rd + 1))), o2, o3] [] 0 0 (T, I2, J, R))) → ∀ o3, (px_W l G yX7_findHonestPrices cX7_findHonestPrices 4 (some .int) (px_rm 5 0 0) (px_Fn G Q 0 0) 28 [some (.ref x), some (.int (nI rd)), some (.int (nI i)), o3] [] 0 0 (T, I1, J, R)) := by
    intro P hP rd n
    induction n with
    | zero =>
      intro i hi I1 g1 g2 K o3
      obtain rfl : i = f_nr σ := by omega
      refine px_iload_2 dX7_findHonestPrices_28 ?_
      refine px_aload_0 dX7_findHonestPrices_29 ?_
      refine gf_X7_10 rfl dX7_findHonestPrices_30 (by first | assumption | exact co_a hx | exact co_r0 hx | exact co_r1 hx | exact co_r4 hx | exact co_r8 hx | exact co_hp hx | exact co_w hx | exact co_h hx | exact wo_r0 (co_wo hx) | exact wo_r1 (co_wo hx) | exact wo_r2 (co_wo hx) | exact wo_a1 (co_wo hx) | exact wo_a2 (co_wo hx) | exact wo_a3 (co_wo hx) | exact wo_rr (co_wo hx) (by omega) | exact wo_ra (co_wo hx) (by omega) | exact pa_a (co_pa hx)) (by first | assumption | exact co_a hx | exact co_r0 hx | exact co_r1 hx | exact co_r4 hx | exact co_r8 hx | exact co_hp hx | exact co_w hx | exact co_h hx | exact wo_r0 (co_wo hx) | exact wo_r1 (co_wo hx) | exact wo_r2 (co_wo hx) | exact wo_a1 (co_wo hx) | exact wo_a2 (co_wo hx) | exact wo_a3 (co_wo hx) | exact wo_rr (co_wo hx) (by omega) | exact wo_ra (co_wo hx) (by omega) | exact pa_a (co_pa hx)) ?_
      refine gf_X7_226 rfl dX7_findHonestPrices_33 (by first | assumption | exact co_a hx | exact co_r0 hx | exact co_r1 hx | exact co_r4 hx | exact co_r8 hx | exact co_hp hx | exact co_w hx | exact co_h hx | exact wo_r0 (co_wo hx) | exact wo_r1 (co_wo hx) | exact wo_r2 (co_wo hx) | exact wo_a1 (co_wo hx) | exact wo_a2 (co_wo hx) | exact wo_a3 (co_wo hx) | exact wo_rr (co_wo hx) (by omega) | exact wo_ra (co_wo hx) (by omega) | exact pa_a (co_pa hx)) ?_
      rw [g1 _ (by omega), hn]
      refine px_icmp_ge (tgt := 81) dX7_findHonestPrices_36 (by decide) (fun h36 => ?_) (fun h36 => (by first | exact absurd ((nI_le (Nat.le_refl _) (by omega))) h36 | exact absurd h36 ((nI_le (Nat.le_refl _) (by omega)))))
      refine px_iinc_1 dX7_findHonestPrices_81 rfl ?_
      refine px_goto (tgt := 20) dX7_findHonestPrices_84 (by decide) ?_
      rw [inc_nI]; exact K I1 g1 g2 _ _
    | succ n ih =>
      intro i hi I1 g1 g2 K o3
      have hA1 := hag I1 g1
      have hir : i < f_nr σ := by omega
      have q0 : 2 * i < 2 * f_nr σ := by omega
      have q1 : 2 * i + 1 < 2 * f_nr σ := by omega
      obtain ⟨a0, a1, a2, a3⟩ := ab_lt hV q0
      obtain ⟨b0, b1, b2, b3⟩ := ab_lt hV q1
      rw [show 2 * i / 2 = i by omega, show 2 * i % 2 = 0 by omega] at a0 a2
      rw [show (2 * i + 1) / 2 = i by omega, show (2 * i + 1) % 2 = 1 by omega] at b0 b2
      have hP1 : ∀ k t, t < 8 → h_rnd (n_a σ) (n_b σ) (n_F σ) P k t ≤ 999 := fun k t ht => Nat.le_trans (rnd_le k t) (hP t ht)
      have hl0 := s_X7_lowerEnd (l := l) (J := J) hx hA1 hV q0 (hP1 (2 * i)) g2 a0 a2
      rw [show 2 * i / 2 = i by omega] at hl0
      have g1' : ∀ a, a ≠ x + 224 → px_up I1 (x + 224) (n_b σ (2 * i)) (nI (h_relax (n_a σ) (n_b σ) (n_F σ) (2 * i) (h_rnd (n_a σ) (n_b σ) (n_F σ) P (2 * i)) (n_b σ (2 * i)))) a = I a := fun a ha => by rw [px_up_ne ha]; exact g1 a ha
      have g2' := relax_row (a := n_a σ) (bb := n_b σ) (F := n_F σ) (q := 2 * i) g2 rfl
      have hl1 := s_X7_lowerEnd (l := l) (J := J) hx (hag _ g1') hV q1 (hP1 (2 * i + 1)) g2' b0 b2
      rw [show (2 * i + 1) / 2 = i by omega] at hl1
      have g2'' := relax_row (a := n_a σ) (bb := n_b σ) (F := n_F σ) (q := 2 * i + 1) (P := h_rnd (n_a σ) (n_b σ) (n_F σ) P (2 * i + 1)) g2' rfl
      refine px_iload_2 dX7_findHonestPrices_28 ?_
      refine px_aload_0 dX7_findHonestPrices_29 ?_
      refine gf_X7_10 rfl dX7_findHonestPrices_30 (by first | assumption | exact co_a hx | exact co_r0 hx | exact co_r1 hx | exact co_r4 hx | exact co_r8 hx | exact co_hp hx | exact co_w hx | exact co_h hx | exact wo_r0 (co_wo hx) | exact wo_r1 (co_wo hx) | exact wo_r2 (co_wo hx) | exact wo_a1 (co_wo hx) | exact wo_a2 (co_wo hx) | exact wo_a3 (co_wo hx) | exact wo_rr (co_wo hx) (by omega) | exact wo_ra (co_wo hx) (by omega) | exact pa_a (co_pa hx)) (by first | assumption | exact co_a hx | exact co_r0 hx | exact co_r1 hx | exact co_r4 hx | exact co_r8 hx | exact co_hp hx | exact co_w hx | exact co_h hx | exact wo_r0 (co_wo hx) | exact wo_r1 (co_wo hx) | exact wo_r2 (co_wo hx) | exact wo_a1 (co_wo hx) | exact wo_a2 (co_wo hx) | exact wo_a3 (co_wo hx) | exact wo_rr (co_wo hx) (by omega) | exact wo_ra (co_wo hx) (by omega) | exact pa_a (co_pa hx)) ?_
      refine gf_X7_226 rfl dX7_findHonestPrices_33 (by first | assumption | exact co_a hx | exact co_r0 hx | exact co_r1 hx | exact co_r4 hx | exact co_r8 hx | exact co_hp hx | exact co_w hx | exact co_h hx | exact wo_r0 (co_wo hx) | exact wo_r1 (co_wo hx) | exact wo_r2 (co_wo hx) | exact wo_a1 (co_wo hx) | exact wo_a2 (co_wo hx) | exact wo_a3 (co_wo hx) | exact wo_rr (co_wo hx) (by omega) | exact wo_ra (co_wo hx) (by omega) | exact pa_a (co_pa hx)) ?_
      rw [g1 _ (by omega), hn]
      refine px_icmp_ge (tgt := 81) dX7_findHonestPrices_36 (by decide) (fun h36 => (by first | exact absurd h36 ((nI_ge (by omega) (by omega))) | exact absurd ((nI_ge (by omega) (by omega))) h36)) (fun h36 => ?_)
      refine px_aload_0 dX7_findHonestPrices_39 ?_
      refine gf_X7_10 rfl dX7_findHonestPrices_40 (by first | assumption | exact co_a hx | exact co_r0 hx | exact co_r1 hx | exact co_r4 hx | exact co_r8 hx | exact co_hp hx | exact co_w hx | exact co_h hx | exact wo_r0 (co_wo hx) | exact wo_r1 (co_wo hx) | exact wo_r2 (co_wo hx) | exact wo_a1 (co_wo hx) | exact wo_a2 (co_wo hx) | exact wo_a3 (co_wo hx) | exact wo_rr (co_wo hx) (by omega) | exact wo_ra (co_wo hx) (by omega) | exact pa_a (co_pa hx)) (by first | assumption | exact co_a hx | exact co_r0 hx | exact co_r1 hx | exact co_r4 hx | exact co_r8 hx | exact co_hp hx | exact co_w hx | exact co_h hx | exact wo_r0 (co_wo hx) | exact wo_r1 (co_wo hx) | exact wo_r2 (co_wo hx) | exact wo_a1 (co_wo hx) | exact wo_a2 (co_wo hx) | exact wo_a3 (co_wo hx) | exact wo_rr (co_wo hx) (by omega) | exact wo_ra (co_wo hx) (by omega) | exact pa_a (co_pa hx)) ?_
      refine gf_X7_140 rfl dX7_findHonestPrices_43 (by first | assumption | exact co_a hx | exact co_r0 hx | exact co_r1 hx | exact co_r4 hx | exact co_r8 hx | exact co_hp hx | exact co_w hx | exact co_h hx | exact wo_r0 (co_wo hx) | exact wo_r1 (co_wo hx) | exact wo_r2 (co_wo hx) | exact wo_a1 (co_wo hx) | exact wo_a2 (co_wo hx) | exact wo_a3 (co_wo hx) | exact wo_rr (co_wo hx) (by omega) | exact wo_ra (co_wo hx) (by omega) | exact pa_a (co_pa hx)) (by first | assumption | exact co_a hx | exact co_r0 hx | exact co_r1 hx | exact co_r4 hx | exact co_r8 hx | exact co_hp hx | exact co_w hx | exact co_h hx | exact wo_r0 (co_wo hx) | exact wo_r1 (co_wo hx) | exact wo_r2 (co_wo hx) | exact wo_a1 (co_wo hx) | exact wo_a2 (co_wo hx) | exact wo_a3 (co_wo hx) | exact wo_rr (co_wo hx) (by omega) | exact wo_ra (co_wo hx) (by omega) | exact pa_a (co_pa hx)) ?_
      refine px_iload_2 dX7_findHonestPrices_46 ?_
      refine px_aaldN dX7_findHonestPrices_47 (by first | assumption | exact co_a hx | exact co_r0 hx | exact co_r1 hx | exact co_r4 hx | exact co_r8 hx | exact co_hp hx | exact co_w hx | exact co_h hx | exact wo_r0 (co_wo hx) | exact wo_r1 (co_wo hx) | exact wo_r2 (co_wo hx) | exact wo_a1 (co_wo hx) | exact wo_a2 (co_wo hx) | exact wo_a3 (co_wo hx) | exact wo_rr (co_wo hx) (by omega) | exact wo_ra (co_wo hx) (by omega) | exact pa_a (co_pa hx)) (by first | rfl | assumption | exact ix_eq (by assumption)) (by omega) (by first | assumption | exact co_a hx | exact co_r0 hx | exact co_r1 hx | exact co_r4 hx | exact co_r8 hx | exact co_hp hx | exact co_w hx | exact co_h hx | exact wo_r0 (co_wo hx) | exact wo_r1 (co_wo hx) | exact wo_r2 (co_wo hx) | exact wo_a1 (co_wo hx) | exact wo_a2 (co_wo hx) | exact wo_a3 (co_wo hx) | exact wo_rr (co_wo hx) (by omega) | exact wo_ra (co_wo hx) (by omega) | exact pa_a (co_pa hx)) ?_
      refine px_astore_3 dX7_findHonestPrices_48 rfl ?_
      refine px_aload_0 dX7_findHonestPrices_49 ?_
      refine px_aload_3 dX7_findHonestPrices_50 ?_
      refine px_aload_3 dX7_findHonestPrices_51 ?_
      refine gf_X7_144 rfl dX7_findHonestPrices_52 (by first | assumption | exact co_a hx | exact co_r0 hx | exact co_r1 hx | exact co_r4 hx | exact co_r8 hx | exact co_hp hx | exact co_w hx | exact co_h hx | exact wo_r0 (co_wo hx) | exact wo_r1 (co_wo hx) | exact wo_r2 (co_wo hx) | exact wo_a1 (co_wo hx) | exact wo_a2 (co_wo hx) | exact wo_a3 (co_wo hx) | exact wo_rr (co_wo hx) (by omega) | exact wo_ra (co_wo hx) (by omega) | exact pa_a (co_pa hx)) ?_
      rw [ag_rd hA1 hir (by decide)]
      refine px_aload_3 dX7_findHonestPrices_55 ?_
      refine gf_X7_149 rfl dX7_findHonestPrices_56 (by first | assumption | exact co_a hx | exact co_r0 hx | exact co_r1 hx | exact co_r4 hx | exact co_r8 hx | exact co_hp hx | exact co_w hx | exact co_h hx | exact wo_r0 (co_wo hx) | exact wo_r1 (co_wo hx) | exact wo_r2 (co_wo hx) | exact wo_a1 (co_wo hx) | exact wo_a2 (co_wo hx) | exact wo_a3 (co_wo hx) | exact wo_rr (co_wo hx) (by omega) | exact wo_ra (co_wo hx) (by omega) | exact pa_a (co_pa hx)) ?_
      rw [ag_rd hA1 hir (by decide)]
      refine cd_X7_327 rfl ⟨⟨Nat.le_of_ble_eq_true rfl, Nat.le_of_ble_eq_true rfl⟩, Nat.le_of_ble_eq_true rfl, Nat.le_of_ble_eq_true rfl, Nat.le_of_ble_eq_true rfl⟩ (by first | assumption | exact co_a hx | exact co_r0 hx | exact co_r1 hx | exact co_r4 hx | exact co_r8 hx | exact co_hp hx | exact co_w hx | exact co_h hx | exact wo_r0 (co_wo hx) | exact wo_r1 (co_wo hx) | exact wo_r2 (co_wo hx) | exact wo_a1 (co_wo hx) | exact wo_a2 (co_wo hx) | exact wo_a3 (co_wo hx) | exact wo_rr (co_wo hx) (by omega) | exact wo_ra (co_wo hx) (by omega) | exact pa_a (co_pa hx)) dX7_findHonestPrices_59 (hl0) ?_
      refine px_aload_0 dX7_findHonestPrices_62 ?_
      refine px_aload_3 dX7_findHonestPrices_63 ?_
      refine px_aload_3 dX7_findHonestPrices_64 ?_
      refine gf_X7_149 rfl dX7_findHonestPrices_65 (by first | assumption | exact co_a hx | exact co_r0 hx | exact co_r1 hx | exact co_r4 hx | exact co_r8 hx | exact co_hp hx | exact co_w hx | exact co_h hx | exact wo_r0 (co_wo hx) | exact wo_r1 (co_wo hx) | exact wo_r2 (co_wo hx) | exact wo_a1 (co_wo hx) | exact wo_a2 (co_wo hx) | exact wo_a3 (co_wo hx) | exact wo_rr (co_wo hx) (by omega) | exact wo_ra (co_wo hx) (by omega) | exact pa_a (co_pa hx)) ?_
      rw [ag_rd (hag _ g1') hir (by decide)]
      refine px_aload_3 dX7_findHonestPrices_68 ?_
      refine gf_X7_144 rfl dX7_findHonestPrices_69 (by first | assumption | exact co_a hx | exact co_r0 hx | exact co_r1 hx | exact co_r4 hx | exact co_r8 hx | exact co_hp hx | exact co_w hx | exact co_h hx | exact wo_r0 (co_wo hx) | exact wo_r1 (co_wo hx) | exact wo_r2 (co_wo hx) | exact wo_a1 (co_wo hx) | exact wo_a2 (co_wo hx) | exact wo_a3 (co_wo hx) | exact wo_rr (co_wo hx) (by omega) | exact wo_ra (co_wo hx) (by omega) | exact pa_a (co_pa hx)) ?_
      rw [ag_rd (hag _ g1') hir (by decide)]
      refine cd_X7_327 rfl ⟨⟨Nat.le_of_ble_eq_true rfl, Nat.le_of_ble_eq_true rfl⟩, Nat.le_of_ble_eq_true rfl, Nat.le_of_ble_eq_true rfl, Nat.le_of_ble_eq_true rfl⟩ (by first | assumption | exact co_a hx | exact co_r0 hx | exact co_r1 hx | exact co_r4 hx | exact co_r8 hx | exact co_hp hx | exact co_w hx | exact co_h hx | exact wo_r0 (co_wo hx) | exact wo_r1 (co_wo hx) | exact wo_r2 (co_wo hx) | exact wo_a1 (co_wo hx) | exact wo_a2 (co_wo hx) | exact wo_a3 (co_wo hx) | exact wo_rr (co_wo hx) (by omega) | exact wo_ra (co_wo hx) (by omega) | exact pa_a (co_pa hx)) dX7_findHonestPrices_72 (hl1) ?_
      refine px_iinc_2 dX7_findHonestPrices_75 rfl ?_
      refine px_goto (tgt := 28) dX7_findHonestPrices_78 (by decide) ?_
      rw [inc_nI]; exact ih (i + 1) (by omega) _ (fun a ha => by rw [px_up_ne ha]; exact g1' a ha) g2'' K _
  -- all rounds
  have LA : ∀ n k, k + n = 8 → ∀ (I1 : px_I), (∀ a, a ≠ x + 224 → I1 a = I a) → (∀ t, t < 8 → I1 (x + 224) t = nI (h_R (2 * f_nr σ) (n_a σ) (n_b σ) (n_F σ) (fun t => ix (σ t)) k t)) → ∀ o2 o3, (px_W l G yX7_findHonestPrices cX7_findHonestPrices 4 (some .int) (px_rm 5 0 0) (px_Fn G Q 0 0) 20 [some (.ref x), some (.int (nI k)), o2, o3] [] 0 0 (T, I1, J, R)) := by
    intro n
    induction n with
    | zero =>
      intro k hk I1 g1 g2 o2 o3
      obtain rfl : k = 8 := by omega
      refine px_iload_1 dX7_findHonestPrices_20 ?_
      refine px_bipush (8) dX7_findHonestPrices_21 rfl ?_
      refine px_icmp_ge (tgt := 87) dX7_findHonestPrices_23 (by decide) (fun h23 => ?_) (fun h23 => (by first | exact absurd ((nI_le (a := 8) (b := 8) (by omega) (by omega))) h23 | exact absurd h23 ((nI_le (a := 8) (b := 8) (by omega) (by omega)))))
      refine px_iconst (0) dX7_findHonestPrices_87 rfl ?_
      refine px_istore_1 dX7_findHonestPrices_88 rfl ?_
      refine px_iconst (0) dX7_findHonestPrices_89 rfl ?_
      refine px_istore_2 dX7_findHonestPrices_90 rfl ?_
      exact LC I1 g1 g2 8 0 rfl _
    | succ n ih =>
      intro k hk I1 g1 g2 o2 o3
      refine px_iload_1 dX7_findHonestPrices_20 ?_
      refine px_bipush (8) dX7_findHonestPrices_21 rfl ?_
      refine px_icmp_ge (tgt := 87) dX7_findHonestPrices_23 (by decide) (fun h23 => (by first | exact absurd h23 ((nI_ge (a := k) (b := 8) (by omega) (by omega))) | exact absurd ((nI_ge (a := k) (b := 8) (by omega) (by omega))) h23)) (fun h23 => ?_)
      refine px_iconst (0) dX7_findHonestPrices_26 rfl ?_
      refine px_istore_2 dX7_findHonestPrices_27 rfl ?_
      exact LR _ (fun t ht => Nat.le_trans (R_le k t) (pr_le hV ht).2.2) k _ 0 (Nat.zero_add _) I1 g1 g2 (fun I2 k1 k2 o2 o3 => ih (k + 1) (by omega) I2 k1 k2 o2 o3) _
  refine px_aload_0 dX7_findHonestPrices_0 ?_
  refine gf_X7_10 rfl dX7_findHonestPrices_1 (by first | assumption | exact co_a hx | exact co_r0 hx | exact co_r1 hx | exact co_r4 hx | exact co_r8 hx | exact co_hp hx | exact co_w hx | exact co_h hx | exact wo_r0 (co_wo hx) | exact wo_r1 (co_wo hx) | exact wo_r2 (co_wo hx) | exact wo_a1 (co_wo hx) | exact wo_a2 (co_wo hx) | exact wo_a3 (co_wo hx) | exact wo_rr (co_wo hx) (by omega) | exact wo_ra (co_wo hx) (by omega) | exact pa_a (co_pa hx)) (by first | assumption | exact co_a hx | exact co_r0 hx | exact co_r1 hx | exact co_r4 hx | exact co_r8 hx | exact co_hp hx | exact co_w hx | exact co_h hx | exact wo_r0 (co_wo hx) | exact wo_r1 (co_wo hx) | exact wo_r2 (co_wo hx) | exact wo_a1 (co_wo hx) | exact wo_a2 (co_wo hx) | exact wo_a3 (co_wo hx) | exact wo_rr (co_wo hx) (by omega) | exact wo_ra (co_wo hx) (by omega) | exact pa_a (co_pa hx)) ?_
  refine gf_X7_92 rfl dX7_findHonestPrices_4 (by first | assumption | exact co_a hx | exact co_r0 hx | exact co_r1 hx | exact co_r4 hx | exact co_r8 hx | exact co_hp hx | exact co_w hx | exact co_h hx | exact wo_r0 (co_wo hx) | exact wo_r1 (co_wo hx) | exact wo_r2 (co_wo hx) | exact wo_a1 (co_wo hx) | exact wo_a2 (co_wo hx) | exact wo_a3 (co_wo hx) | exact wo_rr (co_wo hx) (by omega) | exact wo_ra (co_wo hx) (by omega) | exact pa_a (co_pa hx)) (by first | assumption | exact co_a hx | exact co_r0 hx | exact co_r1 hx | exact co_r4 hx | exact co_r8 hx | exact co_hp hx | exact co_w hx | exact co_h hx | exact wo_r0 (co_wo hx) | exact wo_r1 (co_wo hx) | exact wo_r2 (co_wo hx) | exact wo_a1 (co_wo hx) | exact wo_a2 (co_wo hx) | exact wo_a3 (co_wo hx) | exact wo_rr (co_wo hx) (by omega) | exact wo_ra (co_wo hx) (by omega) | exact pa_a (co_pa hx)) ?_
  refine px_iconst (0) dX7_findHonestPrices_7 rfl ?_
  refine px_aload_0 dX7_findHonestPrices_8 ?_
  refine gf_X7_59 rfl dX7_findHonestPrices_9 (by first | assumption | exact co_a hx | exact co_r0 hx | exact co_r1 hx | exact co_r4 hx | exact co_r8 hx | exact co_hp hx | exact co_w hx | exact co_h hx | exact wo_r0 (co_wo hx) | exact wo_r1 (co_wo hx) | exact wo_r2 (co_wo hx) | exact wo_a1 (co_wo hx) | exact wo_a2 (co_wo hx) | exact wo_a3 (co_wo hx) | exact wo_rr (co_wo hx) (by omega) | exact wo_ra (co_wo hx) (by omega) | exact pa_a (co_pa hx)) (by first | assumption | exact co_a hx | exact co_r0 hx | exact co_r1 hx | exact co_r4 hx | exact co_r8 hx | exact co_hp hx | exact co_w hx | exact co_h hx | exact wo_r0 (co_wo hx) | exact wo_r1 (co_wo hx) | exact wo_r2 (co_wo hx) | exact wo_a1 (co_wo hx) | exact wo_a2 (co_wo hx) | exact wo_a3 (co_wo hx) | exact wo_rr (co_wo hx) (by omega) | exact wo_ra (co_wo hx) (by omega) | exact pa_a (co_pa hx)) ?_
  refine px_iconst (0) dX7_findHonestPrices_12 rfl ?_
  refine px_bipush (8) dX7_findHonestPrices_13 rfl ?_
  refine px_copy (N := 8) ml_X7_95 rfl (by decide) ⟨Nat.le_of_ble_eq_true rfl, Nat.le_of_ble_eq_true rfl⟩ (wo_a2 (co_wo hx)) (co_hp hx) dX7_findHonestPrices_15 ?_
  refine px_iconst (0) dX7_findHonestPrices_18 rfl ?_
  refine px_istore_1 dX7_findHonestPrices_19 rfl ?_
  exact LA 8 0 rfl _ (fun a ha => px_cpo_ne ha) (fun t ht => by rw [px_cpo_at ht, ag_pr hA ht]; exact (pr_le hV ht).1) _ _
theorem s_X7_ifHonest (hx : px_co G T R x) (h : px_CI I x A) (hV : px_AV A) : px_C l G 6 0 0 mX7_ifHonest [.ref x] (T, I, J, R) (px_Qx T I J R x (.int (f_df A.1 8)) A) := by
  refine px_met (M := mX7_ifHonest) ([some (.ref x)]) (by decide +kernel) rfl (Nat.le_of_ble_eq_true rfl) rfl ?_
  refine px_aload_0 dX7_ifHonest_0 ?_
  refine cg_X7_88 rfl ⟨⟨Nat.le_of_ble_eq_true rfl, Nat.le_of_ble_eq_true rfl⟩, Nat.le_of_ble_eq_true rfl, Nat.le_of_ble_eq_true rfl, Nat.le_of_ble_eq_true rfl⟩ (by first | assumption | exact co_a hx | exact co_r0 hx | exact co_r1 hx | exact co_r4 hx | exact co_r8 hx | exact co_hp hx | exact co_w hx | exact co_h hx | exact wo_r0 (co_wo hx) | exact wo_r1 (co_wo hx) | exact wo_r2 (co_wo hx) | exact wo_a1 (co_wo hx) | exact wo_a2 (co_wo hx) | exact wo_a3 (co_wo hx) | exact wo_rr (co_wo hx) (by omega) | exact wo_ra (co_wo hx) (by omega) | exact pa_a (co_pa hx)) dX7_ifHonest_1 (s_X7_findHonest hx h.1 hV.1.1) ?_
  rintro v μ' ⟨rfl, I1, rfl, g1, g2⟩
  refine px_iret dX7_ifHonest_4 ?_
  skip
  exact ⟨rfl, I1, J, rfl, ⟨ag_congr h.1 hV.1.1 (fun a a1 a2 => g1 a (by omega)), ch_congr h.2.1 hV.2.1 (fun a a1 a2 => g1 a (by omega)), ⟨fun s hs => by rw [g1 _ (by omega)]; exact h.2.2.1 s hs, fun s hs hk => ag_congr (h.2.2.2.1 s hs hk) (hV.2.2 s hs hk).1 (fun a a1 a2 => g1 a (by omega)), cp_congr h.2.2.2.2.1 (g1 _ (by omega)) (g1 _ (by omega)), by rw [g1 _ (by omega)]; exact h.2.2.2.2.2.1, by rw [g1 _ (by omega)]; exact h.2.2.2.2.2.2⟩⟩, fun a ha => g1 a (by omega), fun a ha => rfl⟩
theorem s_X7_makeHonest (hx : px_co G T R x) (h : px_CI I x A) (hV : px_AV A) : px_C l G 6 0 0 mX7_makeHonest [.ref x] (T, I, J, R) (px_Qx T I J R x (.int (f_mkh A.1).1) (a_chg A (f_mkh A.1))) := by
  have hnn : ¬ (f_mkh A.1).1 < 0 := df_nn A.1
  have hVm := V_mkh hV.1
  have e1 : (f_mkh A.1).1 = f_df A.1 8 := rfl
  have e2 : (f_mkh A.1).2 = f_pr A.1 (f_hp A.1) := rfl
  generalize f_mkh A.1 = q at *
  refine px_met (M := mX7_makeHonest) ([some (.ref x), none]) (by decide +kernel) rfl (Nat.le_of_ble_eq_true rfl) rfl ?_
  refine px_aload_0 dX7_makeHonest_0 ?_
  refine gf_X7_19 rfl dX7_makeHonest_1 (by first | assumption | exact co_a hx | exact co_r0 hx | exact co_r1 hx | exact co_r4 hx | exact co_r8 hx | exact co_hp hx | exact co_w hx | exact co_h hx | exact wo_r0 (co_wo hx) | exact wo_r1 (co_wo hx) | exact wo_r2 (co_wo hx) | exact wo_a1 (co_wo hx) | exact wo_a2 (co_wo hx) | exact wo_a3 (co_wo hx) | exact wo_rr (co_wo hx) (by omega) | exact wo_ra (co_wo hx) (by omega) | exact pa_a (co_pa hx)) (by first | assumption | exact co_a hx | exact co_r0 hx | exact co_r1 hx | exact co_r4 hx | exact co_r8 hx | exact co_hp hx | exact co_w hx | exact co_h hx | exact wo_r0 (co_wo hx) | exact wo_r1 (co_wo hx) | exact wo_r2 (co_wo hx) | exact wo_a1 (co_wo hx) | exact wo_a2 (co_wo hx) | exact wo_a3 (co_wo hx) | exact wo_rr (co_wo hx) (by omega) | exact wo_ra (co_wo hx) (by omega) | exact pa_a (co_pa hx)) ?_
  refine px_aload_0 dX7_makeHonest_4 ?_
  refine gf_X7_10 rfl dX7_makeHonest_5 (by first | assumption | exact co_a hx | exact co_r0 hx | exact co_r1 hx | exact co_r4 hx | exact co_r8 hx | exact co_hp hx | exact co_w hx | exact co_h hx | exact wo_r0 (co_wo hx) | exact wo_r1 (co_wo hx) | exact wo_r2 (co_wo hx) | exact wo_a1 (co_wo hx) | exact wo_a2 (co_wo hx) | exact wo_a3 (co_wo hx) | exact wo_rr (co_wo hx) (by omega) | exact wo_ra (co_wo hx) (by omega) | exact pa_a (co_pa hx)) (by first | assumption | exact co_a hx | exact co_r0 hx | exact co_r1 hx | exact co_r4 hx | exact co_r8 hx | exact co_hp hx | exact co_w hx | exact co_h hx | exact wo_r0 (co_wo hx) | exact wo_r1 (co_wo hx) | exact wo_r2 (co_wo hx) | exact wo_a1 (co_wo hx) | exact wo_a2 (co_wo hx) | exact wo_a3 (co_wo hx) | exact wo_rr (co_wo hx) (by omega) | exact wo_ra (co_wo hx) (by omega) | exact pa_a (co_pa hx)) ?_
  refine cg_X7_63 rfl ⟨⟨Nat.le_of_ble_eq_true rfl, Nat.le_of_ble_eq_true rfl⟩, Nat.le_of_ble_eq_true rfl, Nat.le_of_ble_eq_true rfl, Nat.le_of_ble_eq_true rfl⟩ (by first | assumption | exact co_a hx | exact co_r0 hx | exact co_r1 hx | exact co_r4 hx | exact co_r8 hx | exact co_hp hx | exact co_w hx | exact co_h hx | exact wo_r0 (co_wo hx) | exact wo_r1 (co_wo hx) | exact wo_r2 (co_wo hx) | exact wo_a1 (co_wo hx) | exact wo_a2 (co_wo hx) | exact wo_a3 (co_wo hx) | exact wo_rr (co_wo hx) (by omega) | exact wo_ra (co_wo hx) (by omega) | exact pa_a (co_pa hx)) dX7_makeHonest_8 (s_X1_keepInMind (co_hs hx) (co_wo hx) (by omega) h.2.1 hV.2.1 h.1 hV.1.1) ?_
  rintro v μ' ⟨I1, rfl, rfl, c1, f1⟩; have hA1 := ag_congr h.1 hV.1.1 (fun a a1 a2 => f1 a (by omega)); have hfh := s_X7_findHonest (l := l) (J := J) hx hA1 hV.1.1; rw [← e1] at hfh
  refine px_aload_0 dX7_makeHonest_11 ?_
  refine cg_X7_88 rfl ⟨⟨Nat.le_of_ble_eq_true rfl, Nat.le_of_ble_eq_true rfl⟩, Nat.le_of_ble_eq_true rfl, Nat.le_of_ble_eq_true rfl, Nat.le_of_ble_eq_true rfl⟩ (by first | assumption | exact co_a hx | exact co_r0 hx | exact co_r1 hx | exact co_r4 hx | exact co_r8 hx | exact co_hp hx | exact co_w hx | exact co_h hx | exact wo_r0 (co_wo hx) | exact wo_r1 (co_wo hx) | exact wo_r2 (co_wo hx) | exact wo_a1 (co_wo hx) | exact wo_a2 (co_wo hx) | exact wo_a3 (co_wo hx) | exact wo_rr (co_wo hx) (by omega) | exact wo_ra (co_wo hx) (by omega) | exact pa_a (co_pa hx)) dX7_makeHonest_12 (hfh) ?_
  rintro v μ' ⟨rfl, I2, rfl, g1, g2⟩
  refine px_istore_1 dX7_makeHonest_15 rfl ?_
  refine px_aload_0 dX7_makeHonest_16 ?_
  refine gf_X7_59 rfl dX7_makeHonest_17 (by first | assumption | exact co_a hx | exact co_r0 hx | exact co_r1 hx | exact co_r4 hx | exact co_r8 hx | exact co_hp hx | exact co_w hx | exact co_h hx | exact wo_r0 (co_wo hx) | exact wo_r1 (co_wo hx) | exact wo_r2 (co_wo hx) | exact wo_a1 (co_wo hx) | exact wo_a2 (co_wo hx) | exact wo_a3 (co_wo hx) | exact wo_rr (co_wo hx) (by omega) | exact wo_ra (co_wo hx) (by omega) | exact pa_a (co_pa hx)) (by first | assumption | exact co_a hx | exact co_r0 hx | exact co_r1 hx | exact co_r4 hx | exact co_r8 hx | exact co_hp hx | exact co_w hx | exact co_h hx | exact wo_r0 (co_wo hx) | exact wo_r1 (co_wo hx) | exact wo_r2 (co_wo hx) | exact wo_a1 (co_wo hx) | exact wo_a2 (co_wo hx) | exact wo_a3 (co_wo hx) | exact wo_rr (co_wo hx) (by omega) | exact wo_ra (co_wo hx) (by omega) | exact pa_a (co_pa hx)) ?_
  refine px_iconst (0) dX7_makeHonest_20 rfl ?_
  refine px_aload_0 dX7_makeHonest_21 ?_
  refine gf_X7_10 rfl dX7_makeHonest_22 (by first | assumption | exact co_a hx | exact co_r0 hx | exact co_r1 hx | exact co_r4 hx | exact co_r8 hx | exact co_hp hx | exact co_w hx | exact co_h hx | exact wo_r0 (co_wo hx) | exact wo_r1 (co_wo hx) | exact wo_r2 (co_wo hx) | exact wo_a1 (co_wo hx) | exact wo_a2 (co_wo hx) | exact wo_a3 (co_wo hx) | exact wo_rr (co_wo hx) (by omega) | exact wo_ra (co_wo hx) (by omega) | exact pa_a (co_pa hx)) (by first | assumption | exact co_a hx | exact co_r0 hx | exact co_r1 hx | exact co_r4 hx | exact co_r8 hx | exact co_hp hx | exact co_w hx | exact co_h hx | exact wo_r0 (co_wo hx) | exact wo_r1 (co_wo hx) | exact wo_r2 (co_wo hx) | exact wo_a1 (co_wo hx) | exact wo_a2 (co_wo hx) | exact wo_a3 (co_wo hx) | exact wo_rr (co_wo hx) (by omega) | exact wo_ra (co_wo hx) (by omega) | exact pa_a (co_pa hx)) ?_
  refine gf_X7_92 rfl dX7_makeHonest_25 (by first | assumption | exact co_a hx | exact co_r0 hx | exact co_r1 hx | exact co_r4 hx | exact co_r8 hx | exact co_hp hx | exact co_w hx | exact co_h hx | exact wo_r0 (co_wo hx) | exact wo_r1 (co_wo hx) | exact wo_r2 (co_wo hx) | exact wo_a1 (co_wo hx) | exact wo_a2 (co_wo hx) | exact wo_a3 (co_wo hx) | exact wo_rr (co_wo hx) (by omega) | exact wo_ra (co_wo hx) (by omega) | exact pa_a (co_pa hx)) (by first | assumption | exact co_a hx | exact co_r0 hx | exact co_r1 hx | exact co_r4 hx | exact co_r8 hx | exact co_hp hx | exact co_w hx | exact co_h hx | exact wo_r0 (co_wo hx) | exact wo_r1 (co_wo hx) | exact wo_r2 (co_wo hx) | exact wo_a1 (co_wo hx) | exact wo_a2 (co_wo hx) | exact wo_a3 (co_wo hx) | exact wo_rr (co_wo hx) (by omega) | exact wo_ra (co_wo hx) (by omega) | exact pa_a (co_pa hx)) ?_
  refine px_iconst (0) dX7_makeHonest_28 rfl ?_
  refine px_bipush (8) dX7_makeHonest_29 rfl ?_
  refine px_copy (N := 8) ml_X7_95 rfl (by decide) ⟨Nat.le_of_ble_eq_true rfl, Nat.le_of_ble_eq_true rfl⟩ (co_hp hx) (wo_a2 (co_wo hx)) dX7_makeHonest_31 ?_
  refine px_aload_0 dX7_makeHonest_34 ?_
  refine px_iload_1 dX7_makeHonest_35 ?_
  refine cg_X7_71 rfl ⟨⟨Nat.le_of_ble_eq_true rfl, Nat.le_of_ble_eq_true rfl⟩, Nat.le_of_ble_eq_true rfl, Nat.le_of_ble_eq_true rfl, Nat.le_of_ble_eq_true rfl⟩ (by first | assumption | exact co_a hx | exact co_r0 hx | exact co_r1 hx | exact co_r4 hx | exact co_r8 hx | exact co_hp hx | exact co_w hx | exact co_h hx | exact wo_r0 (co_wo hx) | exact wo_r1 (co_wo hx) | exact wo_r2 (co_wo hx) | exact wo_a1 (co_wo hx) | exact wo_a2 (co_wo hx) | exact wo_a3 (co_wo hx) | exact wo_rr (co_wo hx) (by omega) | exact wo_ra (co_wo hx) (by omega) | exact pa_a (co_pa hx)) dX7_makeHonest_36 (s_X7_recorded hx (ch1_congr c1 hV.2.1 hV.1 (fun a a1 a2 => by rw [px_cpo_ne (by omega)]; exact g1 a (by omega))) hV.2.1 hV.1) ?_
  rintro v μ' ⟨rfl, hu⟩
  refine px_iret dX7_makeHonest_39 ?_
  skip
  rw [if_neg hnn] at hu
  obtain ⟨I3, rfl, -, k1, k2⟩ := hu
  have hA2 : px_ag (px_cpo I2 (x + 1 + 2) 8 (I2 (x + 224))) (x + 1) q.2 := by
    obtain ⟨b1, b2, b3, b4, b5, b6⟩ := hA1
    have n1 := hV.1.1.1.2.1
    have n2 := hV.1.1.1.2.2.2
    rw [e2]
    refine ⟨fun j hj => ?_, fun t ht => ?_, ?_, ?_, fun r hr j hj => ?_, fun c hc j hj => ?_⟩
    · rw [px_cpo_ne (by omega), g1 _ (by omega), pr_hi (by omega)]; exact b1 j hj
    · rw [px_cpo_at ht, g2 t ht, pr_lo ht]
    · rw [px_cpo_ne (by omega), g1 _ (by omega), pr_hi (by omega), pr_hi (by omega)]; exact b3
    · rw [px_cpo_ne (by omega), g1 _ (by omega), pr_hi (by omega), pr_hi (by omega), pr_hi (by omega), pr_hi (by omega), pr_hi (by omega)]; exact b4
    · rw [nr_pr] at hr
      rw [px_cpo_ne (by omega), g1 _ (by omega), pr_hi (by omega)]; exact b5 r hr j hj
    · rw [nc_pr] at hc
      rw [px_cpo_ne (by omega), g1 _ (by omega), pr_hi (by omega)]; exact b6 c hc j hj
  rw [a_chg, if_neg hnn]
  have ff : ∀ a, a ≠ x + 26 → (a < x + 1 ∨ x + 1 + 25 ≤ a) → a ≠ x + 224 → (a < x + 28 ∨ x + 203 ≤ a) → I3 a = I a := fun a z1 z2 z3 z4 => by rw [k2 a (by omega), px_cpo_ne (by omega), g1 a z3, f1 a (by omega)]
  refine ⟨rfl, I3, J, rfl, ⟨ag_congr hA2 hVm.1 (fun a a1 a2 => k2 a (by omega)), k1, ?_⟩, fun a ha => ff a (by omega) (by omega) (by omega) (by omega), fun a ha => rfl⟩
  obtain ⟨c1', c2', c3', c4', c5'⟩ := h.2.2
  exact ⟨fun s hs => by rw [ff _ (by omega) (by omega) (by omega) (by omega)]; exact c1' s hs, fun s hs hk => ag_congr (c2' s hs hk) (hV.2.2 s hs hk).1 (fun a a1 a2 => ff a (by omega) (by omega) (by omega) (by omega)), cp_congr c3' (ff _ (by omega) (by omega) (by omega) (by omega)) (ff _ (by omega) (by omega) (by omega) (by omega)), by rw [ff _ (by omega) (by omega) (by omega) (by omega)]; exact c4', by rw [ff _ (by omega) (by omega) (by omega) (by omega)]; exact c5'⟩
end CHN
