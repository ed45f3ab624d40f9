section WD
theorem lt_nle {x : Int32} {i n : Nat} (e : x = nI n) (h : i < n) (hn : n < 1000) : ¬ x ≤ nI i := by rw [e]; exact nI_ge h (by omega)
theorem le_nI {x : Int32} {i n : Nat} (e : x = nI n) (h : n ≤ i) (hi : i < 1000) : x ≤ nI i := by rw [e]; exact nI_le h (by omega)
theorem inc_nI (i : Nat) : nI i + Int32.ofInt 1 = nI (i + 1) := (nI_succ i).symm
theorem upd_ne {f : px_s} {k j : Nat} {v : Int32} (h : j ≠ k) : upd f k v j = f j := if_neg h
theorem upd_eq {f : px_s} {k j : Nat} {v : Int32} (h : j = k) : upd f k v j = v := if_pos h
theorem nr_upd {σ : px_s} {k : Nat} {v : Int32} (h : k ≠ 8) : f_nr (upd σ k v) = f_nr σ := by unfold f_nr; rw [upd_ne (Ne.symm h)]
theorem nc_upd {σ : px_s} {k : Nat} {v : Int32} (h : k ≠ 93) : f_nc (upd σ k v) = f_nc σ := by unfold f_nc; rw [upd_ne (Ne.symm h)]
variable {l : Launch} {G : px_G} {T : px_T} {I : px_I} {J : px_J} {R : px_R} {μ : px_M} {w : Nat} {σ : px_s}
theorem ag_n4 (hA : px_ag I w σ) (hV : px_V σ) : I w 4 = nI (f_nr σ) := hA.2.2.1.1.trans hV.1.1
theorem ag_n5 (hA : px_ag I w σ) (hV : px_V σ) : I w 5 = nI (f_nc σ) := hA.2.2.1.2.trans hV.1.2.2.1
theorem ag_rd (hA : px_ag I w σ) {r j : Nat} (hr : r < f_nr σ) (hj : j < 6) : I (w + 5 + r) j = σ (9 + 6 * r + j) := hA.2.2.2.2.1 r hr j hj
theorem ag_ct (hA : px_ag I w σ) {c j : Nat} (hc : c < f_nc σ) (hj : j < 8) : I (w + 19 + c) j = σ (94 + 8 * c + j) := hA.2.2.2.2.2 c hc j hj
theorem ag_st (hA : px_ag I w σ) {j : Nat} (hj : j < 4) : I (w + 1) j = σ (142 + j) := hA.1 j hj
theorem ag_pr (hA : px_ag I w σ) {t : Nat} (ht : t < 8) : I (w + 2) t = σ t := hA.2.1 t ht
theorem ag_up_road (h : px_ag I w σ) {r j : Nat} {v : Int32} (hr : r < 14) (hj : j < 6) : px_ag (px_up I (w + 5 + r) j v) w (upd σ (9 + 6 * r + j) v) := by
  obtain ⟨h1, h2, h3, h4, h5, h6⟩ := h
  refine ⟨fun j' hj' => ?_, fun t ht => ?_, ?_, ?_, fun r' hr' j' hj' => ?_, fun c hc j' hj' => ?_⟩
  · rw [px_up_ne (by omega), upd_ne (by omega)]; exact h1 j' hj'
  · rw [px_up_ne (by omega), upd_ne (by omega)]; exact h2 t ht
  · rw [px_up_ne (by omega), upd_ne (by omega), upd_ne (by omega)]; exact h3
  · rw [px_up_ne (by omega), upd_ne (by omega), upd_ne (by omega), upd_ne (by omega), upd_ne (by omega), upd_ne (by omega)]; exact h4
  · rw [nr_upd (by omega)] at hr'
    rw [px_up_at]
    by_cases e : r' = r ∧ j' = j
    · obtain ⟨rfl, rfl⟩ := e
      rw [if_pos ⟨rfl, rfl⟩, upd_eq rfl]
    · rw [if_neg (by omega), upd_ne (by omega)]; exact h5 r' hr' j' hj'
  · rw [nc_upd (by omega)] at hc
    rw [px_up_ne (by omega), upd_ne (by omega)]; exact h6 c hc j' hj'
theorem ag_up_cart (h : px_ag I w σ) {r j : Nat} {v : Int32} (hV : f_nr σ ≤ 14) (hr : r < 6) (hj : j < 8) : px_ag (px_up I (w + 19 + r) j v) w (upd σ (94 + 8 * r + j) v) := by
  obtain ⟨h1, h2, h3, h4, h5, h6⟩ := h
  refine ⟨fun j' hj' => ?_, fun t ht => ?_, ?_, ?_, fun r' hr' j' hj' => ?_, fun c hc j' hj' => ?_⟩
  · rw [px_up_ne (by omega), upd_ne (by omega)]; exact h1 j' hj'
  · rw [px_up_ne (by omega), upd_ne (by omega)]; exact h2 t ht
  · rw [px_up_ne (by omega), upd_ne (by omega), upd_ne (by omega)]; exact h3
  · rw [px_up_ne (by omega), upd_ne (by omega), upd_ne (by omega), upd_ne (by omega), upd_ne (by omega), upd_ne (by omega)]; exact h4
  · rw [nr_upd (by omega)] at hr'
    rw [px_up_ne (by omega), upd_ne (by omega)]; exact h5 r' hr' j' hj'
  · rw [nc_upd (by omega)] at hc
    rw [px_up_at]
    by_cases e : c = r ∧ j' = j
    · obtain ⟨rfl, rfl⟩ := e
      rw [if_pos ⟨rfl, rfl⟩, upd_eq rfl]
    · rw [if_neg (by omega), upd_ne (by omega)]; exact h6 c hc j' hj'
theorem ag_up_set (h : px_ag I w σ) {j : Nat} {v : Int32} (hV : f_nr σ ≤ 14 ∧ f_nc σ ≤ 6) (hj : j < 4) : px_ag (px_up I (w + 1) j v) w (upd σ (142 + j) v) := by
  obtain ⟨h1, h2, h3, h4, h5, h6⟩ := h
  refine ⟨fun j' hj' => ?_, fun t ht => ?_, ?_, ?_, fun r' hr' j' hj' => ?_, fun c hc j' hj' => ?_⟩
  · rw [px_up_at]
    by_cases e : j' = j
    · subst e
      rw [if_pos ⟨rfl, rfl⟩, upd_eq rfl]
    · rw [if_neg (by omega), upd_ne (by omega)]; exact h1 j' hj'
  · rw [px_up_ne (by omega), upd_ne (by omega)]; exact h2 t ht
  · rw [px_up_ne (by omega), upd_ne (by omega), upd_ne (by omega)]; exact h3
  · rw [px_up_ne (by omega), upd_ne (by omega), upd_ne (by omega), upd_ne (by omega), upd_ne (by omega), upd_ne (by omega)]; exact h4
  · rw [nr_upd (by omega)] at hr'
    rw [px_up_ne (by omega), upd_ne (by omega)]; exact h5 r' hr' j' hj'
  · rw [nc_upd (by omega)] at hc
    rw [px_up_ne (by omega), upd_ne (by omega)]; exact h6 c hc j' hj'
theorem ag_up_price (h : px_ag I w σ) {j : Nat} {v : Int32} (hV : f_nr σ ≤ 14 ∧ f_nc σ ≤ 6) (hj : j < 8) : px_ag (px_up I (w + 2) j v) w (upd σ j v) := by
  obtain ⟨h1, h2, h3, h4, h5, h6⟩ := h
  refine ⟨fun j' hj' => ?_, fun t ht => ?_, ?_, ?_, fun r' hr' j' hj' => ?_, fun c hc j' hj' => ?_⟩
  · rw [px_up_ne (by omega), upd_ne (by omega)]; exact h1 j' hj'
  · rw [px_up_at]
    by_cases e : t = j
    · subst e
      rw [if_pos ⟨rfl, rfl⟩, upd_eq rfl]
    · rw [if_neg (by omega), upd_ne (by omega)]; exact h2 t ht
  · rw [px_up_ne (by omega), upd_ne (by omega), upd_ne (by omega)]; exact h3
  · rw [px_up_ne (by omega), upd_ne (by omega), upd_ne (by omega), upd_ne (by omega), upd_ne (by omega), upd_ne (by omega)]; exact h4
  · rw [nr_upd (by omega)] at hr'
    rw [px_up_ne (by omega), upd_ne (by omega)]; exact h5 r' hr' j' hj'
  · rw [nc_upd (by omega)] at hc
    rw [px_up_ne (by omega), upd_ne (by omega)]; exact h6 c hc j' hj'
/-- one of the numbers drawn, bought, sold, lost, brought -/
theorem ag_up_num (h : px_ag I w σ) {a j : Nat} {v : Int32} (hV : f_nr σ ≤ 14 ∧ f_nc σ ≤ 6) (hj : (a = 6 ∧ j = 146) ∨ (a = 7 ∧ j = 147) ∨ (a = 8 ∧ j = 148) ∨ (a = 9 ∧ j = 149) ∨ (a = 10 ∧ j = 150)) : px_ag (px_up I w a v) w (upd σ j v) := by
  obtain ⟨h1, h2, h3, h4, h5, h6⟩ := h
  refine ⟨fun j' hj' => ?_, fun t ht => ?_, ?_, ?_, fun r' hr' j' hj' => ?_, fun c hc j' hj' => ?_⟩
  · rw [px_up_ne (by omega), upd_ne (by omega)]; exact h1 j' hj'
  · rw [px_up_ne (by omega), upd_ne (by omega)]; exact h2 t ht
  · rw [px_up_at, px_up_at, if_neg (by omega), if_neg (by omega), upd_ne (by omega), upd_ne (by omega)]; exact h3
  · rcases hj with ⟨rfl, rfl⟩ | ⟨rfl, rfl⟩ | ⟨rfl, rfl⟩ | ⟨rfl, rfl⟩ | ⟨rfl, rfl⟩ <;> simp [px_up_at, upd, h4]
  · rw [nr_upd (by omega)] at hr'
    rw [px_up_ne (by omega), upd_ne (by omega)]; exact h5 r' hr' j' hj'
  · rw [nc_upd (by omega)] at hc
    rw [px_up_ne (by omega), upd_ne (by omega)]; exact h6 c hc j' hj'
/-- an answer and the state behind it; the other cells as they were -/
def px_Q1 (T : px_T) (I : px_I) (J : px_J) (R : px_R) (w : Nat) (q : Int32 × px_s) : Option Value → px_M → Prop := fun v μ' => ∃ I' : px_I, μ' = (T, I', J, R) ∧ v = some (.int q.1) ∧ px_ag I' w q.2 ∧ ∀ a, (a < w ∨ w + 25 ≤ a) → I' a = I a
theorem px_Q1_err {c : Int32} {q : Int32 × px_s} (h : q = (c, σ)) (hA : px_ag I w σ) : px_Q1 T I J R w q (some (.int c)) (T, I, J, R) := ⟨I, rfl, by rw [h], by rw [h]; exact hA, fun _ _ => rfl⟩
theorem px_Q1_ok {c : Int32} {I' : px_I} {q : Int32 × px_s} (h1 : q.1 = c) (hA : px_ag I' w q.2) (hF : ∀ a, (a < w ∨ w + 25 ≤ a) → I' a = I a) : px_Q1 T I J R w q (some (.int c)) (T, I', J, R) := ⟨I', rfl, by rw [h1], hA, hF⟩
theorem s_X6_hasRoad {v : Int32} (hw : px_wo G T R w) (hA : px_ag I w σ) : px_K l G 1 mX6_hasRoad ([.ref w, .int v]) ((T, I, J, R)) (some (.int (if rg v 0 (σ 8 - 1) then 1 else 0))) ((T, I, J, R)) := by
  refine px_met (M := mX6_hasRoad) ([some (.ref w), some (.int v)]) (by decide +kernel) rfl (Nat.le_of_ble_eq_true rfl) rfl ?_
  have e := hA.2.2.1.1
  refine px_iload_1 dX6_hasRoad_0 ?_
  refine px_iconst (0) dX6_hasRoad_1 rfl ?_
  refine px_aload_0 dX6_hasRoad_2 ?_
  refine gf_X6_30 rfl dX6_hasRoad_3 (by first | assumption | exact wo_a hw | exact wo_r0 hw | exact wo_r1 hw | exact wo_r2 hw | exact wo_r3 hw | exact wo_a1 hw | exact wo_a2 hw | exact wo_a3 hw | exact wo_a4 hw | exact wo_rr hw (by omega) | exact wo_ra hw (by omega) | exact wo_cr hw (by omega) | exact wo_ca hw (by omega)) ?_
  rw [e]
  refine px_iconst (1) dX6_hasRoad_6 rfl ?_
  refine px_isub dX6_hasRoad_7 ?_
  refine cd_X6_70 rfl ⟨⟨Nat.le_of_ble_eq_true rfl, Nat.le_of_ble_eq_true rfl⟩, Nat.le_of_ble_eq_true rfl, Nat.le_of_ble_eq_true rfl, Nat.le_of_ble_eq_true rfl⟩ dX6_hasRoad_8 (s_X7_isOutside) ?_
  refine px_ifb_ne (tgt := 18) dX6_hasRoad_11 (by decide) (fun h11 => ?_) (fun h11 => ?_)
  · skip
    refine px_iconst (0) dX6_hasRoad_18 rfl ?_
    refine px_zret dX6_hasRoad_19 (by first | rfl | exact px_nb _) ?_
    first | exact ⟨by rw [if_pos h11], rfl⟩ | exact ⟨by rw [if_neg (fun q => q h11)], rfl⟩
  · skip
    refine px_iconst (1) dX6_hasRoad_14 rfl ?_
    refine px_goto (tgt := 19) dX6_hasRoad_15 (by decide) ?_
    refine px_zret dX6_hasRoad_19 (by first | rfl | exact px_nb _) ?_
    first | exact ⟨by rw [if_pos h11], rfl⟩ | exact ⟨by rw [if_neg (fun q => q h11)], rfl⟩
theorem s_X6_hasCart {v : Int32} (hw : px_wo G T R w) (hA : px_ag I w σ) : px_K l G 1 mX6_hasCart ([.ref w, .int v]) ((T, I, J, R)) (some (.int (if rg v 0 (σ 93 - 1) then 1 else 0))) ((T, I, J, R)) := by
  refine px_met (M := mX6_hasCart) ([some (.ref w), some (.int v)]) (by decide +kernel) rfl (Nat.le_of_ble_eq_true rfl) rfl ?_
  have e := hA.2.2.1.2
  refine px_iload_1 dX6_hasCart_0 ?_
  refine px_iconst (0) dX6_hasCart_1 rfl ?_
  refine px_aload_0 dX6_hasCart_2 ?_
  refine gf_X6_34 rfl dX6_hasCart_3 (by first | assumption | exact wo_a hw | exact wo_r0 hw | exact wo_r1 hw | exact wo_r2 hw | exact wo_r3 hw | exact wo_a1 hw | exact wo_a2 hw | exact wo_a3 hw | exact wo_a4 hw | exact wo_rr hw (by omega) | exact wo_ra hw (by omega) | exact wo_cr hw (by omega) | exact wo_ca hw (by omega)) ?_
  rw [e]
  refine px_iconst (1) dX6_hasCart_6 rfl ?_
  refine px_isub dX6_hasCart_7 ?_
  refine cd_X6_70 rfl ⟨⟨Nat.le_of_ble_eq_true rfl, Nat.le_of_ble_eq_true rfl⟩, Nat.le_of_ble_eq_true rfl, Nat.le_of_ble_eq_true rfl, Nat.le_of_ble_eq_true rfl⟩ dX6_hasCart_8 (s_X7_isOutside) ?_
  refine px_ifb_ne (tgt := 18) dX6_hasCart_11 (by decide) (fun h11 => ?_) (fun h11 => ?_)
  · skip
    refine px_iconst (0) dX6_hasCart_18 rfl ?_
    refine px_zret dX6_hasCart_19 (by first | rfl | exact px_nb _) ?_
    first | exact ⟨by rw [if_pos h11], rfl⟩ | exact ⟨by rw [if_neg (fun q => q h11)], rfl⟩
  · skip
    refine px_iconst (1) dX6_hasCart_14 rfl ?_
    refine px_goto (tgt := 19) dX6_hasCart_15 (by decide) ?_
    refine px_zret dX6_hasCart_19 (by first | rfl | exact px_nb _) ?_
    first | exact ⟨by rw [if_pos h11], rfl⟩ | exact ⟨by rw [if_neg (fun q => q h11)], rfl⟩
theorem s_X6_guardsAtRoads (hw : px_wo G T R w) (hA : px_ag I w σ) (hV : px_V σ) : px_K l G 0 mX6_guardsAtRoads ([.ref w]) ((T, I, J, R)) (some (.int (f_gs σ))) ((T, I, J, R)) := by
  have hn := ag_n4 hA hV
  have hn14 := hV.1.2.1
  refine px_met (M := mX6_guardsAtRoads) ([some (.ref w), none, none]) (by decide +kernel) rfl (Nat.le_of_ble_eq_true rfl) rfl ?_
  generalize hQ : (fun v m => v = some (Value.int (f_gs σ)) ∧ m = (T, I, J, R) : Option Value → px_M → Prop) = Q
  have L : ∀ n i, i + n = f_nr σ → (px_W l G yX6_guardsAtRoads cX6_guardsAtRoads 3 (some .int) (px_rm 0 0 0) (px_Fn G Q 0 0) 4 [some (.ref w), some (.int (f_sm (fun r => σ (9 + 6 * r + 3)) i)), some (.int (nI i))] [] 0 0 (T, I, J, R)) := by
    intro n
    induction n with
    | zero =>
      intro i hi
      refine px_iload_2 dX6_guardsAtRoads_4 ?_
      refine px_aload_0 dX6_guardsAtRoads_5 ?_
      refine gf_X6_30 rfl dX6_guardsAtRoads_6 (by first | assumption | exact wo_a hw | exact wo_r0 hw | exact wo_r1 hw | exact wo_r2 hw | exact wo_r3 hw | exact wo_a1 hw | exact wo_a2 hw | exact wo_a3 hw | exact wo_a4 hw | exact wo_rr hw (by omega) | exact wo_ra hw (by omega) | exact wo_cr hw (by omega) | exact wo_ca hw (by omega)) ?_
      refine px_icmp_ge (tgt := 30) dX6_guardsAtRoads_9 (by decide) (fun h9 => ?_) (fun h9 => absurd (le_nI hn (by omega) (by omega)) h9)
      refine px_iload_1 dX6_guardsAtRoads_30 ?_
      refine px_iret dX6_guardsAtRoads_31 ?_
      subst hQ; exact ⟨by rw [f_gs, show i = f_nr σ by omega], rfl⟩
    | succ n ih =>
      intro i hi
      refine px_iload_2 dX6_guardsAtRoads_4 ?_
      refine px_aload_0 dX6_guardsAtRoads_5 ?_
      refine gf_X6_30 rfl dX6_guardsAtRoads_6 (by first | assumption | exact wo_a hw | exact wo_r0 hw | exact wo_r1 hw | exact wo_r2 hw | exact wo_r3 hw | exact wo_a1 hw | exact wo_a2 hw | exact wo_a3 hw | exact wo_a4 hw | exact wo_rr hw (by omega) | exact wo_ra hw (by omega) | exact wo_cr hw (by omega) | exact wo_ca hw (by omega)) ?_
      refine px_icmp_ge (tgt := 30) dX6_guardsAtRoads_9 (by decide) (fun h9 => absurd h9 (lt_nle hn (by omega) (by omega))) (fun h9 => ?_)
      refine px_iload_1 dX6_guardsAtRoads_12 ?_
      refine px_aload_0 dX6_guardsAtRoads_13 ?_
      refine gf_X6_20 rfl dX6_guardsAtRoads_14 (by first | assumption | exact wo_a hw | exact wo_r0 hw | exact wo_r1 hw | exact wo_r2 hw | exact wo_r3 hw | exact wo_a1 hw | exact wo_a2 hw | exact wo_a3 hw | exact wo_a4 hw | exact wo_rr hw (by omega) | exact wo_ra hw (by omega) | exact wo_cr hw (by omega) | exact wo_ca hw (by omega)) (by first | assumption | exact wo_a hw | exact wo_r0 hw | exact wo_r1 hw | exact wo_r2 hw | exact wo_r3 hw | exact wo_a1 hw | exact wo_a2 hw | exact wo_a3 hw | exact wo_a4 hw | exact wo_rr hw (by omega) | exact wo_ra hw (by omega) | exact wo_cr hw (by omega) | exact wo_ca hw (by omega)) ?_
      refine px_iload_2 dX6_guardsAtRoads_17 ?_
      refine px_aaldN dX6_guardsAtRoads_18 (by first | assumption | exact wo_a hw | exact wo_r0 hw | exact wo_r1 hw | exact wo_r2 hw | exact wo_r3 hw | exact wo_a1 hw | exact wo_a2 hw | exact wo_a3 hw | exact wo_a4 hw | exact wo_rr hw (by omega) | exact wo_ra hw (by omega) | exact wo_cr hw (by omega) | exact wo_ca hw (by omega)) (by first | rfl | exact ix_eq (by assumption)) (by first | decide | omega) (by first | assumption | exact wo_a hw | exact wo_r0 hw | exact wo_r1 hw | exact wo_r2 hw | exact wo_r3 hw | exact wo_a1 hw | exact wo_a2 hw | exact wo_a3 hw | exact wo_a4 hw | exact wo_rr hw (by omega) | exact wo_ra hw (by omega) | exact wo_cr hw (by omega) | exact wo_ca hw (by omega)) ?_
      refine gf_X6_81 rfl dX6_guardsAtRoads_19 (by first | assumption | exact wo_a hw | exact wo_r0 hw | exact wo_r1 hw | exact wo_r2 hw | exact wo_r3 hw | exact wo_a1 hw | exact wo_a2 hw | exact wo_a3 hw | exact wo_a4 hw | exact wo_rr hw (by omega) | exact wo_ra hw (by omega) | exact wo_cr hw (by omega) | exact wo_ca hw (by omega)) ?_
      rw [ag_rd hA (by omega) (by omega)]
      refine px_iadd dX6_guardsAtRoads_22 ?_
      refine px_istore_1 dX6_guardsAtRoads_23 rfl ?_
      refine px_iinc_2 dX6_guardsAtRoads_24 rfl ?_
      refine px_goto (tgt := 4) dX6_guardsAtRoads_27 (by decide) ?_
      rw [inc_nI]; exact ih (i + 1) (by omega)
  refine px_iconst (0) dX6_guardsAtRoads_0 rfl ?_
  refine px_istore_1 dX6_guardsAtRoads_1 rfl ?_
  refine px_iconst (0) dX6_guardsAtRoads_2 rfl ?_
  refine px_istore_2 dX6_guardsAtRoads_3 rfl ?_
  exact L _ 0 (Nat.zero_add _)
theorem s_X6_sacksOfCarts (hw : px_wo G T R w) (hA : px_ag I w σ) (hV : px_V σ) : px_K l G 0 mX6_sacksOfCarts ([.ref w]) ((T, I, J, R)) (some (.int (f_cs σ 2))) ((T, I, J, R)) := by
  have hn := ag_n5 hA hV
  have hn6 := hV.1.2.2.2
  refine px_met (M := mX6_sacksOfCarts) ([some (.ref w), none, none]) (by decide +kernel) rfl (Nat.le_of_ble_eq_true rfl) rfl ?_
  generalize hQ : (fun v m => v = some (Value.int (f_cs σ 2)) ∧ m = (T, I, J, R) : Option Value → px_M → Prop) = Q
  have L : ∀ n i, i + n = f_nc σ → (px_W l G yX6_sacksOfCarts cX6_sacksOfCarts 3 (some .int) (px_rm 0 0 0) (px_Fn G Q 0 0) 4 [some (.ref w), some (.int (f_sm (fun r => σ (94 + 8 * r + 2)) i)), some (.int (nI i))] [] 0 0 (T, I, J, R)) := by
    intro n
    induction n with
    | zero =>
      intro i hi
      refine px_iload_2 dX6_sacksOfCarts_4 ?_
      refine px_aload_0 dX6_sacksOfCarts_5 ?_
      refine gf_X6_34 rfl dX6_sacksOfCarts_6 (by first | assumption | exact wo_a hw | exact wo_r0 hw | exact wo_r1 hw | exact wo_r2 hw | exact wo_r3 hw | exact wo_a1 hw | exact wo_a2 hw | exact wo_a3 hw | exact wo_a4 hw | exact wo_rr hw (by omega) | exact wo_ra hw (by omega) | exact wo_cr hw (by omega) | exact wo_ca hw (by omega)) ?_
      refine px_icmp_ge (tgt := 30) dX6_sacksOfCarts_9 (by decide) (fun h9 => ?_) (fun h9 => absurd (le_nI hn (by omega) (by omega)) h9)
      refine px_iload_1 dX6_sacksOfCarts_30 ?_
      refine px_iret dX6_sacksOfCarts_31 ?_
      subst hQ; exact ⟨by rw [f_cs, show i = f_nc σ by omega], rfl⟩
    | succ n ih =>
      intro i hi
      refine px_iload_2 dX6_sacksOfCarts_4 ?_
      refine px_aload_0 dX6_sacksOfCarts_5 ?_
      refine gf_X6_34 rfl dX6_sacksOfCarts_6 (by first | assumption | exact wo_a hw | exact wo_r0 hw | exact wo_r1 hw | exact wo_r2 hw | exact wo_r3 hw | exact wo_a1 hw | exact wo_a2 hw | exact wo_a3 hw | exact wo_a4 hw | exact wo_rr hw (by omega) | exact wo_ra hw (by omega) | exact wo_cr hw (by omega) | exact wo_ca hw (by omega)) ?_
      refine px_icmp_ge (tgt := 30) dX6_sacksOfCarts_9 (by decide) (fun h9 => absurd h9 (lt_nle hn (by omega) (by omega))) (fun h9 => ?_)
      refine px_iload_1 dX6_sacksOfCarts_12 ?_
      refine px_aload_0 dX6_sacksOfCarts_13 ?_
      refine gf_X6_26 rfl dX6_sacksOfCarts_14 (by first | assumption | exact wo_a hw | exact wo_r0 hw | exact wo_r1 hw | exact wo_r2 hw | exact wo_r3 hw | exact wo_a1 hw | exact wo_a2 hw | exact wo_a3 hw | exact wo_a4 hw | exact wo_rr hw (by omega) | exact wo_ra hw (by omega) | exact wo_cr hw (by omega) | exact wo_ca hw (by omega)) (by first | assumption | exact wo_a hw | exact wo_r0 hw | exact wo_r1 hw | exact wo_r2 hw | exact wo_r3 hw | exact wo_a1 hw | exact wo_a2 hw | exact wo_a3 hw | exact wo_a4 hw | exact wo_rr hw (by omega) | exact wo_ra hw (by omega) | exact wo_cr hw (by omega) | exact wo_ca hw (by omega)) ?_
      refine px_iload_2 dX6_sacksOfCarts_17 ?_
      refine px_aaldN dX6_sacksOfCarts_18 (by first | assumption | exact wo_a hw | exact wo_r0 hw | exact wo_r1 hw | exact wo_r2 hw | exact wo_r3 hw | exact wo_a1 hw | exact wo_a2 hw | exact wo_a3 hw | exact wo_a4 hw | exact wo_rr hw (by omega) | exact wo_ra hw (by omega) | exact wo_cr hw (by omega) | exact wo_ca hw (by omega)) (by first | rfl | exact ix_eq (by assumption)) (by first | decide | omega) (by first | assumption | exact wo_a hw | exact wo_r0 hw | exact wo_r1 hw | exact wo_r2 hw | exact wo_r3 hw | exact wo_a1 hw | exact wo_a2 hw | exact wo_a3 hw | exact wo_a4 hw | exact wo_rr hw (by omega) | exact wo_ra hw (by omega) | exact wo_cr hw (by omega) | exact wo_ca hw (by omega)) ?_
      refine gf_X6_84 rfl dX6_sacksOfCarts_19 (by first | assumption | exact wo_a hw | exact wo_r0 hw | exact wo_r1 hw | exact wo_r2 hw | exact wo_r3 hw | exact wo_a1 hw | exact wo_a2 hw | exact wo_a3 hw | exact wo_a4 hw | exact wo_rr hw (by omega) | exact wo_ra hw (by omega) | exact wo_cr hw (by omega) | exact wo_ca hw (by omega)) ?_
      rw [ag_ct hA (by omega) (by omega)]
      refine px_iadd dX6_sacksOfCarts_22 ?_
      refine px_istore_1 dX6_sacksOfCarts_23 rfl ?_
      refine px_iinc_2 dX6_sacksOfCarts_24 rfl ?_
      refine px_goto (tgt := 4) dX6_sacksOfCarts_27 (by decide) ?_
      rw [inc_nI]; exact ih (i + 1) (by omega)
  refine px_iconst (0) dX6_sacksOfCarts_0 rfl ?_
  refine px_istore_1 dX6_sacksOfCarts_1 rfl ?_
  refine px_iconst (0) dX6_sacksOfCarts_2 rfl ?_
  refine px_istore_2 dX6_sacksOfCarts_3 rfl ?_
  exact L _ 0 (Nat.zero_add _)
theorem s_X6_coinsOfCarts (hw : px_wo G T R w) (hA : px_ag I w σ) (hV : px_V σ) : px_K l G 0 mX6_coinsOfCarts ([.ref w]) ((T, I, J, R)) (some (.int (f_cs σ 1))) ((T, I, J, R)) := by
  have hn := ag_n5 hA hV
  have hn6 := hV.1.2.2.2
  refine px_met (M := mX6_coinsOfCarts) ([some (.ref w), none, none]) (by decide +kernel) rfl (Nat.le_of_ble_eq_true rfl) rfl ?_
  generalize hQ : (fun v m => v = some (Value.int (f_cs σ 1)) ∧ m = (T, I, J, R) : Option Value → px_M → Prop) = Q
  have L : ∀ n i, i + n = f_nc σ → (px_W l G yX6_coinsOfCarts cX6_coinsOfCarts 3 (some .int) (px_rm 0 0 0) (px_Fn G Q 0 0) 4 [some (.ref w), some (.int (f_sm (fun r => σ (94 + 8 * r + 1)) i)), some (.int (nI i))] [] 0 0 (T, I, J, R)) := by
    intro n
    induction n with
    | zero =>
      intro i hi
      refine px_iload_2 dX6_coinsOfCarts_4 ?_
      refine px_aload_0 dX6_coinsOfCarts_5 ?_
      refine gf_X6_34 rfl dX6_coinsOfCarts_6 (by first | assumption | exact wo_a hw | exact wo_r0 hw | exact wo_r1 hw | exact wo_r2 hw | exact wo_r3 hw | exact wo_a1 hw | exact wo_a2 hw | exact wo_a3 hw | exact wo_a4 hw | exact wo_rr hw (by omega) | exact wo_ra hw (by omega) | exact wo_cr hw (by omega) | exact wo_ca hw (by omega)) ?_
      refine px_icmp_ge (tgt := 30) dX6_coinsOfCarts_9 (by decide) (fun h9 => ?_) (fun h9 => absurd (le_nI hn (by omega) (by omega)) h9)
      refine px_iload_1 dX6_coinsOfCarts_30 ?_
      refine px_iret dX6_coinsOfCarts_31 ?_
      subst hQ; exact ⟨by rw [f_cs, show i = f_nc σ by omega], rfl⟩
    | succ n ih =>
      intro i hi
      refine px_iload_2 dX6_coinsOfCarts_4 ?_
      refine px_aload_0 dX6_coinsOfCarts_5 ?_
      refine gf_X6_34 rfl dX6_coinsOfCarts_6 (by first | assumption | exact wo_a hw | exact wo_r0 hw | exact wo_r1 hw | exact wo_r2 hw | exact wo_r3 hw | exact wo_a1 hw | exact wo_a2 hw | exact wo_a3 hw | exact wo_a4 hw | exact wo_rr hw (by omega) | exact wo_ra hw (by omega) | exact wo_cr hw (by omega) | exact wo_ca hw (by omega)) ?_
      refine px_icmp_ge (tgt := 30) dX6_coinsOfCarts_9 (by decide) (fun h9 => absurd h9 (lt_nle hn (by omega) (by omega))) (fun h9 => ?_)
      refine px_iload_1 dX6_coinsOfCarts_12 ?_
      refine px_aload_0 dX6_coinsOfCarts_13 ?_
      refine gf_X6_26 rfl dX6_coinsOfCarts_14 (by first | assumption | exact wo_a hw | exact wo_r0 hw | exact wo_r1 hw | exact wo_r2 hw | exact wo_r3 hw | exact wo_a1 hw | exact wo_a2 hw | exact wo_a3 hw | exact wo_a4 hw | exact wo_rr hw (by omega) | exact wo_ra hw (by omega) | exact wo_cr hw (by omega) | exact wo_ca hw (by omega)) (by first | assumption | exact wo_a hw | exact wo_r0 hw | exact wo_r1 hw | exact wo_r2 hw | exact wo_r3 hw | exact wo_a1 hw | exact wo_a2 hw | exact wo_a3 hw | exact wo_a4 hw | exact wo_rr hw (by omega) | exact wo_ra hw (by omega) | exact wo_cr hw (by omega) | exact wo_ca hw (by omega)) ?_
      refine px_iload_2 dX6_coinsOfCarts_17 ?_
      refine px_aaldN dX6_coinsOfCarts_18 (by first | assumption | exact wo_a hw | exact wo_r0 hw | exact wo_r1 hw | exact wo_r2 hw | exact wo_r3 hw | exact wo_a1 hw | exact wo_a2 hw | exact wo_a3 hw | exact wo_a4 hw | exact wo_rr hw (by omega) | exact wo_ra hw (by omega) | exact wo_cr hw (by omega) | exact wo_ca hw (by omega)) (by first | rfl | exact ix_eq (by assumption)) (by first | decide | omega) (by first | assumption | exact wo_a hw | exact wo_r0 hw | exact wo_r1 hw | exact wo_r2 hw | exact wo_r3 hw | exact wo_a1 hw | exact wo_a2 hw | exact wo_a3 hw | exact wo_a4 hw | exact wo_rr hw (by omega) | exact wo_ra hw (by omega) | exact wo_cr hw (by omega) | exact wo_ca hw (by omega)) ?_
      refine gf_X6_87 rfl dX6_coinsOfCarts_19 (by first | assumption | exact wo_a hw | exact wo_r0 hw | exact wo_r1 hw | exact wo_r2 hw | exact wo_r3 hw | exact wo_a1 hw | exact wo_a2 hw | exact wo_a3 hw | exact wo_a4 hw | exact wo_rr hw (by omega) | exact wo_ra hw (by omega) | exact wo_cr hw (by omega) | exact wo_ca hw (by omega)) ?_
      rw [ag_ct hA (by omega) (by omega)]
      refine px_iadd dX6_coinsOfCarts_22 ?_
      refine px_istore_1 dX6_coinsOfCarts_23 rfl ?_
      refine px_iinc_2 dX6_coinsOfCarts_24 rfl ?_
      refine px_goto (tgt := 4) dX6_coinsOfCarts_27 (by decide) ?_
      rw [inc_nI]; exact ih (i + 1) (by omega)
  refine px_iconst (0) dX6_coinsOfCarts_0 rfl ?_
  refine px_istore_1 dX6_coinsOfCarts_1 rfl ?_
  refine px_iconst (0) dX6_coinsOfCarts_2 rfl ?_
  refine px_istore_2 dX6_coinsOfCarts_3 rfl ?_
  exact L _ 0 (Nat.zero_add _)
theorem ior0 (a : Int32) : a ||| 0 = a := by simp
def f_mk (p : Nat → Bool) : Nat → Int32
  | 0 => 0
  | n + 1 => f_mk p n ||| (if p n then 1 <<< (nI n &&& 31) else 0)
def f_ra (σ : px_s) (t : Int32) : Int32 := f_mk (fun r => decide (f_at σ r t)) (f_nr σ)
def f_ca (σ : px_s) (t : Int32) : Int32 := f_mk (fun c => decide (σ (94 + 8 * c + 0) = t)) (f_nc σ)
theorem s_X6_roadsAt {t : Int32} (hw : px_wo G T R w) (hA : px_ag I w σ) (hV : px_V σ) : px_K l G 1 mX6_roadsAt ([.ref w, .int t]) ((T, I, J, R)) (some (.int (f_ra σ t))) ((T, I, J, R)) := by
  have hn := ag_n4 hA hV
  have hn14 := hV.1.2.1
  refine px_met (M := mX6_roadsAt) ([some (.ref w), some (.int t), none, none]) (by decide +kernel) rfl (Nat.le_of_ble_eq_true rfl) rfl ?_
  generalize hQ : (fun v m => v = some (Value.int (f_ra σ t)) ∧ m = (T, I, J, R) : Option Value → px_M → Prop) = Q
  have L : ∀ n i, i + n = f_nr σ → (px_W l G yX6_roadsAt cX6_roadsAt 4 (some .int) (px_rm 1 0 0) (px_Fn G Q 0 0) 4 [some (.ref w), some (.int t), some (.int (f_mk (fun r => decide (f_at σ r t)) i)), some (.int (nI i))] [] 0 0 (T, I, J, R)) := by
    intro n
    induction n with
    | zero =>
      intro i hi
      refine px_iload_3 dX6_roadsAt_4 ?_
      refine px_aload_0 dX6_roadsAt_5 ?_
      refine gf_X6_30 rfl dX6_roadsAt_6 (by first | assumption | exact wo_a hw | exact wo_r0 hw | exact wo_r1 hw | exact wo_r2 hw | exact wo_r3 hw | exact wo_a1 hw | exact wo_a2 hw | exact wo_a3 hw | exact wo_a4 hw | exact wo_rr hw (by omega) | exact wo_ra hw (by omega) | exact wo_cr hw (by omega) | exact wo_ca hw (by omega)) ?_
      refine px_icmp_ge (tgt := 37) dX6_roadsAt_9 (by decide) (fun h9 => ?_) (fun h9 => absurd (le_nI hn (by omega) (by omega)) h9)
      refine px_iload_2 dX6_roadsAt_37 ?_
      refine px_iret dX6_roadsAt_38 ?_
      subst hQ; exact ⟨by rw [f_ra, show i = f_nr σ by omega], rfl⟩
    | succ n ih =>
      intro i hi
      have e0 : I (w + 5 + i) 0 = σ (9 + 6 * i + 0) := ag_rd hA (by omega) (by omega)
      have e1 : I (w + 5 + i) 1 = σ (9 + 6 * i + 1) := ag_rd hA (by omega) (by omega)
      have ih2 := ih (i + 1) (by omega)
      refine px_iload_3 dX6_roadsAt_4 ?_
      refine px_aload_0 dX6_roadsAt_5 ?_
      refine gf_X6_30 rfl dX6_roadsAt_6 (by first | assumption | exact wo_a hw | exact wo_r0 hw | exact wo_r1 hw | exact wo_r2 hw | exact wo_r3 hw | exact wo_a1 hw | exact wo_a2 hw | exact wo_a3 hw | exact wo_a4 hw | exact wo_rr hw (by omega) | exact wo_ra hw (by omega) | exact wo_cr hw (by omega) | exact wo_ca hw (by omega)) ?_
      refine px_icmp_ge (tgt := 37) dX6_roadsAt_9 (by decide) (fun h9 => absurd h9 (lt_nle hn (by omega) (by omega))) (fun h9 => ?_)
      refine px_aload_0 dX6_roadsAt_12 ?_
      refine gf_X6_20 rfl dX6_roadsAt_13 (by first | assumption | exact wo_a hw | exact wo_r0 hw | exact wo_r1 hw | exact wo_r2 hw | exact wo_r3 hw | exact wo_a1 hw | exact wo_a2 hw | exact wo_a3 hw | exact wo_a4 hw | exact wo_rr hw (by omega) | exact wo_ra hw (by omega) | exact wo_cr hw (by omega) | exact wo_ca hw (by omega)) (by first | assumption | exact wo_a hw | exact wo_r0 hw | exact wo_r1 hw | exact wo_r2 hw | exact wo_r3 hw | exact wo_a1 hw | exact wo_a2 hw | exact wo_a3 hw | exact wo_a4 hw | exact wo_rr hw (by omega) | exact wo_ra hw (by omega) | exact wo_cr hw (by omega) | exact wo_ca hw (by omega)) ?_
      refine px_iload_3 dX6_roadsAt_16 ?_
      refine px_aaldN dX6_roadsAt_17 (by first | assumption | exact wo_a hw | exact wo_r0 hw | exact wo_r1 hw | exact wo_r2 hw | exact wo_r3 hw | exact wo_a1 hw | exact wo_a2 hw | exact wo_a3 hw | exact wo_a4 hw | exact wo_rr hw (by omega) | exact wo_ra hw (by omega) | exact wo_cr hw (by omega) | exact wo_ca hw (by omega)) (by first | rfl | exact ix_eq (by assumption)) (by first | decide | omega) (by first | assumption | exact wo_a hw | exact wo_r0 hw | exact wo_r1 hw | exact wo_r2 hw | exact wo_r3 hw | exact wo_a1 hw | exact wo_a2 hw | exact wo_a3 hw | exact wo_a4 hw | exact wo_rr hw (by omega) | exact wo_ra hw (by omega) | exact wo_cr hw (by omega) | exact wo_ca hw (by omega)) ?_
      refine px_iload_1 dX6_roadsAt_18 ?_
      refine cd_X6_74 rfl ⟨⟨Nat.le_of_ble_eq_true rfl, Nat.le_of_ble_eq_true rfl⟩, Nat.le_of_ble_eq_true rfl, Nat.le_of_ble_eq_true rfl, Nat.le_of_ble_eq_true rfl⟩ (by first | assumption | exact wo_a hw | exact wo_r0 hw | exact wo_r1 hw | exact wo_r2 hw | exact wo_r3 hw | exact wo_a1 hw | exact wo_a2 hw | exact wo_a3 hw | exact wo_a4 hw | exact wo_rr hw (by omega) | exact wo_ra hw (by omega) | exact wo_cr hw (by omega) | exact wo_ca hw (by omega)) dX6_roadsAt_19 (s_X4_isAt (wo_ra hw (by omega))) ?_
      refine px_ifb_eq (tgt := 31) dX6_roadsAt_22 (by decide) (fun h22 => ?_) (fun h22 => ?_)
      · skip
        refine px_iinc_3 dX6_roadsAt_31 rfl ?_
        refine px_goto (tgt := 4) dX6_roadsAt_34 (by decide) ?_
        rw [inc_nI]; rw [f_mk] at ih2; rw [e0, e1] at h22; first | rw [if_pos (by simpa using h22)] at ih2; exact ih2 | (rw [if_neg (by simpa using h22), ior0] at ih2; exact ih2)
      · skip
        refine px_iload_2 dX6_roadsAt_25 ?_
        refine px_iconst (1) dX6_roadsAt_26 rfl ?_
        refine px_iload_3 dX6_roadsAt_27 ?_
        refine px_ishl dX6_roadsAt_28 ?_
        refine px_ior dX6_roadsAt_29 ?_
        refine px_istore_2 dX6_roadsAt_30 rfl ?_
        refine px_iinc_3 dX6_roadsAt_31 rfl ?_
        refine px_goto (tgt := 4) dX6_roadsAt_34 (by decide) ?_
        rw [inc_nI]; rw [f_mk] at ih2; rw [e0, e1] at h22; first | rw [if_pos (by simpa using h22)] at ih2; exact ih2 | (rw [if_neg (by simpa using h22), ior0] at ih2; exact ih2)
  refine px_iconst (0) dX6_roadsAt_0 rfl ?_
  refine px_istore_2 dX6_roadsAt_1 rfl ?_
  refine px_iconst (0) dX6_roadsAt_2 rfl ?_
  refine px_istore_3 dX6_roadsAt_3 rfl ?_
  exact L _ 0 (Nat.zero_add _)
theorem s_X6_cartsAt {t : Int32} (hw : px_wo G T R w) (hA : px_ag I w σ) (hV : px_V σ) : px_K l G 0 mX6_cartsAt ([.ref w, .int t]) ((T, I, J, R)) (some (.int (f_ca σ t))) ((T, I, J, R)) := by
  have hn := ag_n5 hA hV
  have hn6 := hV.1.2.2.2
  refine px_met (M := mX6_cartsAt) ([some (.ref w), some (.int t), none, none]) (by decide +kernel) rfl (Nat.le_of_ble_eq_true rfl) rfl ?_
  generalize hQ : (fun v m => v = some (Value.int (f_ca σ t)) ∧ m = (T, I, J, R) : Option Value → px_M → Prop) = Q
  have L : ∀ n i, i + n = f_nc σ → (px_W l G yX6_cartsAt cX6_cartsAt 4 (some .int) (px_rm 0 0 0) (px_Fn G Q 0 0) 4 [some (.ref w), some (.int t), some (.int (f_mk (fun c => decide (σ (94 + 8 * c + 0) = t)) i)), some (.int (nI i))] [] 0 0 (T, I, J, R)) := by
    intro n
    induction n with
    | zero =>
      intro i hi
      refine px_iload_3 dX6_cartsAt_4 ?_
      refine px_aload_0 dX6_cartsAt_5 ?_
      refine gf_X6_34 rfl dX6_cartsAt_6 (by first | assumption | exact wo_a hw | exact wo_r0 hw | exact wo_r1 hw | exact wo_r2 hw | exact wo_r3 hw | exact wo_a1 hw | exact wo_a2 hw | exact wo_a3 hw | exact wo_a4 hw | exact wo_rr hw (by omega) | exact wo_ra hw (by omega) | exact wo_cr hw (by omega) | exact wo_ca hw (by omega)) ?_
      refine px_icmp_ge (tgt := 37) dX6_cartsAt_9 (by decide) (fun h9 => ?_) (fun h9 => absurd (le_nI hn (by omega) (by omega)) h9)
      refine px_iload_2 dX6_cartsAt_37 ?_
      refine px_iret dX6_cartsAt_38 ?_
      subst hQ; exact ⟨by rw [f_ca, show i = f_nc σ by omega], rfl⟩
    | succ n ih =>
      intro i hi
      have e0 : I (w + 19 + i) 0 = σ (94 + 8 * i + 0) := ag_ct hA (by omega) (by omega)
      have ih2 := ih (i + 1) (by omega)
      refine px_iload_3 dX6_cartsAt_4 ?_
      refine px_aload_0 dX6_cartsAt_5 ?_
      refine gf_X6_34 rfl dX6_cartsAt_6 (by first | assumption | exact wo_a hw | exact wo_r0 hw | exact wo_r1 hw | exact wo_r2 hw | exact wo_r3 hw | exact wo_a1 hw | exact wo_a2 hw | exact wo_a3 hw | exact wo_a4 hw | exact wo_rr hw (by omega) | exact wo_ra hw (by omega) | exact wo_cr hw (by omega) | exact wo_ca hw (by omega)) ?_
      refine px_icmp_ge (tgt := 37) dX6_cartsAt_9 (by decide) (fun h9 => absurd h9 (lt_nle hn (by omega) (by omega))) (fun h9 => ?_)
      refine px_aload_0 dX6_cartsAt_12 ?_
      refine gf_X6_26 rfl dX6_cartsAt_13 (by first | assumption | exact wo_a hw | exact wo_r0 hw | exact wo_r1 hw | exact wo_r2 hw | exact wo_r3 hw | exact wo_a1 hw | exact wo_a2 hw | exact wo_a3 hw | exact wo_a4 hw | exact wo_rr hw (by omega) | exact wo_ra hw (by omega) | exact wo_cr hw (by omega) | exact wo_ca hw (by omega)) (by first | assumption | exact wo_a hw | exact wo_r0 hw | exact wo_r1 hw | exact wo_r2 hw | exact wo_r3 hw | exact wo_a1 hw | exact wo_a2 hw | exact wo_a3 hw | exact wo_a4 hw | exact wo_rr hw (by omega) | exact wo_ra hw (by omega) | exact wo_cr hw (by omega) | exact wo_ca hw (by omega)) ?_
      refine px_iload_3 dX6_cartsAt_16 ?_
      refine px_aaldN dX6_cartsAt_17 (by first | assumption | exact wo_a hw | exact wo_r0 hw | exact wo_r1 hw | exact wo_r2 hw | exact wo_r3 hw | exact wo_a1 hw | exact wo_a2 hw | exact wo_a3 hw | exact wo_a4 hw | exact wo_rr hw (by omega) | exact wo_ra hw (by omega) | exact wo_cr hw (by omega) | exact wo_ca hw (by omega)) (by first | rfl | exact ix_eq (by assumption)) (by first | decide | omega) (by first | assumption | exact wo_a hw | exact wo_r0 hw | exact wo_r1 hw | exact wo_r2 hw | exact wo_r3 hw | exact wo_a1 hw | exact wo_a2 hw | exact wo_a3 hw | exact wo_a4 hw | exact wo_rr hw (by omega) | exact wo_ra hw (by omega) | exact wo_cr hw (by omega) | exact wo_ca hw (by omega)) ?_
      refine gf_X6_78 rfl dX6_cartsAt_18 (by first | assumption | exact wo_a hw | exact wo_r0 hw | exact wo_r1 hw | exact wo_r2 hw | exact wo_r3 hw | exact wo_a1 hw | exact wo_a2 hw | exact wo_a3 hw | exact wo_a4 hw | exact wo_rr hw (by omega) | exact wo_ra hw (by omega) | exact wo_cr hw (by omega) | exact wo_ca hw (by omega)) ?_
      refine px_iload_1 dX6_cartsAt_21 ?_
      refine px_icmp_ne (tgt := 31) dX6_cartsAt_22 (by decide) (fun h22 => ?_) (fun h22 => ?_)
      · skip
        refine px_iinc_3 dX6_cartsAt_31 rfl ?_
        refine px_goto (tgt := 4) dX6_cartsAt_34 (by decide) ?_
        rw [inc_nI]; rw [f_mk] at ih2; rw [e0] at h22; first | rw [if_pos (by simpa using h22)] at ih2; exact ih2 | (rw [if_neg (by simpa using h22), ior0] at ih2; exact ih2)
      · skip
        refine px_iload_2 dX6_cartsAt_25 ?_
        refine px_iconst (1) dX6_cartsAt_26 rfl ?_
        refine px_iload_3 dX6_cartsAt_27 ?_
        refine px_ishl dX6_cartsAt_28 ?_
        refine px_ior dX6_cartsAt_29 ?_
        refine px_istore_2 dX6_cartsAt_30 rfl ?_
        refine px_iinc_3 dX6_cartsAt_31 rfl ?_
        refine px_goto (tgt := 4) dX6_cartsAt_34 (by decide) ?_
        rw [inc_nI]; rw [f_mk] at ih2; rw [e0] at h22; first | rw [if_pos (by simpa using h22)] at ih2; exact ih2 | (rw [if_neg (by simpa using h22), ior0] at ih2; exact ih2)
  refine px_iconst (0) dX6_cartsAt_0 rfl ?_
  refine px_istore_2 dX6_cartsAt_1 rfl ?_
  refine px_iconst (0) dX6_cartsAt_2 rfl ?_
  refine px_istore_3 dX6_cartsAt_3 rfl ?_
  exact L _ 0 (Nat.zero_add _)
theorem ch_ne {σ : px_s} {g : Int32} : ¬ 100 - f_ch σ g = 0 := by
  unfold f_ch
  intro h
  split at h
  · rename_i q
    have e : σ 143 * g = 100 := by grind
    rw [e] at q
    exact absurd q (by decide)
  · exact absurd h (by decide)
theorem s_X6_chanceR {r : Nat} (hw : px_wo G T R w) (hA : px_ag I w σ) (hV : px_V σ) (hr : r < f_nr σ) : px_K l G 2 mX6_chanceOf ([.ref w, .ref (w + 5 + r)]) ((T, I, J, R)) (some (.int (f_cr σ r))) ((T, I, J, R)) := by
  have h := s_X6_chanceOf (l := l) (I := I) (J := J) hw (wo_ra hw (show r < 14 by have := hV.1.2.1; omega))
  rw [ag_st hA (by decide), ag_rd hA hr (by decide)] at h
  exact h
theorem s_X6_mostHiddenS {p c : Int32} (hw : px_wo G T R w) (hA : px_ag I w σ) (hc : ¬ 100 - c = 0) : px_K l G 0 mX6_mostHidden ([.ref w, .int p, .int c]) ((T, I, J, R)) (some (.int (f_mh σ p c))) ((T, I, J, R)) := by
  have h := s_X6_mostHidden (l := l) (I := I) (J := J) (p := p) hw hc
  rw [ag_st hA (by decide)] at h
  exact h
theorem s_X6_mostAtEnd {r : Nat} {p : Int32} (hw : px_wo G T R w) (hA : px_ag I w σ) (hV : px_V σ) (hr : r < f_nr σ) : px_K l G 3 mX6_mostAtEnd ([.ref w, .ref (w + 5 + r), .int p]) ((T, I, J, R)) (some (.int (f_ma σ r p))) ((T, I, J, R)) := by
  have h14 := hV.1.2.1
  refine px_met (M := mX6_mostAtEnd) ([some (.ref w), some (.ref (w + 5 + r)), some (.int p)]) (by decide +kernel) rfl (Nat.le_of_ble_eq_true rfl) rfl ?_
  refine px_iload_2 dX6_mostAtEnd_0 ?_
  refine px_aload_1 dX6_mostAtEnd_1 ?_
  refine gf_X6_100 rfl dX6_mostAtEnd_2 (by first | assumption | exact wo_a hw | exact wo_r0 hw | exact wo_r1 hw | exact wo_r2 hw | exact wo_r3 hw | exact wo_a1 hw | exact wo_a2 hw | exact wo_a3 hw | exact wo_a4 hw | exact wo_rr hw (by omega) | exact wo_ra hw (by omega) | exact wo_cr hw (by omega) | exact wo_ca hw (by omega)) ?_
  rw [ag_rd hA hr (by decide)]
  refine px_iadd dX6_mostAtEnd_5 ?_
  refine px_aload_0 dX6_mostAtEnd_6 ?_
  refine px_iload_2 dX6_mostAtEnd_7 ?_
  refine px_aload_0 dX6_mostAtEnd_8 ?_
  refine px_aload_1 dX6_mostAtEnd_9 ?_
  refine cd_X6_103 rfl ⟨⟨Nat.le_of_ble_eq_true rfl, Nat.le_of_ble_eq_true rfl⟩, Nat.le_of_ble_eq_true rfl, Nat.le_of_ble_eq_true rfl, Nat.le_of_ble_eq_true rfl⟩ (by first | assumption | exact wo_a hw | exact wo_r0 hw | exact wo_r1 hw | exact wo_r2 hw | exact wo_r3 hw | exact wo_a1 hw | exact wo_a2 hw | exact wo_a3 hw | exact wo_a4 hw | exact wo_rr hw (by omega) | exact wo_ra hw (by omega) | exact wo_cr hw (by omega) | exact wo_ca hw (by omega)) dX6_mostAtEnd_10 (s_X6_chanceR hw hA hV hr) ?_
  refine cd_X6_107 rfl ⟨⟨Nat.le_of_ble_eq_true rfl, Nat.le_of_ble_eq_true rfl⟩, Nat.le_of_ble_eq_true rfl, Nat.le_of_ble_eq_true rfl, Nat.le_of_ble_eq_true rfl⟩ (by first | assumption | exact wo_a hw | exact wo_r0 hw | exact wo_r1 hw | exact wo_r2 hw | exact wo_r3 hw | exact wo_a1 hw | exact wo_a2 hw | exact wo_a3 hw | exact wo_a4 hw | exact wo_rr hw (by omega) | exact wo_ra hw (by omega) | exact wo_cr hw (by omega) | exact wo_ca hw (by omega)) dX6_mostAtEnd_13 (s_X6_mostHiddenS hw hA ch_ne) ?_
  refine cl_X6_90 rfl ⟨Nat.le_of_ble_eq_true rfl, Nat.le_of_ble_eq_true rfl, Nat.le_of_ble_eq_true rfl, Nat.le_of_ble_eq_true rfl⟩ dX6_mostAtEnd_16 ?_
  refine px_iret dX6_mostAtEnd_19 ?_
  exact ⟨rfl, rfl⟩
def f_hon (σ : px_s) (r k : Nat) : Prop := σ (ix (σ (9 + 6 * r + (1 - k)))) ≤ f_ma σ r (σ (ix (σ (9 + 6 * r + k))))
theorem ends_of (hV : px_V σ) {r k : Nat} (hr : r < f_nr σ) (hk : k < 2) : (if σ (9 + 6 * r + 0) = σ (9 + 6 * r + k) then σ (9 + 6 * r + 1) else σ (9 + 6 * r + 0)) = σ (9 + 6 * r + (1 - k)) ∧ (∃ a, a < 8 ∧ σ (9 + 6 * r + k) = nI a) ∧ (∃ a, a < 8 ∧ σ (9 + 6 * r + (1 - k)) = nI a) := by
  obtain ⟨a, b, ha, hb, hab, e1, e2, -⟩ := hV.2.1 r hr
  rcases (by omega : k = 0 ∨ k = 1) with rfl | rfl
  · exact ⟨if_pos rfl, ⟨a, ha, e1⟩, ⟨b, hb, e2⟩⟩
  · refine ⟨if_neg ?_, ⟨b, hb, e2⟩, ⟨a, ha, e1⟩⟩
    rw [e1, e2, nI_eq (by omega) (by omega)]
    exact hab
theorem ix_of_nI {x : Int32} (h : ∃ a, a < 8 ∧ x = nI a) : x = nI (ix x) ∧ ix x < 8 := by
  obtain ⟨a, ha, rfl⟩ := h
  rw [ix_nI (by omega)]
  exact ⟨rfl, ha⟩
theorem s_X6_isHonest {r k : Nat} [Decidable (f_hon σ r k)] (hw : px_wo G T R w) (hA : px_ag I w σ) (hV : px_V σ) (hr : r < f_nr σ) (hk : k < 2) : px_K l G 4 mX6_isHonest ([.ref w, .ref (w + 5 + r), .int (σ (9 + 6 * r + k))]) ((T, I, J, R)) (some (.int (if f_hon σ r k then 1 else 0))) ((T, I, J, R)) := by
  have h14 := hV.1.2.1
  obtain ⟨hf, h1, h2⟩ := ends_of hV hr hk
  obtain ⟨x1, l1⟩ := ix_of_nI h1
  obtain ⟨x2, l2⟩ := ix_of_nI h2
  refine px_met (M := mX6_isHonest) ([some (.ref w), some (.ref (w + 5 + r)), some (.int (σ (9 + 6 * r + k)))]) (by decide +kernel) rfl (Nat.le_of_ble_eq_true rfl) rfl ?_
  refine px_aload_0 dX6_isHonest_0 ?_
  refine gf_X6_15 rfl dX6_isHonest_1 (by first | assumption | exact wo_a hw | exact wo_r0 hw | exact wo_r1 hw | exact wo_r2 hw | exact wo_r3 hw | exact wo_a1 hw | exact wo_a2 hw | exact wo_a3 hw | exact wo_a4 hw | exact wo_rr hw (by omega) | exact wo_ra hw (by omega) | exact wo_cr hw (by omega) | exact wo_ca hw (by omega)) (by first | assumption | exact wo_a hw | exact wo_r0 hw | exact wo_r1 hw | exact wo_r2 hw | exact wo_r3 hw | exact wo_a1 hw | exact wo_a2 hw | exact wo_a3 hw | exact wo_a4 hw | exact wo_rr hw (by omega) | exact wo_ra hw (by omega) | exact wo_cr hw (by omega) | exact wo_ca hw (by omega)) ?_
  refine px_aload_1 dX6_isHonest_4 ?_
  refine px_iload_2 dX6_isHonest_5 ?_
  refine cd_X6_110 rfl ⟨⟨Nat.le_of_ble_eq_true rfl, Nat.le_of_ble_eq_true rfl⟩, Nat.le_of_ble_eq_true rfl, Nat.le_of_ble_eq_true rfl, Nat.le_of_ble_eq_true rfl⟩ (by first | assumption | exact wo_a hw | exact wo_r0 hw | exact wo_r1 hw | exact wo_r2 hw | exact wo_r3 hw | exact wo_a1 hw | exact wo_a2 hw | exact wo_a3 hw | exact wo_a4 hw | exact wo_rr hw (by omega) | exact wo_ra hw (by omega) | exact wo_cr hw (by omega) | exact wo_ca hw (by omega)) dX6_isHonest_6 (s_X4_farFrom (wo_ra hw (by omega))) ?_
  rw [ag_rd hA hr (by decide), ag_rd hA hr (by decide), hf]
  refine px_ialdN dX6_isHonest_9 (by first | assumption | exact wo_a hw | exact wo_r0 hw | exact wo_r1 hw | exact wo_r2 hw | exact wo_r3 hw | exact wo_a1 hw | exact wo_a2 hw | exact wo_a3 hw | exact wo_a4 hw | exact wo_rr hw (by omega) | exact wo_ra hw (by omega) | exact wo_cr hw (by omega) | exact wo_ca hw (by omega)) (by exact x2) (by omega) ?_
  rw [ag_pr hA l2]
  refine px_aload_0 dX6_isHonest_10 ?_
  refine px_aload_1 dX6_isHonest_11 ?_
  refine px_aload_0 dX6_isHonest_12 ?_
  refine gf_X6_15 rfl dX6_isHonest_13 (by first | assumption | exact wo_a hw | exact wo_r0 hw | exact wo_r1 hw | exact wo_r2 hw | exact wo_r3 hw | exact wo_a1 hw | exact wo_a2 hw | exact wo_a3 hw | exact wo_a4 hw | exact wo_rr hw (by omega) | exact wo_ra hw (by omega) | exact wo_cr hw (by omega) | exact wo_ca hw (by omega)) (by first | assumption | exact wo_a hw | exact wo_r0 hw | exact wo_r1 hw | exact wo_r2 hw | exact wo_r3 hw | exact wo_a1 hw | exact wo_a2 hw | exact wo_a3 hw | exact wo_a4 hw | exact wo_rr hw (by omega) | exact wo_ra hw (by omega) | exact wo_cr hw (by omega) | exact wo_ca hw (by omega)) ?_
  refine px_iload_2 dX6_isHonest_16 ?_
  refine px_ialdN dX6_isHonest_17 (by first | assumption | exact wo_a hw | exact wo_r0 hw | exact wo_r1 hw | exact wo_r2 hw | exact wo_r3 hw | exact wo_a1 hw | exact wo_a2 hw | exact wo_a3 hw | exact wo_a4 hw | exact wo_rr hw (by omega) | exact wo_ra hw (by omega) | exact wo_cr hw (by omega) | exact wo_ca hw (by omega)) (by exact x1) (by omega) ?_
  rw [ag_pr hA l1]
  refine cd_X6_113 rfl ⟨⟨Nat.le_of_ble_eq_true rfl, Nat.le_of_ble_eq_true rfl⟩, Nat.le_of_ble_eq_true rfl, Nat.le_of_ble_eq_true rfl, Nat.le_of_ble_eq_true rfl⟩ (by first | assumption | exact wo_a hw | exact wo_r0 hw | exact wo_r1 hw | exact wo_r2 hw | exact wo_r3 hw | exact wo_a1 hw | exact wo_a2 hw | exact wo_a3 hw | exact wo_a4 hw | exact wo_rr hw (by omega) | exact wo_ra hw (by omega) | exact wo_cr hw (by omega) | exact wo_ca hw (by omega)) dX6_isHonest_18 (s_X6_mostAtEnd hw hA hV hr) ?_
  refine px_icmp_gt (tgt := 28) dX6_isHonest_21 (by decide) (fun h21 => ?_) (fun h21 => ?_)
  · skip
    refine px_iconst (0) dX6_isHonest_28 rfl ?_
    refine px_zret dX6_isHonest_29 (by first | rfl | exact px_nb _) ?_
    first | exact ⟨by rw [if_pos (show f_hon σ r k from Int32.not_lt.mp h21)], rfl⟩ | exact ⟨by rw [if_neg (show ¬ f_hon σ r k from Int32.not_le.mpr h21)], rfl⟩
  · skip
    refine px_iconst (1) dX6_isHonest_24 rfl ?_
    refine px_goto (tgt := 29) dX6_isHonest_25 (by decide) ?_
    refine px_zret dX6_isHonest_29 (by first | rfl | exact px_nb _) ?_
    first | exact ⟨by rw [if_pos (show f_hon σ r k from Int32.not_lt.mp h21)], rfl⟩ | exact ⟨by rw [if_neg (show ¬ f_hon σ r k from Int32.not_le.mpr h21)], rfl⟩
end WD

