section CBS
def px_hs (G : px_G) (T : px_T) (R : px_R) (h : Nat) : Prop := px_at G T h 1 0 ∧ R h 0 = some (h + 1) ∧ px_at G T (h + 1) 14 7 ∧ ∀ p, p < 7 → R (h + 1) p = some (h + 2 + 25 * p) ∧ px_wo G T R (h + 2 + 25 * p)
def px_rt (G : px_G) (T : px_T) (R : px_R) (t : Nat) : Prop := px_at G T t 5 0 ∧ R t 1 = some (t + 1) ∧ R t 2 = some (t + 7) ∧ px_at G T (t + 1) 15 5 ∧ (∀ q, q < 5 → R (t + 1) q = some (t + 2 + q) ∧ px_at G T (t + 2 + q) 10 8) ∧ px_at G T (t + 7) 9 14
def px_co (G : px_G) (T : px_T) (R : px_R) (x : Nat) : Prop :=
  (px_at G T x 7 0 ∧ R x 0 = some (x + 1) ∧ R x 1 = some (x + 26) ∧ R x 2 = some (x + 203) ∧ R x 3 = some (x + 204) ∧ R x 4 = some (x + 205) ∧ R x 5 = some (x + 207) ∧ R x 6 = some (x + 208) ∧ R x 7 = some (x + 216) ∧ R x 8 = some (x + 224)) ∧
  px_wo G T R (x + 1) ∧ px_hs G T R (x + 26) ∧ (px_at G T (x + 203) 14 2 ∧ ∀ s, s < 2 → R (x + 203) s = some (x + 225 + 25 * s) ∧ px_wo G T R (x + 225 + 25 * s)) ∧ px_at G T (x + 204) 11 2 ∧
  px_pa G T R (x + 205) ∧ px_re G T R (x + 207) (x + 205) ∧ px_rt G T R (x + 208) ∧ px_rt G T R (x + 216) ∧ px_at G T (x + 224) 9 8
variable {l : Launch} {G : px_G} {T : px_T} {I I' : px_I} {J : px_J} {R : px_R} {μ : px_M} {x h w : Nat} {σ τ : px_s} {A : px_a} {kn : Nat} {H : Nat → px_s}
theorem hs_a (h : px_hs G T R w) : px_at G T w 1 0 := h.1
theorem hs_r (h : px_hs G T R w) : R w 0 = some (w + 1) := h.2.1
theorem hs_ra (h : px_hs G T R w) : px_at G T (w + 1) 14 7 ∧ 12 ≤ 14 ∧ 14 ≤ 15 := ⟨h.2.2.1, by decide, by decide⟩
theorem hs_rr (h : px_hs G T R w) {p : Nat} (hp : p < 7) : R (w + 1) p = some (w + 2 + 25 * p) := (h.2.2.2 p hp).1
theorem hs_w (h : px_hs G T R w) {p : Nat} (hp : p < 7) : px_wo G T R (w + 2 + 25 * p) := (h.2.2.2 p hp).2
theorem co_a (h : px_co G T R x) : px_at G T x 7 0 := h.1.1
theorem co_r0 (h : px_co G T R x) : R x 0 = some (x + 1) := h.1.2.1
theorem co_r1 (h : px_co G T R x) : R x 1 = some (x + 26) := h.1.2.2.1
theorem co_r2 (h : px_co G T R x) : R x 2 = some (x + 203) := h.1.2.2.2.1
theorem co_r3 (h : px_co G T R x) : R x 3 = some (x + 204) := h.1.2.2.2.2.1
theorem co_r4 (h : px_co G T R x) : R x 4 = some (x + 205) := h.1.2.2.2.2.2.1
theorem co_r5 (h : px_co G T R x) : R x 5 = some (x + 207) := h.1.2.2.2.2.2.2.1
theorem co_r6 (h : px_co G T R x) : R x 6 = some (x + 208) := h.1.2.2.2.2.2.2.2.1
theorem co_r7 (h : px_co G T R x) : R x 7 = some (x + 216) := h.1.2.2.2.2.2.2.2.2.1
theorem co_r8 (h : px_co G T R x) : R x 8 = some (x + 224) := h.1.2.2.2.2.2.2.2.2.2
theorem co_wo (h : px_co G T R x) : px_wo G T R (x + 1) := h.2.1
theorem co_w (h : px_co G T R x) : px_at G T (x + 1) 6 0 := wo_a h.2.1
theorem co_hs (h : px_co G T R x) : px_hs G T R (x + 26) := h.2.2.1
theorem co_h (h : px_co G T R x) : px_at G T (x + 26) 1 0 := h.2.2.1.1
theorem co_sl (h : px_co G T R x) : px_at G T (x + 203) 14 2 ∧ 12 ≤ 14 ∧ 14 ≤ 15 := ⟨h.2.2.2.1.1, by decide, by decide⟩
theorem co_sr (h : px_co G T R x) {s : Nat} (hs : s < 2) : R (x + 203) s = some (x + 225 + 25 * s) := (h.2.2.2.1.2 s hs).1
theorem co_sw (h : px_co G T R x) {s : Nat} (hs : s < 2) : px_wo G T R (x + 225 + 25 * s) := (h.2.2.2.1.2 s hs).2
theorem co_sv (h : px_co G T R x) : px_at G T (x + 204) 11 2 := h.2.2.2.2.1
theorem co_pa (h : px_co G T R x) : px_pa G T R (x + 205) := h.2.2.2.2.2.1
theorem co_re (h : px_co G T R x) : px_re G T R (x + 207) (x + 205) := h.2.2.2.2.2.2.1
theorem co_t1 (h : px_co G T R x) : px_rt G T R (x + 208) := h.2.2.2.2.2.2.2.1
theorem co_t2 (h : px_co G T R x) : px_rt G T R (x + 216) := h.2.2.2.2.2.2.2.2.1
theorem co_hp (h : px_co G T R x) : px_at G T (x + 224) 9 8 := h.2.2.2.2.2.2.2.2.2
theorem ag_congr (hA : px_ag I w σ) (hV : px_V σ) (g : ∀ a, w ≤ a → a < w + 25 → I' a = I a) : px_ag I' w σ := by
  obtain ⟨h1, h2, h3, h4, h5, h6⟩ := hA
  have a1 := hV.1.2.1
  have a2 := hV.1.2.2.2
  refine ⟨fun j hj => ?_, fun t ht => ?_, ?_, ?_, fun r hr j hj => ?_, fun c hc j hj => ?_⟩
  · rw [g _ (by omega) (by omega)]; exact h1 j hj
  · rw [g _ (by omega) (by omega)]; exact h2 t ht
  · rw [g _ (by omega) (by omega)]; exact h3
  · rw [g _ (by omega) (by omega)]; exact h4
  · rw [g _ (by omega) (by omega)]; exact h5 r hr j hj
  · rw [g _ (by omega) (by omega)]; exact h6 c hc j hj
theorem ag_mix (hA : px_ag I w σ) (hV : px_V σ) (e : ∀ k, k < 151 → τ k = σ k) : px_ag I w τ := by
  obtain ⟨h1, h2, h3, h4, h5, h6⟩ := hA
  have a1 := hV.1.2.1
  have a2 := hV.1.2.2.2
  have n1 : f_nr τ = f_nr σ := by unfold f_nr; rw [e 8 (by decide)]
  have n2 : f_nc τ = f_nc σ := by unfold f_nc; rw [e 93 (by decide)]
  refine ⟨fun j hj => ?_, fun t ht => ?_, ?_, ?_, fun r hr j hj => ?_, fun c hc j hj => ?_⟩
  · rw [e _ (by omega)]; exact h1 j hj
  · rw [e _ (by omega)]; exact h2 t ht
  · rw [e _ (by omega), e _ (by omega)]; exact h3
  · rw [e _ (by omega), e _ (by omega), e _ (by omega), e _ (by omega), e _ (by omega)]; exact h4
  · rw [n1] at hr
    rw [e _ (by omega)]; exact h5 r hr j hj
  · rw [n2] at hc
    rw [e _ (by omega)]; exact h6 c hc j hj
theorem VV_mix (h : px_VV σ) (e : ∀ k, k < 151 → τ k = σ k) : px_VV τ := by
  obtain ⟨⟨h1, h2, h3, h4, h5, h6, h7⟩, h8⟩ := h
  have n1 : f_nr τ = f_nr σ := by unfold f_nr; rw [e 8 (by decide)]
  have n2 : f_nc τ = f_nc σ := by unfold f_nc; rw [e 93 (by decide)]
  have l1 := h1.2.1
  have l2 := h1.2.2.2
  refine ⟨⟨?_, fun r hr => ?_, fun r j hr hr2 hj => ?_, fun c hc => ?_, fun c j hc hc2 hj => ?_, fun t ht => ?_, ?_⟩, fun c hc => ?_⟩
  · rw [n1, n2, e _ (by omega), e _ (by omega)]; exact h1
  · rw [n1] at hr
    rw [e _ (by omega), e _ (by omega), e _ (by omega), e _ (by omega)]; exact h2 r hr
  · rw [n1] at hr
    rw [e _ (by omega)]; exact h3 r j hr hr2 hj
  · rw [n2] at hc
    rw [e _ (by omega), e _ (by omega)]; exact h4 c hc
  · rw [n2] at hc
    rw [e _ (by omega)]; exact h5 c j hc hc2 hj
  · rw [e _ (by omega)]; exact h6 t ht
  · rw [e _ (by omega), e _ (by omega), e _ (by omega), e _ (by omega)]; exact h7
  · rw [n2] at hc
    rw [e _ (by omega)]; exact h8 c hc
/-! the history of the class: a ring -/
def px_ch (I : px_I) (h kn : Nat) (H : Nat → px_s) : Prop := ∃ o, o < 7 ∧ I h 1 = nI o ∧ I h 2 = nI kn ∧ kn ≤ 6 ∧ ∀ i, i < kn → px_ag I (h + 2 + 25 * ((o + i) % 7)) (H i)
/-- with one state more at its free place -/
def px_ch1 (I : px_I) (h kn : Nat) (H : Nat → px_s) (σ : px_s) : Prop := ∃ o, o < 7 ∧ I h 1 = nI o ∧ I h 2 = nI kn ∧ kn ≤ 6 ∧ (∀ i, i < kn → px_ag I (h + 2 + 25 * ((o + i) % 7)) (H i)) ∧ px_ag I (h + 2 + 25 * ((o + kn) % 7)) σ
theorem ch1_ch (c : px_ch1 I h kn H σ) : px_ch I h kn H := by
  obtain ⟨o, h1, h2, h3, h4, h5, -⟩ := c
  exact ⟨o, h1, h2, h3, h4, h5⟩
theorem ch_congr (c : px_ch I h kn H) (hV : ∀ i, i < kn → px_VV (H i)) (g : ∀ a, h ≤ a → a < h + 177 → I' a = I a) : px_ch I' h kn H := by
  obtain ⟨o, h1, h2, h3, h4, h5⟩ := c
  exact ⟨o, h1, by rw [g _ (by omega) (by omega)]; exact h2, by rw [g _ (by omega) (by omega)]; exact h3, h4, fun i hi => ag_congr (h5 i hi) (hV i hi).1 (fun a a1 a2 => g a (by omega) (by omega))⟩
theorem ch1_congr (c : px_ch1 I h kn H σ) (hV : ∀ i, i < kn → px_VV (H i)) (hs : px_VV σ) (g : ∀ a, h ≤ a → a < h + 177 → I' a = I a) : px_ch1 I' h kn H σ := by
  obtain ⟨o, h1, h2, h3, h4, h5, h6⟩ := c
  exact ⟨o, h1, by rw [g _ (by omega) (by omega)]; exact h2, by rw [g _ (by omega) (by omega)]; exact h3, h4, fun i hi => ag_congr (h5 i hi) (hV i hi).1 (fun a a1 a2 => g a (by omega) (by omega)), ag_congr h6 hs.1 (fun a a1 a2 => g a (by omega) (by omega))⟩
theorem s_X1_placeBehind {v : Int32} {o k : Nat} (ha : px_at G T h 1 0) (h1 : I h 1 = nI o) (e : v = nI k) (hk : o + k < 1000) : px_K l G 0 mX1_placeBehind ([.ref h, .int v]) ((T, I, J, R)) (some (.int (nI ((o + k) % 7)))) ((T, I, J, R)) := by
  subst e
  refine px_met (M := mX1_placeBehind) ([some (.ref h), some (.int (nI k))]) (by decide +kernel) rfl (Nat.le_of_ble_eq_true rfl) rfl ?_
  refine px_aload_0 dX1_placeBehind_0 ?_
  refine gf_X1_17 rfl dX1_placeBehind_1 (by first | assumption | exact co_a hx | exact co_r0 hx | exact co_r1 hx | exact co_r2 hx | exact co_r3 hx | exact co_r4 hx | exact co_r5 hx | exact co_r6 hx | exact co_r7 hx | exact co_r8 hx | exact co_w hx | exact co_h hx | exact hs_a hh | exact hs_r hh | exact hs_ra hh | exact hs_rr hh (by omega)) ?_
  rw [h1]
  refine px_iload_1 dX1_placeBehind_4 ?_
  refine px_iadd dX1_placeBehind_5 ?_
  rw [nI_add]
  refine px_bipush (7) dX1_placeBehind_6 rfl ?_
  refine px_irem dX1_placeBehind_8 (by decide) ?_
  rw [show nI (o + k) - nI (o + k) / 7 * 7 = nI ((o + k) % 7) from pk_rem (d := 7) (by omega) (by decide) (by decide)]
  refine px_iret dX1_placeBehind_9 ?_
  exact ⟨rfl, rfl⟩
def px_Q2 (T : px_T) (I : px_I) (J : px_J) (R : px_R) (lo hi : Nat) (P : px_I → Prop) : Option Value → px_M → Prop := fun v μ' => ∃ I' : px_I, μ' = (T, I', J, R) ∧ v = none ∧ P I' ∧ ∀ a, (a < lo ∨ hi ≤ a) → I' a = I a
theorem s_X1_keepInMind (hh : px_hs G T R h) (hw : px_wo G T R w) (hd : w + 25 ≤ h) (c : px_ch I h kn H) (hVH : ∀ i, i < kn → px_VV (H i)) (hA : px_ag I w σ) (hV : px_V σ) : px_C l G 2 0 0 mX1_keepInMind [.ref h, .ref w] (T, I, J, R) (px_Q2 T I J R (h + 2) (h + 177) (fun I' => px_ch1 I' h kn H σ)) := by
  obtain ⟨o, h1, h2, h3, h4, h5⟩ := c
  have hp : (o + kn) % 7 < 7 := Nat.mod_lt _ (by decide)
  refine px_met (M := mX1_keepInMind) ([some (.ref h), some (.ref w)]) (by decide +kernel) rfl (Nat.le_of_ble_eq_true rfl) rfl ?_
  refine px_aload_0 dX1_keepInMind_0 ?_
  refine gf_X1_11 rfl dX1_keepInMind_1 (by first | assumption | exact co_a hx | exact co_r0 hx | exact co_r1 hx | exact co_r2 hx | exact co_r3 hx | exact co_r4 hx | exact co_r5 hx | exact co_r6 hx | exact co_r7 hx | exact co_r8 hx | exact co_w hx | exact co_h hx | exact hs_a hh | exact hs_r hh | exact hs_ra hh | exact hs_rr hh (by omega)) (by first | assumption | exact co_a hx | exact co_r0 hx | exact co_r1 hx | exact co_r2 hx | exact co_r3 hx | exact co_r4 hx | exact co_r5 hx | exact co_r6 hx | exact co_r7 hx | exact co_r8 hx | exact co_w hx | exact co_h hx | exact hs_a hh | exact hs_r hh | exact hs_ra hh | exact hs_rr hh (by omega)) ?_
  refine px_aload_0 dX1_keepInMind_4 ?_
  refine px_aload_0 dX1_keepInMind_5 ?_
  refine gf_X1_21 rfl dX1_keepInMind_6 (by first | assumption | exact co_a hx | exact co_r0 hx | exact co_r1 hx | exact co_r2 hx | exact co_r3 hx | exact co_r4 hx | exact co_r5 hx | exact co_r6 hx | exact co_r7 hx | exact co_r8 hx | exact co_w hx | exact co_h hx | exact hs_a hh | exact hs_r hh | exact hs_ra hh | exact hs_rr hh (by omega)) ?_
  refine cd_X1_25 rfl ⟨⟨Nat.le_of_ble_eq_true rfl, Nat.le_of_ble_eq_true rfl⟩, Nat.le_of_ble_eq_true rfl, Nat.le_of_ble_eq_true rfl, Nat.le_of_ble_eq_true rfl⟩ (by first | assumption | exact co_a hx | exact co_r0 hx | exact co_r1 hx | exact co_r2 hx | exact co_r3 hx | exact co_r4 hx | exact co_r5 hx | exact co_r6 hx | exact co_r7 hx | exact co_r8 hx | exact co_w hx | exact co_h hx | exact hs_a hh | exact hs_r hh | exact hs_ra hh | exact hs_rr hh (by omega)) dX1_keepInMind_9 (s_X1_placeBehind (hs_a hh) h2 h3 (by omega)) ?_
  refine px_aaldN dX1_keepInMind_12 (by first | assumption | exact co_a hx | exact co_r0 hx | exact co_r1 hx | exact co_r2 hx | exact co_r3 hx | exact co_r4 hx | exact co_r5 hx | exact co_r6 hx | exact co_r7 hx | exact co_r8 hx | exact co_w hx | exact co_h hx | exact hs_a hh | exact hs_r hh | exact hs_ra hh | exact hs_rr hh (by omega)) (by exact rfl) (by omega) (by first | assumption | exact co_a hx | exact co_r0 hx | exact co_r1 hx | exact co_r2 hx | exact co_r3 hx | exact co_r4 hx | exact co_r5 hx | exact co_r6 hx | exact co_r7 hx | exact co_r8 hx | exact co_w hx | exact co_h hx | exact hs_a hh | exact hs_r hh | exact hs_ra hh | exact hs_rr hh (by omega)) ?_
  refine px_aload_1 dX1_keepInMind_13 ?_
  refine cg_X1_29 rfl ⟨⟨Nat.le_of_ble_eq_true rfl, Nat.le_of_ble_eq_true rfl⟩, Nat.le_of_ble_eq_true rfl, Nat.le_of_ble_eq_true rfl, Nat.le_of_ble_eq_true rfl⟩ (by exact wo_a (hs_w hh hp)) dX1_keepInMind_14 (s_X6_copyFrom (hs_w hh hp) hw (by omega) hA hV) ?_
  rintro v μ' ⟨I', rfl, rfl, k1, k2⟩
  refine px_vret dX1_keepInMind_17 ?_
  skip
  refine ⟨I', rfl, rfl, ⟨o, h1, by rw [k2 _ (by omega)]; exact h2, by rw [k2 _ (by omega)]; exact h3, h4, fun i hi => ag_congr (h5 i hi) (hVH i hi).1 (fun a a1 a2 => k2 a (by omega)), k1⟩, fun a ha => k2 a (by omega)⟩
theorem s_X1_record (hh : px_hs G T R h) (c : px_ch1 I h kn H σ) (hVH : ∀ i, i < kn → px_VV (H i)) (hV : px_VV σ) : px_C l G 1 0 0 mX1_record [.ref h] (T, I, J, R) (px_Q2 T I J R h (h + 1) (fun I' => px_ch I' h (h_push kn H σ).1 (h_push kn H σ).2)) := by
  obtain ⟨o, h1, h2, h3, h4, h5, g6⟩ := c
  have e3 : ∀ k v, ∀ a, a ≠ h → px_up I h k v a = I a := fun k v a ha => px_up_ne ha
  have hpl := s_X1_placeBehind (l := l) (J := J) (R := R) (k := 1) (v := 1) (hs_a hh) h2 rfl (by omega)
  refine px_met (M := mX1_record) ([some (.ref h)]) (by decide +kernel) rfl (Nat.le_of_ble_eq_true rfl) rfl ?_
  by_cases hk : kn = 6
  · have hp : h_push kn H σ = (6, fun i => if i < 5 then H (i + 1) else σ) := if_pos hk
    rw [hp]
    subst hk
    refine px_aload_0 dX1_record_0 ?_
    refine gf_X1_21 rfl dX1_record_1 (by first | assumption | exact co_a hx | exact co_r0 hx | exact co_r1 hx | exact co_r2 hx | exact co_r3 hx | exact co_r4 hx | exact co_r5 hx | exact co_r6 hx | exact co_r7 hx | exact co_r8 hx | exact co_w hx | exact co_h hx | exact hs_a hh | exact hs_r hh | exact hs_ra hh | exact hs_rr hh (by omega)) ?_
    rw [h3]
    refine px_bipush (6) dX1_record_4 rfl ?_
    refine px_icmp_ge (tgt := 22) dX1_record_6 (by decide) (fun h6 => ?_) (fun h6 => (by first | exact absurd ((by decide)) h6 | exact absurd h6 ((by decide))))
    refine px_aload_0 dX1_record_22 ?_
    refine px_aload_0 dX1_record_23 ?_
    refine px_iconst (1) dX1_record_24 rfl ?_
    refine cd_X1_25 rfl ⟨⟨Nat.le_of_ble_eq_true rfl, Nat.le_of_ble_eq_true rfl⟩, Nat.le_of_ble_eq_true rfl, Nat.le_of_ble_eq_true rfl, Nat.le_of_ble_eq_true rfl⟩ (by first | assumption | exact co_a hx | exact co_r0 hx | exact co_r1 hx | exact co_r2 hx | exact co_r3 hx | exact co_r4 hx | exact co_r5 hx | exact co_r6 hx | exact co_r7 hx | exact co_r8 hx | exact co_w hx | exact co_h hx | exact hs_a hh | exact hs_r hh | exact hs_ra hh | exact hs_rr hh (by omega)) dX1_record_25 (hpl) ?_
    refine pf_X1_17 rfl dX1_record_28 (by first | assumption | exact co_a hx | exact co_r0 hx | exact co_r1 hx | exact co_r2 hx | exact co_r3 hx | exact co_r4 hx | exact co_r5 hx | exact co_r6 hx | exact co_r7 hx | exact co_r8 hx | exact co_w hx | exact co_h hx | exact hs_a hh | exact hs_r hh | exact hs_ra hh | exact hs_rr hh (by omega)) ?_
    refine px_vret dX1_record_31 ?_
    skip
    refine ⟨_, rfl, rfl, ⟨(o + 1) % 7, Nat.mod_lt _ (by decide), px_up_self _ _ _ _, by rw [px_up_nj (by decide)]; exact h3, Nat.le_refl _, fun i hi => ?_⟩, fun a ha => px_up_ne (by omega)⟩
    dsimp only
    rw [show ((o + 1) % 7 + i) % 7 = (o + (i + 1)) % 7 by omega]
    split
    · exact ag_congr (h5 (i + 1) (by omega)) (hVH (i + 1) (by omega)).1 (fun a a1 a2 => px_up_ne (by omega))
    · rw [show i + 1 = 6 by omega]
      exact ag_congr g6 hV.1 (fun a a1 a2 => px_up_ne (by omega))
  · have hp : h_push kn H σ = (kn + 1, fun i => if i < kn then H i else σ) := if_neg hk
    rw [hp]
    refine px_aload_0 dX1_record_0 ?_
    refine gf_X1_21 rfl dX1_record_1 (by first | assumption | exact co_a hx | exact co_r0 hx | exact co_r1 hx | exact co_r2 hx | exact co_r3 hx | exact co_r4 hx | exact co_r5 hx | exact co_r6 hx | exact co_r7 hx | exact co_r8 hx | exact co_w hx | exact co_h hx | exact hs_a hh | exact hs_r hh | exact hs_ra hh | exact hs_rr hh (by omega)) ?_
    rw [h3]
    refine px_bipush (6) dX1_record_4 rfl ?_
    refine px_icmp_ge (tgt := 22) dX1_record_6 (by decide) (fun h6 => (by first | exact absurd h6 ((nI_ge (b := 6) (by omega) (by omega))) | exact absurd ((nI_ge (b := 6) (by omega) (by omega))) h6)) (fun h6 => ?_)
    refine px_aload_0 dX1_record_9 ?_
    refine px_dup dX1_record_10 rfl ?_
    refine gf_X1_21 rfl dX1_record_11 (by first | assumption | exact co_a hx | exact co_r0 hx | exact co_r1 hx | exact co_r2 hx | exact co_r3 hx | exact co_r4 hx | exact co_r5 hx | exact co_r6 hx | exact co_r7 hx | exact co_r8 hx | exact co_w hx | exact co_h hx | exact hs_a hh | exact hs_r hh | exact hs_ra hh | exact hs_rr hh (by omega)) ?_
    rw [h3]
    refine px_iconst (1) dX1_record_14 rfl ?_
    refine px_iadd dX1_record_15 ?_
    rw [nI_1]
    refine pf_X1_21 rfl dX1_record_16 (by first | assumption | exact co_a hx | exact co_r0 hx | exact co_r1 hx | exact co_r2 hx | exact co_r3 hx | exact co_r4 hx | exact co_r5 hx | exact co_r6 hx | exact co_r7 hx | exact co_r8 hx | exact co_w hx | exact co_h hx | exact hs_a hh | exact hs_r hh | exact hs_ra hh | exact hs_rr hh (by omega)) ?_
    refine px_goto (tgt := 31) dX1_record_19 (by decide) ?_
    refine px_vret dX1_record_31 ?_
    skip
    refine ⟨_, rfl, rfl, ⟨o, h1, by rw [px_up_nj (by decide)]; exact h2, px_up_self _ _ _ _, by show kn + 1 ≤ 6; omega, fun i hi => ?_⟩, fun a ha => px_up_ne (by omega)⟩
    dsimp only at hi ⊢
    split
    · rename_i z
      exact ag_congr (h5 i z) (hVH i z).1 (fun a a1 a2 => px_up_ne (by omega))
    · rename_i z
      obtain rfl : i = kn := by omega
      exact ag_congr g6 hV.1 (fun a a1 a2 => px_up_ne (by omega))
/-! the whole state of the class's object -/
def px_C0 (I : px_I) (x : Nat) (A : px_a) : Prop := (∀ s, s < 2 → I (x + 204) s = if A.2.2.1.1 s = true then 1 else 0) ∧ (∀ s, s < 2 → A.2.2.1.1 s = true → px_ag I (x + 225 + 25 * s) (A.2.2.1.2 s)) ∧ px_cp I (x + 205) A.2.2.2 ∧ I (x + 208) 0 = 0 ∧ I (x + 216) 0 = 1
def px_CI (I : px_I) (x : Nat) (A : px_a) : Prop := px_ag I (x + 1) A.1 ∧ px_ch I (x + 26) A.2.1.1 A.2.1.2 ∧ px_C0 I x A
def px_Qx (T : px_T) (I : px_I) (J : px_J) (R : px_R) (x : Nat) (w : Value) (A : px_a) : Option Value → px_M → Prop := fun v μ' => v = some w ∧ ∃ (I' : px_I) (J' : px_J), μ' = (T, I', J', R) ∧ px_CI I' x A ∧ (∀ a, (a < x ∨ x + 275 ≤ a) → I' a = I a) ∧ ∀ a, (a < x ∨ x + 275 ≤ a) → J' a = J a
theorem C0_congr (c : px_C0 I x A) (hV : px_AV A) (g : ∀ a, x + 203 ≤ a → a < x + 275 → I' a = I a) : px_C0 I' x A := by
  obtain ⟨h1, h2, h3, h4, h5⟩ := c
  refine ⟨fun s hs => ?_, fun s hs hk => ?_, ?_, ?_, ?_⟩
  · rw [g _ (by omega) (by omega)]; exact h1 s hs
  · exact ag_congr (h2 s hs hk) (hV.2.2 s hs hk).1 (fun a a1 a2 => g a (by omega) (by omega))
  · exact cp_congr h3 (g _ (by omega) (by omega)) (g _ (by omega) (by omega))
  · rw [g _ (by omega) (by omega)]; exact h4
  · rw [g _ (by omega) (by omega)]; exact h5
theorem s_X7_recorded {v : Int32} (hx : px_co G T R x) (c : px_ch1 I (x + 26) kn H σ) (hVH : ∀ i, i < kn → px_VV (H i)) (hV : px_VV σ) : px_C l G 2 0 0 mX7_recorded [.ref x, .int v] (T, I, J, R) (fun u μ' => u = some (.int v) ∧ if v < 0 then μ' = (T, I, J, R) else px_Q2 T I J R (x + 26) (x + 27) (fun I' => px_ch I' (x + 26) (h_push kn H σ).1 (h_push kn H σ).2) none μ') := by
  refine px_met (M := mX7_recorded) ([some (.ref x), some (.int v)]) (by decide +kernel) rfl (Nat.le_of_ble_eq_true rfl) rfl ?_
  by_cases hv : v < 0
  · skip
    refine px_iload_1 dX7_recorded_0 ?_
    refine px_if_lt (tgt := 11) dX7_recorded_1 (by decide) (fun h1 => ?_) (fun h1 => (by first | exact absurd (hv) h1 | exact absurd h1 (hv)))
    refine px_iload_1 dX7_recorded_11 ?_
    refine px_iret dX7_recorded_12 ?_
    exact ⟨rfl, by rw [if_pos hv]⟩
  · skip
    refine px_iload_1 dX7_recorded_0 ?_
    refine px_if_lt (tgt := 11) dX7_recorded_1 (by decide) (fun h1 => (by first | exact absurd h1 (hv) | exact absurd (hv) h1)) (fun h1 => ?_)
    refine px_aload_0 dX7_recorded_4 ?_
    refine gf_X7_19 rfl dX7_recorded_5 (by first | assumption | exact co_a hx | exact co_r0 hx | exact co_r1 hx | exact co_r2 hx | exact co_r3 hx | exact co_r4 hx | exact co_r5 hx | exact co_r6 hx | exact co_r7 hx | exact co_r8 hx | exact co_w hx | exact co_h hx | exact hs_a hh | exact hs_r hh | exact hs_ra hh | exact hs_rr hh (by omega)) (by first | assumption | exact co_a hx | exact co_r0 hx | exact co_r1 hx | exact co_r2 hx | exact co_r3 hx | exact co_r4 hx | exact co_r5 hx | exact co_r6 hx | exact co_r7 hx | exact co_r8 hx | exact co_w hx | exact co_h hx | exact hs_a hh | exact hs_r hh | exact hs_ra hh | exact hs_rr hh (by omega)) ?_
    refine cg_X7_324 rfl ⟨⟨Nat.le_of_ble_eq_true rfl, Nat.le_of_ble_eq_true rfl⟩, Nat.le_of_ble_eq_true rfl, Nat.le_of_ble_eq_true rfl, Nat.le_of_ble_eq_true rfl⟩ (by first | assumption | exact co_a hx | exact co_r0 hx | exact co_r1 hx | exact co_r2 hx | exact co_r3 hx | exact co_r4 hx | exact co_r5 hx | exact co_r6 hx | exact co_r7 hx | exact co_r8 hx | exact co_w hx | exact co_h hx | exact hs_a hh | exact hs_r hh | exact hs_ra hh | exact hs_rr hh (by omega)) dX7_recorded_8 (s_X1_record (co_hs hx) c hVH hV) ?_
    rintro u μ' ⟨I', rfl, rfl, k1, k2⟩
    refine px_iload_1 dX7_recorded_11 ?_
    refine px_iret dX7_recorded_12 ?_
    exact ⟨rfl, by rw [if_neg hv]; exact ⟨I', rfl, rfl, k1, k2⟩⟩
/-- behind a change of the class: kept in mind, the change itself, recorded -/
theorem cchg_end (h : px_CI I x A) (hV : px_AV A) {q : Int32 × px_s} (he : q.1 < 0 → q.2 = A.1) (hVq : px_VV q.2) {I1 I2 : px_I} (f1 : ∀ a, (a < x + 26 + 2 ∨ x + 26 + 177 ≤ a) → I1 a = I a) (c1 : px_ch1 I1 (x + 26) A.2.1.1 A.2.1.2 A.1) (hA2 : px_ag I2 (x + 1) q.2) (f2 : ∀ a, (a < x + 1 ∨ x + 1 + 25 ≤ a) → I2 a = I1 a) {u : Option Value} {μ' : px_M}
    (hu : u = some (.int q.1) ∧ if q.1 < 0 then μ' = (T, I2, J, R) else px_Q2 T I2 J R (x + 26) (x + 27) (fun I' => px_ch I' (x + 26) (h_push A.2.1.1 A.2.1.2 A.1).1 (h_push A.2.1.1 A.2.1.2 A.1).2) none μ') : px_Qx T I J R x (.int q.1) (a_chg A q) u μ' := by
  obtain ⟨hu1, hu2⟩ := hu
  obtain ⟨h1, h2, h3⟩ := h
  refine ⟨hu1, ?_⟩
  by_cases hv : q.1 < 0
  · rw [if_pos hv] at hu2
    rw [a_chg, if_pos hv]
    rw [he hv] at hA2
    refine ⟨I2, J, hu2, ⟨hA2, ?_, ?_⟩, fun a ha => by rw [f2 a (by omega), f1 a (by omega)], fun a ha => rfl⟩
    · exact ch_congr (ch1_ch c1) hV.2.1 (fun a a1 a2 => f2 a (by omega))
    · exact C0_congr h3 hV (fun a a1 a2 => by rw [f2 a (by omega), f1 a (by omega)])
  · rw [if_neg hv] at hu2
    rw [a_chg, if_neg hv]
    obtain ⟨I3, e, -, k1, k2⟩ := hu2
    refine ⟨I3, J, e, ⟨ag_congr hA2 hVq.1 (fun a a1 a2 => k2 a (by omega)), k1, ?_⟩, fun a ha => by rw [k2 a (by omega), f2 a (by omega), f1 a (by omega)], fun a ha => rfl⟩
    exact C0_congr (I := I) (A := A) h3 hV (fun a a1 a2 => by rw [k2 a (by omega), f2 a (by omega), f1 a (by omega)])
end CBS
