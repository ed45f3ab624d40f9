section MH
variable {l : Launch} {G : px_G} {T : px_T} {I : px_I} {J : px_J} {R : px_R} {μ : px_M} {m : Nat}
/-- the first n places of row a are those of f (from its place b on), the others as they were -/
def px_cpf (I : px_I) (a b n : Nat) (f : Nat → Int32) : px_I := fun c => if c = a then fun j => if b ≤ j ∧ j < b + n then f (j - b) else I a j else I c
theorem px_cpf_0 {a b : Nat} {f : Nat → Int32} : px_cpf I a b 0 f = I := by
  funext c j
  unfold px_cpf
  by_cases h : c = a
  · rw [if_pos h, if_neg (by omega), h]
  · rw [if_neg h]
theorem px_cpf_s {a b n : Nat} {f : Nat → Int32} : px_up (px_cpf I a b n f) a (b + n) (f n) = px_cpf I a b (n + 1) f := by
  funext c j
  rw [px_up_at]
  unfold px_cpf
  by_cases h : c = a
  · subst h
    simp only [if_true]
    by_cases hj : j = b + n
    · subst hj
      simp
    · rw [if_neg (by omega)]
      by_cases q : b ≤ j ∧ j < b + n
      · rw [if_pos q, if_pos (by omega)]
      · rw [if_neg q, if_neg (by omega)]
  · rw [if_neg (fun q => h q.1), if_neg h, if_neg h]
theorem px_cpf_ne {a b n c : Nat} {f : Nat → Int32} (h : c ≠ a) : px_cpf I a b n f c = I c := if_neg h
theorem px_cpf_in {a b n j : Nat} {f : Nat → Int32} (h : b ≤ j ∧ j < b + n) : px_cpf I a b n f a j = f (j - b) := by unfold px_cpf; rw [if_pos rfl, if_pos h]
theorem px_cpf_out {a b n j : Nat} {f : Nat → Int32} (h : ¬ (b ≤ j ∧ j < b + n)) : px_cpf I a b n f a j = I a j := by unfold px_cpf; rw [if_pos rfl, if_neg h]
theorem s_X8_putAside (hm : px_mo G T R m) : px_K l G 0 mX8_putAside ([.ref m]) ((T, I, J, R)) (none) ((T, px_cpf I (m + 2) 0 151 (I (m + 1)), J, R)) := by
  refine px_met (M := mX8_putAside) ([some (.ref m), none]) (by decide +kernel) rfl (Nat.le_of_ble_eq_true rfl) rfl ?_
  generalize hQ : (fun v m_1 => v = none ∧ m_1 = (T, px_cpf I (m + 2) 0 151 (I (m + 1)), J, R) : Option Value → px_M → Prop) = Q
  have L : ∀ n i, i + n = 151 → (px_W l G yX8_putAside cX8_putAside 2 none (px_rm 0 0 0) (px_Fn G Q 0 0) 2 [some (.ref m), some (.int (nI i))] [] 0 0 (T, px_cpf I (m + 2) 0 i (I (m + 1)), J, R)) := by
    intro n
    induction n with
    | zero =>
      intro i hi
      refine px_iload_1 dX8_putAside_2 ?_
      refine px_sipush (151) dX8_putAside_3 rfl ?_
      refine px_icmp_ge (tgt := 27) dX8_putAside_6 (by decide) (fun h6 => ?_) (fun h6 => (by first | exact absurd ((le_nI (n := 151) rfl (by omega) (by omega))) h6 | exact absurd h6 ((le_nI (n := 151) rfl (by omega) (by omega)))))
      refine px_vret dX8_putAside_27 ?_
      subst hQ; exact ⟨rfl, by rw [show i = 151 by omega]⟩
    | succ n ih =>
      intro i hi
      refine px_iload_1 dX8_putAside_2 ?_
      refine px_sipush (151) dX8_putAside_3 rfl ?_
      refine px_icmp_ge (tgt := 27) dX8_putAside_6 (by decide) (fun h6 => (by first | exact absurd h6 ((lt_nle (n := 151) rfl (by omega) (by omega))) | exact absurd ((lt_nle (n := 151) rfl (by omega) (by omega))) h6)) (fun h6 => ?_)
      refine px_aload_0 dX8_putAside_9 ?_
      refine gf_X8_13 rfl dX8_putAside_10 (by first | assumption | exact mo_a hm | exact mo_r0 hm | exact mo_r1 hm | exact mo_r2 hm | exact mo_r4 hm | exact mo_r6 hm | exact mo_r8 hm | exact mo_a1 hm | exact mo_a2 hm | exact mo_a3 hm | exact mo_a4 hm | exact mo_a5 hm | exact mo_a6 hm) (by first | assumption | exact mo_a hm | exact mo_r0 hm | exact mo_r1 hm | exact mo_r2 hm | exact mo_r4 hm | exact mo_r6 hm | exact mo_r8 hm | exact mo_a1 hm | exact mo_a2 hm | exact mo_a3 hm | exact mo_a4 hm | exact mo_a5 hm | exact mo_a6 hm) ?_
      refine px_iload_1 dX8_putAside_13 ?_
      refine px_aload_0 dX8_putAside_14 ?_
      refine gf_X8_7 rfl dX8_putAside_15 (by first | assumption | exact mo_a hm | exact mo_r0 hm | exact mo_r1 hm | exact mo_r2 hm | exact mo_r4 hm | exact mo_r6 hm | exact mo_r8 hm | exact mo_a1 hm | exact mo_a2 hm | exact mo_a3 hm | exact mo_a4 hm | exact mo_a5 hm | exact mo_a6 hm) (by first | assumption | exact mo_a hm | exact mo_r0 hm | exact mo_r1 hm | exact mo_r2 hm | exact mo_r4 hm | exact mo_r6 hm | exact mo_r8 hm | exact mo_a1 hm | exact mo_a2 hm | exact mo_a3 hm | exact mo_a4 hm | exact mo_a5 hm | exact mo_a6 hm) ?_
      refine px_iload_1 dX8_putAside_18 ?_
      refine px_ialdN dX8_putAside_19 (by first | assumption | exact mo_a hm | exact mo_r0 hm | exact mo_r1 hm | exact mo_r2 hm | exact mo_r4 hm | exact mo_r6 hm | exact mo_r8 hm | exact mo_a1 hm | exact mo_a2 hm | exact mo_a3 hm | exact mo_a4 hm | exact mo_a5 hm | exact mo_a6 hm) (by first | rfl | exact ix_eq (by assumption)) (by first | decide | omega) ?_
      rw [px_cpf_ne (by omega)]
      refine px_iastN dX8_putAside_20 (by first | assumption | exact mo_a hm | exact mo_r0 hm | exact mo_r1 hm | exact mo_r2 hm | exact mo_r4 hm | exact mo_r6 hm | exact mo_r8 hm | exact mo_a1 hm | exact mo_a2 hm | exact mo_a3 hm | exact mo_a4 hm | exact mo_a5 hm | exact mo_a6 hm) (by first | rfl | exact ix_eq (by assumption)) (by first | decide | omega) ?_
      rw [show px_up (px_cpf I (m + 2) 0 i (I (m + 1))) (m + 2) i (I (m + 1) i) = px_cpf I (m + 2) 0 (i + 1) (I (m + 1)) by rw [← px_cpf_s, Nat.zero_add]]
      refine px_iinc_1 dX8_putAside_21 rfl ?_
      refine px_goto (tgt := 2) dX8_putAside_24 (by decide) ?_
      rw [inc_nI]; exact ih (i + 1) (by omega)
  refine px_iconst (0) dX8_putAside_0 rfl ?_
  refine px_istore_1 dX8_putAside_1 rfl ?_
  have L0 := L _ 0 (Nat.zero_add _); rw [px_cpf_0] at L0; exact L0
theorem s_X8_putBack (hm : px_mo G T R m) : px_K l G 0 mX8_putBack ([.ref m]) ((T, I, J, R)) (none) ((T, px_cpf I (m + 1) 0 151 (I (m + 2)), J, R)) := by
  refine px_met (M := mX8_putBack) ([some (.ref m), none]) (by decide +kernel) rfl (Nat.le_of_ble_eq_true rfl) rfl ?_
  generalize hQ : (fun v m_1 => v = none ∧ m_1 = (T, px_cpf I (m + 1) 0 151 (I (m + 2)), J, R) : Option Value → px_M → Prop) = Q
  have L : ∀ n i, i + n = 151 → (px_W l G yX8_putBack cX8_putBack 2 none (px_rm 0 0 0) (px_Fn G Q 0 0) 2 [some (.ref m), some (.int (nI i))] [] 0 0 (T, px_cpf I (m + 1) 0 i (I (m + 2)), J, R)) := by
    intro n
    induction n with
    | zero =>
      intro i hi
      refine px_iload_1 dX8_putBack_2 ?_
      refine px_sipush (151) dX8_putBack_3 rfl ?_
      refine px_icmp_ge (tgt := 27) dX8_putBack_6 (by decide) (fun h6 => ?_) (fun h6 => (by first | exact absurd ((le_nI (n := 151) rfl (by omega) (by omega))) h6 | exact absurd h6 ((le_nI (n := 151) rfl (by omega) (by omega)))))
      refine px_vret dX8_putBack_27 ?_
      subst hQ; exact ⟨rfl, by rw [show i = 151 by omega]⟩
    | succ n ih =>
      intro i hi
      refine px_iload_1 dX8_putBack_2 ?_
      refine px_sipush (151) dX8_putBack_3 rfl ?_
      refine px_icmp_ge (tgt := 27) dX8_putBack_6 (by decide) (fun h6 => (by first | exact absurd h6 ((lt_nle (n := 151) rfl (by omega) (by omega))) | exact absurd ((lt_nle (n := 151) rfl (by omega) (by omega))) h6)) (fun h6 => ?_)
      refine px_aload_0 dX8_putBack_9 ?_
      refine gf_X8_7 rfl dX8_putBack_10 (by first | assumption | exact mo_a hm | exact mo_r0 hm | exact mo_r1 hm | exact mo_r2 hm | exact mo_r4 hm | exact mo_r6 hm | exact mo_r8 hm | exact mo_a1 hm | exact mo_a2 hm | exact mo_a3 hm | exact mo_a4 hm | exact mo_a5 hm | exact mo_a6 hm) (by first | assumption | exact mo_a hm | exact mo_r0 hm | exact mo_r1 hm | exact mo_r2 hm | exact mo_r4 hm | exact mo_r6 hm | exact mo_r8 hm | exact mo_a1 hm | exact mo_a2 hm | exact mo_a3 hm | exact mo_a4 hm | exact mo_a5 hm | exact mo_a6 hm) ?_
      refine px_iload_1 dX8_putBack_13 ?_
      refine px_aload_0 dX8_putBack_14 ?_
      refine gf_X8_13 rfl dX8_putBack_15 (by first | assumption | exact mo_a hm | exact mo_r0 hm | exact mo_r1 hm | exact mo_r2 hm | exact mo_r4 hm | exact mo_r6 hm | exact mo_r8 hm | exact mo_a1 hm | exact mo_a2 hm | exact mo_a3 hm | exact mo_a4 hm | exact mo_a5 hm | exact mo_a6 hm) (by first | assumption | exact mo_a hm | exact mo_r0 hm | exact mo_r1 hm | exact mo_r2 hm | exact mo_r4 hm | exact mo_r6 hm | exact mo_r8 hm | exact mo_a1 hm | exact mo_a2 hm | exact mo_a3 hm | exact mo_a4 hm | exact mo_a5 hm | exact mo_a6 hm) ?_
      refine px_iload_1 dX8_putBack_18 ?_
      refine px_ialdN dX8_putBack_19 (by first | assumption | exact mo_a hm | exact mo_r0 hm | exact mo_r1 hm | exact mo_r2 hm | exact mo_r4 hm | exact mo_r6 hm | exact mo_r8 hm | exact mo_a1 hm | exact mo_a2 hm | exact mo_a3 hm | exact mo_a4 hm | exact mo_a5 hm | exact mo_a6 hm) (by first | rfl | exact ix_eq (by assumption)) (by first | decide | omega) ?_
      rw [px_cpf_ne (by omega)]
      refine px_iastN dX8_putBack_20 (by first | assumption | exact mo_a hm | exact mo_r0 hm | exact mo_r1 hm | exact mo_r2 hm | exact mo_r4 hm | exact mo_r6 hm | exact mo_r8 hm | exact mo_a1 hm | exact mo_a2 hm | exact mo_a3 hm | exact mo_a4 hm | exact mo_a5 hm | exact mo_a6 hm) (by first | rfl | exact ix_eq (by assumption)) (by first | decide | omega) ?_
      rw [show px_up (px_cpf I (m + 1) 0 i (I (m + 2))) (m + 1) i (I (m + 2) i) = px_cpf I (m + 1) 0 (i + 1) (I (m + 2)) by rw [← px_cpf_s, Nat.zero_add]]
      refine px_iinc_1 dX8_putBack_21 rfl ?_
      refine px_goto (tgt := 2) dX8_putBack_24 (by decide) ?_
      rw [inc_nI]; exact ih (i + 1) (by omega)
  refine px_iconst (0) dX8_putBack_0 rfl ?_
  refine px_istore_1 dX8_putBack_1 rfl ?_
  have L0 := L _ 0 (Nat.zero_add _); rw [px_cpf_0] at L0; exact L0
/-- the history with one state more -/
def h_push (kn : Nat) (H : Nat → px_s) (σ : px_s) : Nat × (Nat → px_s) := if kn = 6 then (6, fun i => if i < 5 then H (i + 1) else σ) else (kn + 1, fun i => if i < kn then H i else σ)
def px_hi (I : px_I) (m kn : Nat) (H : Nat → px_s) : Prop := I m 3 = nI kn ∧ kn ≤ 6 ∧ ∀ i, i < kn → ∀ k, k < 151 → I (m + 3) (151 * i + k) = H i k
def px_Qr (T : px_T) (I : px_I) (J : px_J) (R : px_R) (m : Nat) (q : Nat × (Nat → px_s)) : Option Value → px_M → Prop := fun v μ' => ∃ I' : px_I, μ' = (T, I', J, R) ∧ v = none ∧ px_hi I' m q.1 q.2 ∧ (∀ a, a ≠ m → a ≠ m + 3 → I' a = I a) ∧ ∀ j, j ≠ 3 → I' m j = I m j
theorem h_push_le (kn : Nat) (H : Nat → px_s) (σ : px_s) (h : kn ≤ 6) : (h_push kn H σ).1 ≤ 6 := by
  unfold h_push
  split
  · exact Nat.le_refl _
  · show kn + 1 ≤ 6; omega
theorem s_X8_record {kn : Nat} {H : Nat → px_s} (hm : px_mo G T R m) (hh : px_hi I m kn H) : px_C l G 0 0 0 mX8_record [.ref m] (T, I, J, R) (px_Qr T I J R m (h_push kn H (I (m + 2)))) := by
  obtain ⟨hk, hk6, hH⟩ := hh
  refine px_met (M := mX8_record) ([some (.ref m), none]) (by decide +kernel) rfl (Nat.le_of_ble_eq_true rfl) rfl ?_
  generalize hQ : px_Qr T I J R m (h_push kn H (I (m + 2))) = Q
  -- behind the shift: the aside row goes to place kk
  have L : ∀ (I1 : px_I) (kk : Nat), kk < 6 → I1 m 3 = nI kk → I1 (m + 2) = I (m + 2) → (∀ a, a ≠ m → a ≠ m + 3 → I1 a = I a) → (∀ j, j ≠ 3 → I1 m j = I m j) → (h_push kn H (I (m + 2))).1 = kk + 1 → (∀ i, i < kk → ∀ k, k < 151 → I1 (m + 3) (151 * i + k) = (h_push kn H (I (m + 2))).2 i k) → (h_push kn H (I (m + 2))).2 kk = I (m + 2) → ∀ n i, i + n = 151 → (px_W l G yX8_record cX8_record 2 none (px_rm 0 0 0) (px_Fn G Q 0 0) 52 [some (.ref m), some (.int (nI i))] [] 0 0 (T, px_cpf I1 (m + 3) (151 * kk) i (I (m + 2)), J, R)) := by
    intro I1 kk hkk e3 e2 g1 g2 p1 p2 p3 n
    induction n with
    | zero =>
      intro i hi
      obtain rfl : i = 151 := by omega
      refine px_iload_1 dX8_record_52 ?_
      refine px_sipush (151) dX8_record_53 rfl ?_
      refine px_icmp_ge (tgt := 86) dX8_record_56 (by decide) (fun h56 => ?_) (fun h56 => (by first | exact absurd ((le_nI (n := 151) rfl (by omega) (by omega))) h56 | exact absurd h56 ((le_nI (n := 151) rfl (by omega) (by omega)))))
      refine px_aload_0 dX8_record_86 ?_
      refine px_dup dX8_record_87 rfl ?_
      refine gf_X8_33 rfl dX8_record_88 (by first | assumption | exact mo_a hm | exact mo_r0 hm | exact mo_r1 hm | exact mo_r2 hm | exact mo_r4 hm | exact mo_r6 hm | exact mo_r8 hm | exact mo_a1 hm | exact mo_a2 hm | exact mo_a3 hm | exact mo_a4 hm | exact mo_a5 hm | exact mo_a6 hm) ?_
      rw [px_cpf_ne (by omega), e3]
      refine px_iconst (1) dX8_record_91 rfl ?_
      refine px_iadd dX8_record_92 ?_
      refine pf_X8_33 rfl dX8_record_93 (by first | assumption | exact mo_a hm | exact mo_r0 hm | exact mo_r1 hm | exact mo_r2 hm | exact mo_r4 hm | exact mo_r6 hm | exact mo_r8 hm | exact mo_a1 hm | exact mo_a2 hm | exact mo_a3 hm | exact mo_a4 hm | exact mo_a5 hm | exact mo_a6 hm) ?_
      refine px_vret dX8_record_96 ?_
      subst hQ; refine ⟨_, rfl, rfl, ⟨?_, ?_, fun i hi k hk => ?_⟩, fun a h1 h2 => ?_, fun j hj => ?_⟩
      · rw [px_up_self, p1]; exact nI_1 kk
      · rw [p1]; omega
      · rw [p1] at hi
        rw [px_up_ne (by omega)]
        by_cases q : i = kk
        · subst q
          rw [px_cpf_in (by omega), show 151 * i + k - 151 * i = k by omega, p3]
        · rw [px_cpf_out (by omega)]; exact p2 i (by omega) k hk
      · rw [px_up_ne h1, px_cpf_ne h2]; exact g1 a h1 h2
      · rw [px_up_nj hj, px_cpf_ne (by omega)]; exact g2 j hj
    | succ n ih =>
      intro i hi
      refine px_iload_1 dX8_record_52 ?_
      refine px_sipush (151) dX8_record_53 rfl ?_
      refine px_icmp_ge (tgt := 86) dX8_record_56 (by decide) (fun h56 => (by first | exact absurd h56 ((lt_nle (n := 151) rfl (by omega) (by omega))) | exact absurd ((lt_nle (n := 151) rfl (by omega) (by omega))) h56)) (fun h56 => ?_)
      refine px_aload_0 dX8_record_59 ?_
      refine gf_X8_16 rfl dX8_record_60 (by first | assumption | exact mo_a hm | exact mo_r0 hm | exact mo_r1 hm | exact mo_r2 hm | exact mo_r4 hm | exact mo_r6 hm | exact mo_r8 hm | exact mo_a1 hm | exact mo_a2 hm | exact mo_a3 hm | exact mo_a4 hm | exact mo_a5 hm | exact mo_a6 hm) (by first | assumption | exact mo_a hm | exact mo_r0 hm | exact mo_r1 hm | exact mo_r2 hm | exact mo_r4 hm | exact mo_r6 hm | exact mo_r8 hm | exact mo_a1 hm | exact mo_a2 hm | exact mo_a3 hm | exact mo_a4 hm | exact mo_a5 hm | exact mo_a6 hm) ?_
      refine px_sipush (151) dX8_record_63 rfl ?_
      refine px_aload_0 dX8_record_66 ?_
      refine gf_X8_33 rfl dX8_record_67 (by first | assumption | exact mo_a hm | exact mo_r0 hm | exact mo_r1 hm | exact mo_r2 hm | exact mo_r4 hm | exact mo_r6 hm | exact mo_r8 hm | exact mo_a1 hm | exact mo_a2 hm | exact mo_a3 hm | exact mo_a4 hm | exact mo_a5 hm | exact mo_a6 hm) ?_
      rw [px_cpf_ne (by omega), e3]
      refine px_imul dX8_record_70 ?_
      refine px_iload_1 dX8_record_71 ?_
      refine px_iadd dX8_record_72 ?_
      refine px_aload_0 dX8_record_73 ?_
      refine gf_X8_13 rfl dX8_record_74 (by first | assumption | exact mo_a hm | exact mo_r0 hm | exact mo_r1 hm | exact mo_r2 hm | exact mo_r4 hm | exact mo_r6 hm | exact mo_r8 hm | exact mo_a1 hm | exact mo_a2 hm | exact mo_a3 hm | exact mo_a4 hm | exact mo_a5 hm | exact mo_a6 hm) (by first | assumption | exact mo_a hm | exact mo_r0 hm | exact mo_r1 hm | exact mo_r2 hm | exact mo_r4 hm | exact mo_r6 hm | exact mo_r8 hm | exact mo_a1 hm | exact mo_a2 hm | exact mo_a3 hm | exact mo_a4 hm | exact mo_a5 hm | exact mo_a6 hm) ?_
      refine px_iload_1 dX8_record_77 ?_
      refine px_ialdN dX8_record_78 (by first | assumption | exact mo_a hm | exact mo_r0 hm | exact mo_r1 hm | exact mo_r2 hm | exact mo_r4 hm | exact mo_r6 hm | exact mo_r8 hm | exact mo_a1 hm | exact mo_a2 hm | exact mo_a3 hm | exact mo_a4 hm | exact mo_a5 hm | exact mo_a6 hm) (by first | rfl | exact ix_eq (by assumption)) (by first | decide | omega) ?_
      rw [px_cpf_ne (by omega), e2]
      refine px_iastN dX8_record_79 (by first | assumption | exact mo_a hm | exact mo_r0 hm | exact mo_r1 hm | exact mo_r2 hm | exact mo_r4 hm | exact mo_r6 hm | exact mo_r8 hm | exact mo_a1 hm | exact mo_a2 hm | exact mo_a3 hm | exact mo_a4 hm | exact mo_a5 hm | exact mo_a6 hm) (by exact (show (151 : Int32) * nI kk + nI i = nI (151 * kk + i) by rw [show (151 : Int32) * nI kk = nI 151 * nI kk from rfl, pk_mul, nI_add])) (by omega) ?_
      rw [px_cpf_s]
      refine px_iinc_1 dX8_record_80 rfl ?_
      refine px_goto (tgt := 52) dX8_record_83 (by decide) ?_
      rw [inc_nI]; exact ih (i + 1) (by omega)
  by_cases h6 : kn = 6
  · subst h6
    have hp : h_push 6 H (I (m + 2)) = (6, fun i => if i < 5 then H (i + 1) else I (m + 2)) := by unfold h_push; rw [if_pos rfl]
    have L1 : ∀ n i, i + n = 755 → (px_W l G yX8_record cX8_record 2 none (px_rm 0 0 0) (px_Fn G Q 0 0) 11 [some (.ref m), some (.int (nI i))] [] 0 0 (T, px_cpf I (m + 3) 0 i (fun j => I (m + 3) (j + 151)), J, R)) := by
      intro n
      induction n with
      | zero =>
        intro i hi
        obtain rfl : i = 755 := by omega
        refine px_iload_1 dX8_record_11 ?_
        refine px_sipush (755) dX8_record_12 rfl ?_
        refine px_icmp_ge (tgt := 40) dX8_record_15 (by decide) (fun h15 => ?_) (fun h15 => (by first | exact absurd ((le_nI (n := 755) rfl (by omega) (by omega))) h15 | exact absurd h15 ((le_nI (n := 755) rfl (by omega) (by omega)))))
        refine px_aload_0 dX8_record_40 ?_
        refine px_dup dX8_record_41 rfl ?_
        refine gf_X8_33 rfl dX8_record_42 (by first | assumption | exact mo_a hm | exact mo_r0 hm | exact mo_r1 hm | exact mo_r2 hm | exact mo_r4 hm | exact mo_r6 hm | exact mo_r8 hm | exact mo_a1 hm | exact mo_a2 hm | exact mo_a3 hm | exact mo_a4 hm | exact mo_a5 hm | exact mo_a6 hm) ?_
        rw [px_cpf_ne (by omega), hk]
        refine px_iconst (1) dX8_record_45 rfl ?_
        refine px_isub dX8_record_46 ?_
        refine pf_X8_33 rfl dX8_record_47 (by first | assumption | exact mo_a hm | exact mo_r0 hm | exact mo_r1 hm | exact mo_r2 hm | exact mo_r4 hm | exact mo_r6 hm | exact mo_r8 hm | exact mo_a1 hm | exact mo_a2 hm | exact mo_a3 hm | exact mo_a4 hm | exact mo_a5 hm | exact mo_a6 hm) ?_
        refine px_iconst (0) dX8_record_50 rfl ?_
        refine px_istore_1 dX8_record_51 rfl ?_
        skip
        have L0 := L (px_up (px_cpf I (m + 3) 0 755 (fun j => I (m + 3) (j + 151))) m 3 (nI 6 - 1)) 5 (by decide) (px_up_self _ _ _ _) (by rw [px_up_ne (by omega), px_cpf_ne (by omega)]) (fun a h1 h2 => by rw [px_up_ne h1, px_cpf_ne h2]) (fun j hj => by rw [px_up_nj hj, px_cpf_ne (by omega)]) (by rw [hp]) (fun i hi k hk => by
          rw [hp, px_up_ne (by omega), px_cpf_in (by omega)]
          dsimp only
          rw [if_pos hi, show 151 * i + k - 0 + 151 = 151 * (i + 1) + k by omega]
          exact hH (i + 1) (by omega) k hk) (by rw [hp]; rfl) 151 0 (by decide)
        rw [px_cpf_0] at L0
        exact L0
      | succ n ih =>
        intro i hi
        refine px_iload_1 dX8_record_11 ?_
        refine px_sipush (755) dX8_record_12 rfl ?_
        refine px_icmp_ge (tgt := 40) dX8_record_15 (by decide) (fun h15 => (by first | exact absurd h15 ((lt_nle (n := 755) rfl (by omega) (by omega))) | exact absurd ((lt_nle (n := 755) rfl (by omega) (by omega))) h15)) (fun h15 => ?_)
        refine px_aload_0 dX8_record_18 ?_
        refine gf_X8_16 rfl dX8_record_19 (by first | assumption | exact mo_a hm | exact mo_r0 hm | exact mo_r1 hm | exact mo_r2 hm | exact mo_r4 hm | exact mo_r6 hm | exact mo_r8 hm | exact mo_a1 hm | exact mo_a2 hm | exact mo_a3 hm | exact mo_a4 hm | exact mo_a5 hm | exact mo_a6 hm) (by first | assumption | exact mo_a hm | exact mo_r0 hm | exact mo_r1 hm | exact mo_r2 hm | exact mo_r4 hm | exact mo_r6 hm | exact mo_r8 hm | exact mo_a1 hm | exact mo_a2 hm | exact mo_a3 hm | exact mo_a4 hm | exact mo_a5 hm | exact mo_a6 hm) ?_
        refine px_iload_1 dX8_record_22 ?_
        refine px_aload_0 dX8_record_23 ?_
        refine gf_X8_16 rfl dX8_record_24 (by first | assumption | exact mo_a hm | exact mo_r0 hm | exact mo_r1 hm | exact mo_r2 hm | exact mo_r4 hm | exact mo_r6 hm | exact mo_r8 hm | exact mo_a1 hm | exact mo_a2 hm | exact mo_a3 hm | exact mo_a4 hm | exact mo_a5 hm | exact mo_a6 hm) (by first | assumption | exact mo_a hm | exact mo_r0 hm | exact mo_r1 hm | exact mo_r2 hm | exact mo_r4 hm | exact mo_r6 hm | exact mo_r8 hm | exact mo_a1 hm | exact mo_a2 hm | exact mo_a3 hm | exact mo_a4 hm | exact mo_a5 hm | exact mo_a6 hm) ?_
        refine px_iload_1 dX8_record_27 ?_
        refine px_sipush (151) dX8_record_28 rfl ?_
        refine px_iadd dX8_record_31 ?_
        refine px_ialdN dX8_record_32 (by first | assumption | exact mo_a hm | exact mo_r0 hm | exact mo_r1 hm | exact mo_r2 hm | exact mo_r4 hm | exact mo_r6 hm | exact mo_r8 hm | exact mo_a1 hm | exact mo_a2 hm | exact mo_a3 hm | exact mo_a4 hm | exact mo_a5 hm | exact mo_a6 hm) (by exact (show nI i + 151 = nI (i + 151) from nI_add i 151)) (by omega) ?_
        rw [px_cpf_out (by omega)]
        refine px_iastN dX8_record_33 (by first | assumption | exact mo_a hm | exact mo_r0 hm | exact mo_r1 hm | exact mo_r2 hm | exact mo_r4 hm | exact mo_r6 hm | exact mo_r8 hm | exact mo_a1 hm | exact mo_a2 hm | exact mo_a3 hm | exact mo_a4 hm | exact mo_a5 hm | exact mo_a6 hm) (by first | rfl | exact ix_eq (by assumption)) (by first | decide | omega) ?_
        rw [show px_up (px_cpf I (m + 3) 0 i (fun j => I (m + 3) (j + 151))) (m + 3) i (I (m + 3) (i + 151)) = px_cpf I (m + 3) 0 (i + 1) (fun j => I (m + 3) (j + 151)) by rw [← px_cpf_s, Nat.zero_add]]
        refine px_iinc_1 dX8_record_34 rfl ?_
        refine px_goto (tgt := 11) dX8_record_37 (by decide) ?_
        rw [inc_nI]; exact ih (i + 1) (by omega)
    refine px_aload_0 dX8_record_0 ?_
    refine gf_X8_33 rfl dX8_record_1 (by first | assumption | exact mo_a hm | exact mo_r0 hm | exact mo_r1 hm | exact mo_r2 hm | exact mo_r4 hm | exact mo_r6 hm | exact mo_r8 hm | exact mo_a1 hm | exact mo_a2 hm | exact mo_a3 hm | exact mo_a4 hm | exact mo_a5 hm | exact mo_a6 hm) ?_
    rw [hk]
    refine px_bipush (6) dX8_record_4 rfl ?_
    refine px_icmp_ne (tgt := 50) dX8_record_6 (by decide) (fun h6 => (by first | exact absurd h6 (rfl) | exact absurd (rfl) h6)) (fun h6 => ?_)
    refine px_iconst (0) dX8_record_9 rfl ?_
    refine px_istore_1 dX8_record_10 rfl ?_
    have L0 := L1 _ 0 (Nat.zero_add _); rw [px_cpf_0] at L0; exact L0
  · have hp : h_push kn H (I (m + 2)) = (kn + 1, fun i => if i < kn then H i else I (m + 2)) := by unfold h_push; rw [if_neg h6]
    have hne : ¬ nI kn = 6 := by rw [show (6 : Int32) = nI 6 from rfl, nI_eq (by omega) (by omega)]; exact h6
    have L0 := L I kn (by omega) hk rfl (fun _ _ _ => rfl) (fun _ _ => rfl) (by rw [hp]) (fun i hi k hk => by rw [hp]; dsimp only; rw [if_pos hi]; exact hH i hi k hk) (by rw [hp]; dsimp only; rw [if_neg (Nat.lt_irrefl _)]) 151 0 (by decide)
    rw [px_cpf_0] at L0
    refine px_aload_0 dX8_record_0 ?_
    refine gf_X8_33 rfl dX8_record_1 (by first | assumption | exact mo_a hm | exact mo_r0 hm | exact mo_r1 hm | exact mo_r2 hm | exact mo_r4 hm | exact mo_r6 hm | exact mo_r8 hm | exact mo_a1 hm | exact mo_a2 hm | exact mo_a3 hm | exact mo_a4 hm | exact mo_a5 hm | exact mo_a6 hm) ?_
    rw [hk]
    refine px_bipush (6) dX8_record_4 rfl ?_
    refine px_icmp_ne (tgt := 50) dX8_record_6 (by decide) (fun h6 => ?_) (fun h6 => (by first | exact absurd (hne) h6 | exact absurd h6 (hne)))
    refine px_iconst (0) dX8_record_50 rfl ?_
    refine px_istore_1 dX8_record_51 rfl ?_
    exact L0
theorem s_X8_changed {kn : Nat} {H : Nat → px_s} {v : Int32} (hm : px_mo G T R m) (hh : px_hi I m kn H) : px_C l G 1 0 0 mX8_changed [.ref m, .int v] (T, I, J, R) (fun u μ' => u = some (.int v) ∧ (if v < 0 then μ' = (T, I, J, R) else px_Qr T I J R m (h_push kn H (I (m + 2))) none μ')) := by
  refine px_met (M := mX8_changed) ([some (.ref m), some (.int v)]) (by decide +kernel) rfl (Nat.le_of_ble_eq_true rfl) rfl ?_
  by_cases hv : v < 0
  · skip
    refine px_iload_1 dX8_changed_0 ?_
    refine px_if_lt (tgt := 8) dX8_changed_1 (by decide) (fun h1 => ?_) (fun h1 => (by first | exact absurd (hv) h1 | exact absurd h1 (hv)))
    refine px_iload_1 dX8_changed_8 ?_
    refine px_iret dX8_changed_9 ?_
    exact ⟨rfl, by rw [if_pos hv]⟩
  · skip
    refine px_iload_1 dX8_changed_0 ?_
    refine px_if_lt (tgt := 8) dX8_changed_1 (by decide) (fun h1 => (by first | exact absurd h1 (hv) | exact absurd (hv) h1)) (fun h1 => ?_)
    refine px_aload_0 dX8_changed_4 ?_
    refine cg_X8_37 rfl ⟨⟨Nat.le_of_ble_eq_true rfl, Nat.le_of_ble_eq_true rfl⟩, Nat.le_of_ble_eq_true rfl, Nat.le_of_ble_eq_true rfl, Nat.le_of_ble_eq_true rfl⟩ (by first | assumption | exact mo_a hm | exact mo_r0 hm | exact mo_r1 hm | exact mo_r2 hm | exact mo_r4 hm | exact mo_r6 hm | exact mo_r8 hm | exact mo_a1 hm | exact mo_a2 hm | exact mo_a3 hm | exact mo_a4 hm | exact mo_a5 hm | exact mo_a6 hm) dX8_changed_5 (s_X8_record hm hh) ?_
    rintro u m' hq; obtain ⟨I', rfl, rfl, hr⟩ := id hq
    refine px_iload_1 dX8_changed_8 ?_
    refine px_iret dX8_changed_9 ?_
    exact ⟨rfl, by rw [if_neg hv]; exact hq⟩
end MH

