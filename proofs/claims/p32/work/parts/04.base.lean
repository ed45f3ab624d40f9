/-! rows with indices as naturals, conditions that are propositions, and the shapes of the objects -/
section PB
variable {l : Launch} {G : px_G} {y : MethodName} {cc : ByteArray} {nL : Nat} {ret : Option FieldType} {Rm : Room} {Fn : List Frame → Array Value → State → State → Prop} {pc : Nat} {ls : List (Option Value)} {st : List Value} {k n : Nat} {μ : px_M} {T : px_T} {I : px_I} {J : px_J} {R : px_R}
theorem px_clp {j : Nat} (h : j < 1000) : (nI j).toNatClampNeg = j := nI_clamp (by omega)
theorem px_ialdN {a w j : Nat} {i : Int32} (d : decode cc pc = .ok (.iaload, 1)) (ha : px_at G T a 9 w) (hj : i = nI j) (hlt : j < w ∧ w < 1000) (h : px_W l G y cc nL ret Rm Fn (pc + 1) ls (.int (I a j) :: st) k n (T, I, J, R)) : px_W l G y cc nL ret Rm Fn pc ls (.int i :: .ref a :: st) k n (T, I, J, R) := by
  subst hj
  refine px_iald d ha (vp_in_nI hlt.1 (by omega)) ?_
  rw [px_clp (by omega)]
  exact h
theorem px_laldN {a w j : Nat} {i : Int32} (d : decode cc pc = .ok (.laload, 1)) (ha : px_at G T a 10 w) (hj : i = nI j) (hlt : j < w ∧ w < 1000) (h : px_W l G y cc nL ret Rm Fn (pc + 1) ls (.long (J a j) :: st) k n (T, I, J, R)) : px_W l G y cc nL ret Rm Fn pc ls (.int i :: .ref a :: st) k n (T, I, J, R) := by
  subst hj
  refine px_lald d ha (vp_in_nI hlt.1 (by omega)) ?_
  rw [px_clp (by omega)]
  exact h
theorem px_zaldN {a w j : Nat} {i : Int32} (d : decode cc pc = .ok (.baload, 1)) (ha : px_at G T a 11 w) (hj : i = nI j) (hlt : j < w ∧ w < 1000) (h : px_W l G y cc nL ret Rm Fn (pc + 1) ls (.int (I a j) :: st) k n (T, I, J, R)) : px_W l G y cc nL ret Rm Fn pc ls (.int i :: .ref a :: st) k n (T, I, J, R) := by
  subst hj
  refine px_zald d ha (vp_in_nI hlt.1 (by omega)) ?_
  rw [px_clp (by omega)]
  exact h
theorem px_aaldN {a b c w j : Nat} {i : Int32} (d : decode cc pc = .ok (.aaload, 1)) (ha : px_at G T a c w ∧ 12 ≤ c ∧ c ≤ 15) (hj : i = nI j) (hlt : j < w ∧ w < 1000) (hv : R a j = some b) (h : px_W l G y cc nL ret Rm Fn (pc + 1) ls (.ref b :: st) k n (T, I, J, R)) : px_W l G y cc nL ret Rm Fn pc ls (.int i :: .ref a :: st) k n (T, I, J, R) := by
  subst hj
  obtain ⟨ha, h1, h2⟩ := ha
  have hi := vp_in_nI hlt.1 (show w < 2 ^ 31 by omega)
  have hv' : R a (nI j).toNatClampNeg = some b := by rw [px_clp (by omega)]; exact hv
  rcases (by omega : c = 12 ∨ c = 13 ∨ c = 14 ∨ c = 15) with rfl | rfl | rfl | rfl
  · exact px_aald12 d ha hi hv' h
  · exact px_aald13 d ha hi hv' h
  · exact px_aald14 d ha hi hv' h
  · exact px_aald15 d ha hi hv' h
theorem px_iastN {a w j : Nat} {i x : Int32} (d : decode cc pc = .ok (.iastore, 1)) (ha : px_at G T a 9 w) (hj : i = nI j) (hlt : j < w ∧ w < 1000) (h : px_W l G y cc nL ret Rm Fn (pc + 1) ls st k n (T, px_up I a j x, J, R)) : px_W l G y cc nL ret Rm Fn pc ls (.int x :: .int i :: .ref a :: st) k n (T, I, J, R) := by
  subst hj
  refine px_iast d ha (vp_in_nI hlt.1 (by omega)) ?_
  rw [px_clp (by omega)]
  exact h
theorem px_lastN {a w j : Nat} {i : Int32} {x : Int64} (d : decode cc pc = .ok (.lastore, 1)) (ha : px_at G T a 10 w) (hj : i = nI j) (hlt : j < w ∧ w < 1000) (h : px_W l G y cc nL ret Rm Fn (pc + 1) ls st k n (T, I, px_up J a j x, R)) : px_W l G y cc nL ret Rm Fn pc ls (.long x :: .int i :: .ref a :: st) k n (T, I, J, R) := by
  subst hj
  refine px_last d ha (vp_in_nI hlt.1 (by omega)) ?_
  rw [px_clp (by omega)]
  exact h
theorem px_zastN {a w j : Nat} {i x : Int32} (d : decode cc pc = .ok (.bastore, 1)) (ha : px_at G T a 11 w) (hj : i = nI j) (hlt : j < w ∧ w < 1000) (h : px_W l G y cc nL ret Rm Fn (pc + 1) ls st k n (T, px_up I a j (vp_nar .boolean x), J, R)) : px_W l G y cc nL ret Rm Fn pc ls (.int x :: .int i :: .ref a :: st) k n (T, I, J, R) := by
  subst hj
  refine px_zast d ha (vp_in_nI hlt.1 (by omega)) ?_
  rw [px_clp (by omega)]
  exact h
theorem px_b0 {P : Prop} [Decidable P] : ((if P then 1 else 0 : Int32) = 0) ↔ ¬ P := by
  by_cases h : P
  · rw [if_pos h]; exact ⟨fun q => absurd q (by decide), fun q => absurd h q⟩
  · rw [if_neg h]; exact ⟨fun _ => h, fun _ => rfl⟩
theorem px_nb (P : Prop) [Decidable P] : narrow .boolean (.int (if P then 1 else 0)) = .int (if P then 1 else 0) := by
  by_cases h : P
  · rw [if_pos h]; rfl
  · rw [if_neg h]; rfl
theorem px_ifb_eq {P : Prop} [Decidable P] {off : Int} {tgt : Nat} (d : decode cc pc = .ok (.ifCond .eq off, 3)) (ht : (pc : Int) + off = (tgt : Int)) (kt : ¬ P → px_W l G y cc nL ret Rm Fn tgt ls st k n μ) (kf : P → px_W l G y cc nL ret Rm Fn (pc + 3) ls st k n μ) : px_W l G y cc nL ret Rm Fn pc ls (.int (if P then 1 else 0) :: st) k n μ :=
  px_if_eq d ht (fun q => kt (px_b0.mp q)) (fun q => kf (Classical.byContradiction fun z => q (px_b0.mpr z)))
theorem px_ifb_ne {P : Prop} [Decidable P] {off : Int} {tgt : Nat} (d : decode cc pc = .ok (.ifCond .ne off, 3)) (ht : (pc : Int) + off = (tgt : Int)) (kt : P → px_W l G y cc nL ret Rm Fn tgt ls st k n μ) (kf : ¬ P → px_W l G y cc nL ret Rm Fn (pc + 3) ls st k n μ) : px_W l G y cc nL ret Rm Fn pc ls (.int (if P then 1 else 0) :: st) k n μ :=
  px_if_ne d ht (fun q => kt (Classical.byContradiction fun z => q (px_b0.mpr z))) (fun q => kf (px_b0.mp q))
theorem px_lc_le {a b : Int64} {off : Int} {tgt : Nat} (d : decode cc pc = .ok (.ifCond .le off, 3)) (ht : (pc : Int) + off = (tgt : Int)) (kt : a ≤ b → px_W l G y cc nL ret Rm Fn tgt ls st k n μ) (kf : ¬ a ≤ b → px_W l G y cc nL ret Rm Fn (pc + 3) ls st k n μ) : px_W l G y cc nL ret Rm Fn pc ls (.int (lg_cmp a b) :: st) k n μ :=
  px_if_le d ht (fun q => kt ((lg_cmp_le a b).mp q)) (fun q => kf (fun z => q ((lg_cmp_le a b).mpr z)))
theorem px_lc_ne {a b : Int64} {off : Int} {tgt : Nat} (d : decode cc pc = .ok (.ifCond .ne off, 3)) (ht : (pc : Int) + off = (tgt : Int)) (kt : ¬ a = b → px_W l G y cc nL ret Rm Fn tgt ls st k n μ) (kf : a = b → px_W l G y cc nL ret Rm Fn (pc + 3) ls st k n μ) : px_W l G y cc nL ret Rm Fn pc ls (.int (lg_cmp a b) :: st) k n μ :=
  px_if_ne d ht (fun q => kt (fun z => q ((lg_cmp_eq a b).mpr z))) (fun q => kf ((lg_cmp_eq a b).mp q))
theorem px_lc_eq {a b : Int64} {off : Int} {tgt : Nat} (d : decode cc pc = .ok (.ifCond .eq off, 3)) (ht : (pc : Int) + off = (tgt : Int)) (kt : a = b → px_W l G y cc nL ret Rm Fn tgt ls st k n μ) (kf : ¬ a = b → px_W l G y cc nL ret Rm Fn (pc + 3) ls st k n μ) : px_W l G y cc nL ret Rm Fn pc ls (.int (lg_cmp a b) :: st) k n μ :=
  px_if_eq d ht (fun q => kt ((lg_cmp_eq a b).mp q)) (fun q => kf (fun z => q ((lg_cmp_eq a b).mpr z)))
end PB
/-- a World at w, with its rows and its roads and carts behind it -/
def px_wo (G : px_G) (T : px_T) (R : px_R) (w : Nat) : Prop :=
  px_at G T w 6 0 ∧ (R w 0 = some (w + 1) ∧ R w 1 = some (w + 2) ∧ R w 2 = some (w + 3) ∧ R w 3 = some (w + 4)) ∧ (px_at G T (w + 1) 9 4 ∧ px_at G T (w + 2) 9 8 ∧ px_at G T (w + 3) 13 14 ∧ px_at G T (w + 4) 12 6) ∧
  (∀ i, i < 14 → R (w + 3) i = some (w + 5 + i) ∧ px_at G T (w + 5 + i) 4 0) ∧ (∀ i, i < 6 → R (w + 4) i = some (w + 19 + i) ∧ px_at G T (w + 19 + i) 0 0)
section PWO
variable {G : px_G} {T : px_T} {R : px_R} {w : Nat}
theorem wo_a (h : px_wo G T R w) : px_at G T w 6 0 := h.1
theorem wo_r0 (h : px_wo G T R w) : R w 0 = some (w + 1) := h.2.1.1
theorem wo_r1 (h : px_wo G T R w) : R w 1 = some (w + 2) := h.2.1.2.1
theorem wo_r2 (h : px_wo G T R w) : R w 2 = some (w + 3) := h.2.1.2.2.1
theorem wo_r3 (h : px_wo G T R w) : R w 3 = some (w + 4) := h.2.1.2.2.2
theorem wo_a1 (h : px_wo G T R w) : px_at G T (w + 1) 9 4 := h.2.2.1.1
theorem wo_a2 (h : px_wo G T R w) : px_at G T (w + 2) 9 8 := h.2.2.1.2.1
theorem wo_a3 (h : px_wo G T R w) : px_at G T (w + 3) 13 14 ∧ 12 ≤ 13 ∧ 13 ≤ 15 := ⟨h.2.2.1.2.2.1, by decide, by decide⟩
theorem wo_a4 (h : px_wo G T R w) : px_at G T (w + 4) 12 6 ∧ 12 ≤ 12 ∧ 12 ≤ 15 := ⟨h.2.2.1.2.2.2, by decide, by decide⟩
theorem wo_rr (h : px_wo G T R w) {i : Nat} (hi : i < 14) : R (w + 3) i = some (w + 5 + i) := (h.2.2.2.1 i hi).1
theorem wo_ra (h : px_wo G T R w) {i : Nat} (hi : i < 14) : px_at G T (w + 5 + i) 4 0 := (h.2.2.2.1 i hi).2
theorem wo_cr (h : px_wo G T R w) {i : Nat} (hi : i < 6) : R (w + 4) i = some (w + 19 + i) := (h.2.2.2.2 i hi).1
theorem wo_ca (h : px_wo G T R w) {i : Nat} (hi : i < 6) : px_at G T (w + 19 + i) 0 0 := (h.2.2.2.2 i hi).2
end PWO

