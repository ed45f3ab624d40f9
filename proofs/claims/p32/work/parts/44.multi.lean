/-! five rows of eight longs -/
section MUL
variable {l : Launch} {G : px_G} {y : MethodName} {cc : ByteArray} {nL : Nat} {ret : Option FieldType} {Rm : Room} {Fn : List Frame → Array Value → State → State → Prop} {pc : Nat} {ls : List (Option Value)} {st : List Value} {k n : Nat} {μ : px_M}
theorem px_w_at {μ : px_M} {j : Nat} {q : Nat × va_E} (h : (px_w G μ)[j]? = some q) : j < μ.1.1 ∧ q = (px_h G + j, px_E G μ (px_h G + j)) := by
  unfold px_w va_pl px_L at h
  rw [List.map_map, List.getElem?_map, Option.map_eq_some_iff] at h
  obtain ⟨i, h1, h2⟩ := h
  obtain ⟨h3, h4⟩ := List.getElem?_eq_some_iff.mp h1
  rw [List.length_range] at h3
  rw [List.getElem_range] at h4
  subst h4
  exact ⟨h3, h2.symm⟩
theorem px_w_mk {μ : px_M} {j : Nat} (h : j < μ.1.1) : (px_w G μ)[j]? = some (px_h G + j, px_E G μ (px_h G + j)) := by
  unfold px_w va_pl px_L
  rw [List.map_map, List.getElem?_map, List.getElem?_range h]
  rfl
theorem px_F_more {μ' : px_M} {c : Nat} {s : State} {H H1 : Heap} {locs : List Loc} (h1 : μ'.1.1 = μ.1.1 + c) (h2 : ∀ a, a < px_h G + μ.1.1 → px_E G μ' a = px_E G μ a) (hF : px_F G μ s H locs) (e1 : ∀ j, j < c → va_at G.1 vwCl (px_h G + μ.1.1 + j, px_E G μ' (px_h G + μ.1.1 + j)) H1) (z1 : H1.size = px_h G + μ.1.1 + c) (o1 : ∀ q : Nat, q < px_h G + μ.1.1 → H1[q]? = H[q]?) : px_F G μ' s H1 locs := by
  obtain ⟨hP, hD, hz, hS⟩ := hF
  refine ⟨fun j q hq => ?_, ⟨fun i j p q hp hq he => ?_, fun j q hq => ?_⟩, by rw [z1, h1]; omega, Nat.le_trans hS.1 (by omega), fun x a1 a2 => (o1 x (by have := hS.1; omega)).trans (hS.2.1 x a1 a2), hS.2.2⟩
  · obtain ⟨hj, rfl⟩ := px_w_at hq
    rw [h1] at hj
    by_cases z : j < μ.1.1
    · rw [h2 _ (by omega)]
      exact (hP j _ (px_w_mk z)).kept (o1 _ (by show px_h G + j < _; omega))
    · have := e1 (j - μ.1.1) (by omega)
      rw [show px_h G + μ.1.1 + (j - μ.1.1) = px_h G + j by omega] at this
      exact this
  · obtain ⟨hi, rfl⟩ := px_w_at hp
    obtain ⟨hj, rfl⟩ := px_w_at hq
    dsimp only at he
    omega
  · obtain ⟨hj, rfl⟩ := px_w_at hq
    exact Nat.le_add_right _ _
def px_mm (G : px_G) (μ : px_M) : px_M :=
  ((μ.1.1 + 6, fun a => if a = px_h G + μ.1.1 then (15, 5) else if px_h G + μ.1.1 < a ∧ a < px_h G + μ.1.1 + 6 then (10, 8) else μ.1.2 a),
    fun a => if px_h G + μ.1.1 ≤ a ∧ a < px_h G + μ.1.1 + 6 then fun _ => 0 else μ.2.1 a,
    fun a => if px_h G + μ.1.1 ≤ a ∧ a < px_h G + μ.1.1 + 6 then fun _ => 0 else μ.2.2.1 a,
    fun a => if px_h G + μ.1.1 ≤ a ∧ a < px_h G + μ.1.1 + 6 then fun j => if a = px_h G + μ.1.1 ∧ j < 5 then some (px_h G + μ.1.1 + 1 + j) else none else μ.2.2.2 a)
theorem px_va_arr {q : Nat} {cA : ClassId} {x : vp_A} {H : Heap} (h : H[q]? = some (vp_cell cA x)) : va_at G.1 vwCl (q, .inl (cA, x)) H := h
theorem px_e_15 {cy : Nat → ClassId} {n : Nat} {i : Nat → Int32} {j : Nat → Int64} {r : Nat → Option Nat} : px_e cy 15 n i j r = .inl (cy 15, n, .inr (.inr (.inr (.inr r)))) := rfl
theorem px_e_10 {cy : Nat → ClassId} {n : Nat} {i : Nat → Int32} {j : Nat → Int64} {r : Nat → Option Nat} : px_e cy 10 n i j r = .inl (cy 10, n, .inr (.inl j)) := rfl
theorem px_mm_E0 : px_E G (px_mm G μ) (px_h G + μ.1.1) = .inl (px_cy G 15, 5, .inr (.inr (.inr (.inr (fun j => if j < 5 then some (px_h G + μ.1.1 + 1 + j) else none))))) := by
  have hT : (px_mm G μ).1.2 (px_h G + μ.1.1) = (15, 5) := if_pos rfl
  have hr : (px_mm G μ).2.2.2 (px_h G + μ.1.1) = fun j => if j < 5 then some (px_h G + μ.1.1 + 1 + j) else none := by
    refine (if_pos (by omega)).trans ?_
    funext j
    by_cases hj : j < 5
    · rw [if_pos hj, if_pos ⟨rfl, hj⟩]
    · rw [if_neg hj, if_neg (fun q => hj q.2)]
  unfold px_E
  rw [hT, hr, px_e_15]
theorem px_mm_E1 {j : Nat} (h0 : 0 < j) (h6 : j < 6) : px_E G (px_mm G μ) (px_h G + μ.1.1 + j) = .inl (px_cy G 10, 8, .inr (.inl (fun _ => 0))) := by
  have hT : (px_mm G μ).1.2 (px_h G + μ.1.1 + j) = (10, 8) := (if_neg (by omega)).trans (if_pos (by omega))
  have hr : (px_mm G μ).2.2.1 (px_h G + μ.1.1 + j) = fun _ => 0 := if_pos (by omega)
  unfold px_E
  rw [hT, hr, px_e_10]
theorem px_multi {idx : Nat} (hcl : Cond.classLink y.cls idx ("[" ++ (FieldType.array .long).toString) ∈ px_ws) (hover : Cond.arrayOver (.array .long) ∈ px_nw) (harr : Cond.arrayClass .long ∈ px_ws) (hR : k + 6 ≤ Rm.cells ∧ n + 45 ≤ Rm.slots) (d : decode cc pc = .ok (.multianewarray idx 2, 4))
    (h : px_W l G y cc nL ret Rm Fn (pc + 4) ls (.ref (px_h G + μ.1.1) :: st) (k + 6) (n + 45) (px_mm G μ)) : px_W l G y cc nL ret Rm Fn pc ls (.int 8 :: .int 5 :: st) k n μ := by
  intro p e s m args below meth c' H locs la X hl hF
  obtain ⟨hx, hb, hr, hown, hts, hml, hlk, hnm, hle, hK, hTb, hXs, hZs, hNs⟩ := id X
  intro T hT X0
  have e5 : (5 : Int32).toNatClampNeg = 5 := rfl
  have e8 : (8 : Int32).toNatClampNeg = 8 := rfl
  obtain ⟨vm₁, cA, comp, hW, hfA, hfC, hO, hI, X1, step⟩ := X0.multianewarray2F hx (g := F0 m pc la (.int 8 :: .int 5 :: st)) (own := y.cls) (index := idx) (ty := .long) hown (hts _ hcl) (show (Cond.arrayOver (.array .long)).before args s = true from hNs _ hover) (hts _ harr) (n := 5) (k := 8) rfl (by rw [hb]; exact d) rfl (by decide) (by decide) (by rw [e5]; decide) (by rw [e8]; decide) (by rw [e8]; decide) rfl rfl (by rw [e5]; omega) (by rw [e5, e8]; omega)
  rw [e5, e8] at X1 step
  have hz := hF.2.2.1
  subst hT
  obtain ⟨f1, f2, f3, f4⟩ := Jvm.Free.Multi.fill_facts (T.setVm vm₁) cA comp 5 8 (defaultValue .long) 5
  have fo := fun (a : Addr) (ha : a < T.heap.size) => Jvm.Free.Multi.fill_old (T.setVm vm₁) cA comp 5 8 (defaultValue .long) (a := a) ha 5
  have fi := fun (j : Nat) (hj : j < 5) => Jvm.Free.Multi.fill_inner (T.setVm vm₁) cA comp 5 8 (defaultValue .long) 5 j hj
  have hcA : cA = px_cy G 15 := Option.some.inj (hfA.symm.trans (hK.2 6 _ rfl).2)
  have hcC : comp = px_cy G 10 := Option.some.inj (hfC.symm.trans (hK.2 1 _ rfl).2)
  subst hcA
  subst hcC
  have hTh : (T.setVm vm₁).heap.size = px_h G + μ.1.1 := hz
  rw [hTh] at f1 f2 fi
  have hF1 : px_F G (px_mm G μ) s (Jvm.Free.Multi.fill (T.setVm vm₁) (px_cy G 15) (px_cy G 10) 5 8 (defaultValue .long) 5).heap locs := by
    refine px_F_more rfl (fun a ha => ?_) hF (fun j hj => ?_) (by rw [f1]) (fun q hq => fo q (by rw [hz]; exact hq))
    · unfold px_E px_mm
      dsimp only
      rw [if_neg (by omega), if_neg (by omega), if_neg (by omega), if_neg (by omega), if_neg (by omega)]
    · rcases (by omega : j = 0 ∨ 0 < j) with rfl | hj0
      · have hE := px_mm_E0 (G := G) (μ := μ)
        rw [Nat.add_zero, hE]
        refine px_va_arr ?_
        rw [f2, vp_cell_q, px_outer]
      · have hi := fi (j - 1) (by omega)
        rw [show px_h G + μ.1.1 + 1 + (j - 1) = px_h G + μ.1.1 + j by omega] at hi
        have hE := px_mm_E1 (G := G) (μ := μ) hj0 hj
        rw [hE]
        refine px_va_arr ?_
        rw [hi, vp_cell_l, ← arrV_new]
        rfl
  have X2 := X1.more (cells' := k + 6) (slots' := n + 45) (by omega) (by omega)
  obtain ⟨t, a1, b1⟩ := h p e s m args below meth c' _ locs la X hl hF1 (Jvm.Free.Multi.fill (T.setVm vm₁) (px_cy G 15) (px_cy G 10) 5 8 (defaultValue .long) 5) rfl X2
  rw [hz] at step
  exact ⟨t, step t a1, b1⟩
end MUL
