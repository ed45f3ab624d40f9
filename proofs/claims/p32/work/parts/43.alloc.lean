/-! cells that are made: at the next address -/
section ALC
def px_ty1 (T : px_T) (h c w : Nat) : px_T := (T.1 + 1, fun a => if a = h + T.1 then (c, w) else T.2 a)
def px_nx (G : px_G) (μ : px_M) (c w : Nat) : px_M := (px_ty1 μ.1 (px_h G) c w, px_set μ.2.1 (px_h G + μ.1.1) (fun _ => 0), px_set μ.2.2.1 (px_h G + μ.1.1) (fun _ => 0), px_set μ.2.2.2 (px_h G + μ.1.1) (fun _ => none))
variable {l : Launch} {G : px_G} {y : MethodName} {cc : ByteArray} {nL : Nat} {ret : Option FieldType} {Rm : Room} {Fn : List Frame → Array Value → State → State → Prop} {pc : Nat} {ls : List (Option Value)} {st : List Value} {k n : Nat} {μ : px_M}
theorem px_w_snoc {μ' : px_M} {e : va_E} (h1 : μ'.1.1 = μ.1.1 + 1) (h2 : ∀ a, a < px_h G + μ.1.1 → px_E G μ' a = px_E G μ a) (h3 : px_E G μ' (px_h G + μ.1.1) = e) : px_w G μ' = px_w G μ ++ [(px_h G + μ.1.1, e)] := by
  unfold px_w va_pl px_L
  rw [h1, List.range_succ]
  simp only [List.map_append, List.map_cons, List.map_nil, List.map_map]
  rw [h3]
  congr 1
  apply List.map_congr_left
  intro i hi
  have := List.mem_range.mp hi
  simp only [Function.comp]
  rw [h2 _ (by omega)]
theorem px_nx_w {c w : Nat} : px_w G (px_nx G μ c w) = px_w G μ ++ [(px_h G + μ.1.1, px_e (px_cy G) c w (fun _ => 0) (fun _ => 0) (fun _ => none))] := by
  refine px_w_snoc rfl (fun a ha => ?_) ?_
  · unfold px_E px_nx px_ty1
    dsimp only
    rw [if_neg (by omega), px_set_ne (by omega), px_set_ne (by omega), px_set_ne (by omega)]
  · unfold px_E px_nx px_ty1
    dsimp only
    rw [if_pos rfl, px_set_self, px_set_self, px_set_self]
theorem px_F_snoc {μ' : px_M} {e : va_E} {s : State} {H H1 : Heap} {locs : List Loc} (hw : px_w G μ' = px_w G μ ++ [(px_h G + μ.1.1, e)]) (h1 : μ'.1.1 = μ.1.1 + 1) (hF : px_F G μ s H locs) (e1 : va_at G.1 vwCl (px_h G + μ.1.1, e) H1) (z1 : H1.size = px_h G + μ.1.1 + 1) (o1 : ∀ q : Nat, q < px_h G + μ.1.1 → H1[q]? = H[q]?) : px_F G μ' s H1 locs := by
  obtain ⟨hP, hD, hz, hS⟩ := hF
  have hk : ∀ (k : Nat) (x : Nat × va_E), (px_w G μ)[k]? = some x → H1[x.1]? = H[x.1]? := fun k x hx => o1 x.1 (by have := (hP k x hx).lt; omega)
  refine ⟨?_, ?_, by rw [z1, h1]; omega, Nat.le_trans hS.1 (by omega), fun x a1 a2 => (o1 x (by have := hS.1; omega)).trans (hS.2.1 x a1 a2), hS.2.2⟩
  · rw [hw]
    refine (hP.kept hk).app (fun k x hx => ?_)
    have hz : k < 1 := (List.getElem?_eq_some_iff.mp hx).1
    rw [show k = 0 by omega] at hx
    cases hx
    exact e1
  · rw [hw]
    exact hD.push hP hz.symm (Nat.le_add_right _ _)
theorem px_newc {c C T0 N ty idx} (hc : px_cl c C T0 N ty) (hcl : Cond.classLink y.cls idx C ∈ px_ws) (hin : Cond.instantiable C N ∈ px_ws) (hini : Cond.initialized C ∈ px_ws) (hfs : ∀ j, j < N → defaultValue (ty j) = vp_V (px_o c (fun _ => 0) (fun _ => 0) (fun _ => none)) j) (hR : k + 1 ≤ Rm.cells ∧ n + N ≤ Rm.slots) (d : decode cc pc = .ok (.new idx, 3))
    (h : px_W l G y cc nL ret Rm Fn (pc + 3) ls (.ref (px_h G + μ.1.1) :: st) (k + 1) (n + N) (px_nx G μ c 0)) : px_W l G y cc nL ret Rm Fn pc ls st k n μ := by
  intro p e s m args below meth c' H locs la X hl hF
  obtain ⟨hx, hb, hr, hown, hts, hml, hlk, hnm, hle, hK, hTb, hXs, hZs, hNs⟩ := id X
  have hKn := hK.1 c _ hc.2.1
  refine W.newcK hx hb hown (hts _ hcl) (hts _ hin) (hts _ hini) rfl d hR.1 hR.2 hKn.2.1 hF.2.2.1 fun H1 kC hkC e1 z1 o1 => ?_
  refine h p e s m args below meth c' H1 locs la X hl (px_F_snoc px_nx_w rfl hF ?_ z1 o1)
  rw [px_e_obj hc.1]
  exact ⟨_, hc.2.1, (u_born ty hts hc.2.2.1 hKn hkC e1 hc.2.2.2.1).to hfs⟩
theorem px_newa {c N t : Nat} {atype : ArrayType} {ty : FieldType} {i : Int32} (hty : newarray.typeOf atype = ty) (ht : ∀ cy : Nat → ClassId, (px_tys cy)[t]? = some (cy c, ty)) (harr : Cond.arrayClass ty ∈ px_ws) (hra : ∀ (s : State) (cA : ClassId), va_RA s cA ty → s.vm.findClass ("[" ++ ty.toString) = some cA) (hcell : ∀ cy : Nat → ClassId, ∃ a0 : vp_A, px_e cy c N (fun _ => 0) (fun _ => 0) (fun _ => none) = .inl (cy c, a0) ∧ vp_cell (cy c) a0 = arrV (cy c) N (fun _ => defaultValue ty)) (hi : i = nI N) (hN : N < 1000) (hby : componentBytes ty ≤ 8) (hR : k + 1 ≤ Rm.cells ∧ n + N ≤ Rm.slots) (d : decode cc pc = .ok (.newarray atype, 2))
    (h : px_W l G y cc nL ret Rm Fn (pc + 2) ls (.ref (px_h G + μ.1.1) :: st) (k + 1) (n + N) (px_nx G μ c N)) : px_W l G y cc nL ret Rm Fn pc ls (.int i :: st) k n μ := by
  subst hi
  subst hty
  intro p e s m args below meth c' H locs la X hl hF
  obtain ⟨hx, hb, hr, hown, hts, hml, hlk, hnm, hle, hK, hTb, hXs, hZs, hNs⟩ := id X
  have hby2 : N * componentBytes (newarray.typeOf atype) ≤ 1000 * 8 := Nat.mul_le_mul (by omega) hby
  refine va_newaK hx hb (hts _ harr) rfl d rfl (nI_pos (by omega)) (nI_clamp (by omega)) (by omega) hR.1 hR.2 hF.2.2.1 fun H1 cA e1 z1 o1 hAr hNm => ?_
  have hcA : cA = px_cy G c := Option.some.inj (hNm.symm.trans (hra s _ (hK.2 t _ (ht _)).2))
  subst hcA
  refine h p e s m args below meth c' H1 locs la X hl (px_F_snoc px_nx_w rfl hF ?_ z1 o1)
  obtain ⟨a0, h1, h2⟩ := hcell (px_cy G)
  rw [h1]
  show H1[px_h G + μ.1.1]? = some (vp_cell _ a0)
  rw [h2]
  exact e1
theorem px_anew {c N t idx : Nat} {C : String} {i : Int32} (ht : ∀ cy : Nat → ClassId, (px_tys cy)[t]? = some (cy c, .object C)) (hcl : Cond.classLink y.cls idx C ∈ px_ws) (hover : Cond.arrayOver (.object C) ∈ px_nw) (hcell : ∀ cy : Nat → ClassId, px_e cy c N (fun _ => 0) (fun _ => 0) (fun _ => none) = .inl (cy c, N, .inr (.inr (.inr (.inr (fun _ => none)))))) (hi : i = nI N) (hN : N < 1000) (hR : k + 1 ≤ Rm.cells ∧ n + N ≤ Rm.slots) (d : decode cc pc = .ok (.anewarray idx, 3))
    (h : px_W l G y cc nL ret Rm Fn (pc + 3) ls (.ref (px_h G + μ.1.1) :: st) (k + 1) (n + N) (px_nx G μ c N)) : px_W l G y cc nL ret Rm Fn pc ls (.int i :: st) k n μ := by
  subst hi
  intro p e s m args below meth c' H locs la X hl hF
  obtain ⟨hx, hb, hr, hown, hts, hml, hlk, hnm, hle, hK, hTb, hXs, hZs, hNs⟩ := id X
  have hcl0 : (nI N).toNatClampNeg = N := nI_clamp (by omega)
  refine W.anew hx hb hown (hts _ hcl) (va_AO.use (hNs _ hover)) rfl d rfl (nI_pos (by omega)) (by rw [hcl0]; omega) hR.1 (by rw [hcl0]; exact hR.2) fun cA kA comp h1 h2 h3 h4 => ?_
  obtain ⟨kA', comp', r1, r2, r3, r4⟩ := (hK.2 t _ (ht _)).2
  have hcA : cA = px_cy G c := Option.some.inj (h1.symm.trans r4)
  subst hcA
  have hz := hF.2.2.1
  rw [hcl0]
  rw [hz]
  refine h p e s m args below meth c' _ locs la X hl (px_F_snoc px_nx_w rfl hF ?_ (by rw [Array.size_push, hz]) (fun q hq => by rw [Array.getElem?_push, if_neg (by omega)]))
  rw [hcell]
  show (H.push _)[px_h G + μ.1.1]? = some (vp_cell _ _)
  rw [vp_cell_q, Array.getElem?_push, if_pos hz.symm, arrV_new]
  rfl
end ALC
