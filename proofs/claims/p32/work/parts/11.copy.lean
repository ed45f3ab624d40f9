/-! System.arraycopy of the first N places of an int row to the first N of another -/
def px_cpo (I : px_I) (a N : Nat) (f : Nat → Int32) : px_I := fun b => if b = a then fun j => if j < N then f j else I a j else I b
theorem px_cpo_ne {I : px_I} {a N b : Nat} {f : Nat → Int32} (h : b ≠ a) : px_cpo I a N f b = I b := if_neg h
theorem px_cpo_at {I : px_I} {a N j : Nat} {f : Nat → Int32} (h : j < N) : px_cpo I a N f a j = f j := by rw [px_cpo, if_pos rfl, if_pos h]
theorem px_cpo_out {I : px_I} {a N j : Nat} {f : Nat → Int32} (h : N ≤ j) : px_cpo I a N f a j = I a j := by rw [px_cpo, if_pos rfl, if_neg (by omega)]
def px_cw : Prop := Cond.native arraycopyName ∈ px_ws ∧ Cond.static arraycopyName ∈ px_ws ∧ Cond.initialized "java/lang/System" ∈ px_ws
theorem px_cw_ok : px_cw := ⟨px_wk 33 (by decide +kernel) (by decide +kernel), px_wk 32 (by decide +kernel) (by decide +kernel), px_wk 3 (by decide +kernel) (by decide +kernel)⟩
section PCP
variable {l : Launch} {G : px_G} {y : MethodName} {cc : ByteArray} {nL : Nat} {ret : Option FieldType} {Rm : Room} {Fn : List Frame → Array Value → State → State → Prop} {pc : Nat} {ls : List (Option Value)} {st : List Value} {k n : Nat} {T : px_T} {I : px_I} {J : px_J} {R : px_R}
theorem px_copyX {a0 a w0 w1 idx N : Nat} {f : Nat → Int32} {z : Int32} (hl0 : Cond.methodLink y.cls idx arraycopyName ∈ px_ws) (hz : z = nI N) (hN : N ≤ w0 ∧ N ≤ w1 ∧ w0 < 1000 ∧ w1 < 1000) (hR : 1 ≤ Rm.frames ∧ (st.map fun v => v.category).sum + 18 ≤ Rm.locals) (hsrc : ∀ (s : State) (H : Heap) (locs : List Loc), va_K G.1 vwCl (px_tys (px_cy G)) s → (∀ (k : Nat) (b : Nat × Nat × (Nat → Int32)), G.2.2.2.2.1[k]? = some b → va_X b.1 b.2.1 b.2.2 s s.heap ∧ b.1 < px_h G) → px_h G ≤ s.heap.size → px_F G (T, I, J, R) s H locs → va_X a0 w0 f s H)
    (ha : px_at G T a 9 w1) (d : decode cc pc = .ok (.invokestatic idx, 3)) (h : px_W l G y cc nL ret Rm Fn (pc + 3) ls st k n (T, px_cpo I a N f, J, R)) : px_W l G y cc nL ret Rm Fn pc ls (.int z :: .int 0 :: .ref a :: .int 0 :: .ref a0 :: st) k n (T, I, J, R) := by
  intro p e s m args below meth c' H locs la X hl hF
  obtain ⟨hx, hb, hr, hown, hts, hml, hlk, hnm, hle, hK, hTb, hXs, hZs, hNs⟩ := id X
  obtain ⟨hP, hD, hsz, hS⟩ := id hF
  obtain ⟨q, hq⟩ := px_at_get (I := I) (J := J) (R := R) ha
  subst hz
  have hcl : (nI N).toNatClampNeg = N := nI_clamp (by omega)
  have hnt : (nI N).toInt = (N : Int) := nI_toInt (by omega)
  intro T' hT Xs
  obtain ⟨scr, hs1, hs2, hs3, hs4, hs5⟩ := hsrc s H locs hK hXs hle hF
  have hc1 : H[a]? = some (vp_cell (px_cy G 9) (w1, .inl (I a))) := hP q _ hq
  obtain ⟨hs6, k0, hk0, cm0, hkk0⟩ := hs2
  obtain ⟨-, k1, hk1, cm1, hkk1⟩ := (hK.2 0 _ rfl).1 w1 (fun j => .int (I a j))
  obtain ⟨vm', X', step⟩ := Xs.arraycopy hx hown (hts _ hl0) (hts _ px_cw_ok.1) (hts _ px_cw_ok.2.1) (hts _ px_cw_ok.2.2) (src := a0) (dst := a) (cs := scr) (cd := vp_cell (px_cy G 9) (w1, .inl (I a))) (srcPos := 0) (destPos := 0) (n := nI N) (by rw [hT]; exact hs1) (by rw [hT]; exact hc1)
    hs6 (fun _ h => by cases h) hs3 (fun h => by cases h) hk0 hk1 hkk0 hkk1 (by simp [refKind]) (by decide) (by decide) (by rw [Int32.lt_iff_toInt_lt, hnt, show (0 : Int32).toInt = 0 from rfl]; omega)
    (by rw [hnt, hs4, show (0 : Int32).toInt = 0 from rfl]; omega)
    (by rw [hnt, show (0 : Int32).toInt = 0 from rfl]; show ¬ _ > ((arrV (px_cy G 9) w1 (fun j => .int (I a j))).slots.size : Int); rw [arrV_size]; omega)
    (fun vm₁ _ i hi => by
      rw [hcl] at hi
      have e : scr.slots.getD ((0 : Int32).toNatClampNeg + i) .null = .int (f i) := by
        rw [show (0 : Int32).toNatClampNeg = 0 from rfl, Nat.zero_add, Array.getD_eq_getD_getElem?, hs5 _ (by omega)]
        rfl
      refine ⟨?_, ?_⟩
      · rw [e]
        rfl
      · rw [e]
        exact trivial)
    (g := F0 m pc la (.int (nI N) :: .int 0 :: .ref a :: .int 0 :: .ref a0 :: st)) rfl (hl.1.1.trans hml.symm) (rest := st) rfl (by rw [hb]; exact d) hR.1 (by show 2 * 0 + _ + (5 + 2 + 11) ≤ _; omega)
  have e1 : copied scr (vp_cell (px_cy G 9) (w1, .inl (I a))) 0 0 (nI N) = vp_cell (px_cy G 9) (w1, .inl (va_cpy f (I a) 0 0 (nI N).toNatClampNeg)) := va_copiedX (fun z => .int z) scr (px_cy G 9) (n1 := w1) (sp := 0) (dp := 0) (n := (nI N).toNatClampNeg) f (I a) hs5 (by rw [hcl]; omega)
  rw [hcl] at e1
  have e2 : va_cpy f (I a) 0 0 N = px_cpo I a N f a := by
    funext j
    by_cases hj : j < N
    · rw [px_cpo_at hj]
      simp [va_cpy, hj]
    · rw [px_cpo_out (by omega)]
      simp [va_cpy, hj]
  rw [e1, e2] at X' step
  have hla : a < H.size := (Array.getElem?_eq_some_iff.mp hc1).1
  have hheap : ((T'.setVm vm').setCell a (vp_cell (px_cy G 9) (w1, .inl (px_cpo I a N f a)))).heap = H.setIfInBounds a (vp_cell (px_cy G 9) (w1, .inl (px_cpo I a N f a))) := by rw [← hT]; rfl
  have oq : ∀ q : Nat, q ≠ a → (H.setIfInBounds a (vp_cell (px_cy G 9) (w1, .inl (px_cpo I a N f a))))[q]? = H[q]? := fun q hq => by simp [Array.getElem?_setIfInBounds, Ne.symm hq]
  have hF1 := px_F_set (j := 0) (I' := px_cpo I a N f) (J' := J) (R' := R) hF ha (show (H.setIfInBounds a _)[a]? = some _ by simp [Array.getElem?_setIfInBounds, hla]) (by simp) oq (fun b hb => px_cpo_ne hb) (fun b hb => rfl) (fun b hb => rfl)
  obtain ⟨f1, f2, f3, f4⟩ := hF1
  obtain ⟨t, a1, b1⟩ := h p e s m args below meth c' _ _ la X hl ⟨f1, f2, f3, f4.1, f4.2.1, fun q9 hq9 => by
      rcases List.mem_append.mp hq9 with h | h
      · exact hS.2.2 q9 h
      · obtain ⟨z, -, hz⟩ := List.mem_map.mp h
        rw [← hz]
        exact ha.1⟩ _ hheap X'
  exact ⟨t, step t a1, b1⟩
theorem px_src {a0 w0 : Nat} (h0 : px_at G T a0 9 w0) (s : State) (H : Heap) (locs : List Loc) (hK : va_K G.1 vwCl (px_tys (px_cy G)) s) (hF : px_F G (T, I, J, R) s H locs) : va_X a0 w0 (I a0) s H := by
  obtain ⟨q, hq⟩ := px_at_get (I := I) (J := J) (R := R) h0
  refine ⟨_, hF.1 q _ hq, (hK.2 0 _ rfl).1 w0 (fun j => .int (I a0 j)), (fun h => by cases h), ?_, fun j hj => ?_⟩
  · show (arrV _ _ _).slots.size = _
    rw [arrV_size]
  · show (arrV _ _ _).slots[_]? = _
    rw [arrV_read _ _ hj]
theorem px_copy {a0 a w0 w1 idx N : Nat} {z : Int32} (hl0 : Cond.methodLink y.cls idx arraycopyName ∈ px_ws) (hz : z = nI N) (hN : N ≤ w0 ∧ N ≤ w1 ∧ w0 < 1000 ∧ w1 < 1000) (hR : 1 ≤ Rm.frames ∧ (st.map fun v => v.category).sum + 18 ≤ Rm.locals) (h0 : px_at G T a0 9 w0) (ha : px_at G T a 9 w1) (d : decode cc pc = .ok (.invokestatic idx, 3)) (h : px_W l G y cc nL ret Rm Fn (pc + 3) ls st k n (T, px_cpo I a N (I a0), J, R)) : px_W l G y cc nL ret Rm Fn pc ls (.int z :: .int 0 :: .ref a :: .int 0 :: .ref a0 :: st) k n (T, I, J, R) :=
  px_copyX hl0 hz hN hR (fun s H locs hK _ _ hF => px_src h0 s H locs hK hF) ha d h
/-- a script (or a constant row) as the source -/
theorem px_copyS {a0 a w0 w1 idx N q : Nat} {f : Nat → Int32} {z : Int32} (hl0 : Cond.methodLink y.cls idx arraycopyName ∈ px_ws) (hz : z = nI N) (hN : N ≤ w0 ∧ N ≤ w1 ∧ w0 < 1000 ∧ w1 < 1000) (hR : 1 ≤ Rm.frames ∧ (st.map fun v => v.category).sum + 18 ≤ Rm.locals) (hq : G.2.2.2.2.1[q]? = some (a0, w0, f)) (ha : px_at G T a 9 w1) (d : decode cc pc = .ok (.invokestatic idx, 3)) (h : px_W l G y cc nL ret Rm Fn (pc + 3) ls st k n (T, px_cpo I a N f, J, R)) : px_W l G y cc nL ret Rm Fn pc ls (.int z :: .int 0 :: .ref a :: .int 0 :: .ref a0 :: st) k n (T, I, J, R) :=
  px_copyX hl0 hz hN hR (fun s H locs hK hX hle hF => by
    obtain ⟨g1, g2⟩ := hX q _ hq
    have g2 : a0 < px_h G := g2
    exact g1.kept (hF.2.2.2.2.1 a0 (by omega) (fun z => by unfold px_A at z; omega))) ha d h
end PCP

