/-! what stays between two addresses; cells that are made, abstractly -/
section EXT
variable {l : Launch} {G : px_G} {y : MethodName} {cc : ByteArray} {nL : Nat} {ret : Option FieldType} {Rm : Room} {Fn : List Frame → Array Value → State → State → Prop} {pc : Nat} {ls : List (Option Value)} {st : List Value} {k n : Nat} {T T' : px_T} {I I' : px_I} {J J' : px_J} {R R' : px_R} {μ μ' μ1 : px_M} {lo hi lo' hi' w a b c N j : Nat} {σ : px_s}
theorem px_aastN12 {i : Int32} (d : decode cc pc = .ok (.aastore, 1)) (ha : px_at G T a 12 w) (hv : px_at G T b 0 0) (hj : i = nI j) (hlt : j < w ∧ w < 1000) (h : px_W l G y cc nL ret Rm Fn (pc + 1) ls st k n (T, I, J, px_up R a j (some b))) : px_W l G y cc nL ret Rm Fn pc ls (.ref b :: .int i :: .ref a :: st) k n (T, I, J, R) := by
  subst hj
  refine px_aast12 d ha hv (vp_in_nI hlt.1 (by omega)) ?_
  rw [px_clp (by omega)]
  exact h
theorem px_aastN13 {i : Int32} (d : decode cc pc = .ok (.aastore, 1)) (ha : px_at G T a 13 w) (hv : px_at G T b 4 0) (hj : i = nI j) (hlt : j < w ∧ w < 1000) (h : px_W l G y cc nL ret Rm Fn (pc + 1) ls st k n (T, I, J, px_up R a j (some b))) : px_W l G y cc nL ret Rm Fn pc ls (.ref b :: .int i :: .ref a :: st) k n (T, I, J, R) := by
  subst hj
  refine px_aast13 d ha hv (vp_in_nI hlt.1 (by omega)) ?_
  rw [px_clp (by omega)]
  exact h
theorem px_aastN14 {i : Int32} (d : decode cc pc = .ok (.aastore, 1)) (ha : px_at G T a 14 w) (hv : px_at G T b 6 0) (hj : i = nI j) (hlt : j < w ∧ w < 1000) (h : px_W l G y cc nL ret Rm Fn (pc + 1) ls st k n (T, I, J, px_up R a j (some b))) : px_W l G y cc nL ret Rm Fn pc ls (.ref b :: .int i :: .ref a :: st) k n (T, I, J, R) := by
  subst hj
  refine px_aast14 d ha hv (vp_in_nI hlt.1 (by omega)) ?_
  rw [px_clp (by omega)]
  exact h
section CPT
variable {T : px_T} {I : px_I} {J : px_J} {R : px_R}
theorem px_copyT {a0 a w0 w1 idx N q0 : Nat} {f : Nat → Int32} {z : Int32} (hl0 : Cond.methodLink y.cls idx arraycopyName ∈ px_ws) (hz : z = nI N) (hN : N ≤ w0 ∧ N ≤ w1 ∧ w0 < 1000 ∧ w1 < 1000) (hR : 1 ≤ Rm.frames ∧ (st.map fun v => v.category).sum + 18 ≤ Rm.locals) (hq0 : G.2.2.2.1[q0]? = some ((FieldType.int, a0, w0, fun j => Value.int (f j)) : px_B))
    (ha : px_at G T a 9 w1) (d : decode cc pc = .ok (.invokestatic idx, 3)) (h : px_W l G y cc nL ret Rm Fn (pc + 3) ls st k n (T, px_cpo I a N f, J, R)) : px_W l G y cc nL ret Rm Fn pc ls (.int z :: .int 0 :: .ref a :: .int 0 :: .ref a0 :: st) k n (T, I, J, R) := by
  intro p e s m args below meth c' H locs la X hl hF
  obtain ⟨hx, hb, hr, hown, hts, hml, hlk, hnm, hle, hK, hTb, hXs, hZs, hNs⟩ := id X
  obtain ⟨hP, hD, hsz, hS⟩ := id hF
  obtain ⟨q, hq⟩ := px_at_get (I := I) (J := J) (R := R) ha
  subst hz
  have hcl : (nI N).toNatClampNeg = N := nI_clamp (by omega)
  have hnt : (nI N).toInt = (N : Int) := nI_toInt (by omega)
  intro T' hT Xs
  obtain ⟨scr, hs1, hs2, hs3, hs4, hs45, hs5, hs55⟩ := (hTb q0 _ hq0).kept hS.2.1
  dsimp only at hs4 hs5
  have hc1 : H[a]? = some (vp_cell (px_cy G 9) (w1, .inl (I a))) := hP q _ hq
  obtain ⟨hs6, k0, hk0, cm0, hkk0⟩ := hs2
  obtain ⟨-, k1, hk1, cm1, hkk1⟩ := (hK.2 0 _ rfl).1 w1 (fun j => .int (I a j))
  obtain ⟨vm', X', step⟩ := Xs.arraycopy hx hown (hts _ hl0) (hts _ px_cw_ok.1) (hts _ px_cw_ok.2.1) (hts _ px_cw_ok.2.2) (src := a0) (dst := a) (cs := scr) (cd := vp_cell (px_cy G 9) (w1, .inl (I a))) (srcPos := 0) (destPos := 0) (n := nI N) (by rw [hT]; exact hs1) (by rw [hT]; exact hc1)
    hs6 (fun _ h => by cases h) hs3 (fun h => by cases h) hk0 hk1 hkk0 hkk1 (by simp [refKind]) (by decide) (by decide) (by rw [Int32.lt_iff_toInt_lt, hnt, show (0 : Int32).toInt = 0 from rfl]; omega)
    (by rw [hnt, show (0 : Int32).toInt = 0 from rfl]; omega)
    (by rw [hnt, show (0 : Int32).toInt = 0 from rfl]; show ¬ _ > ((arrV (px_cy G 9) w1 (fun j => .int (I a j))).slots.size : Int); rw [arrV_size]; omega)
    (fun vm₁ _ i hi => by
      rw [hcl] at hi
      have e : scr.slots.getD ((0 : Int32).toNatClampNeg + i) .null = .int (f i) := by
        rw [show (0 : Int32).toNatClampNeg = 0 from rfl, Nat.zero_add, Array.getD_eq_getD_getElem?, hs5 _ (by omega)]
        rfl
      refine ⟨?_, ?_⟩
      · rw [e]
        rfl
      · rw [e]
        exact trivial)
    (g := F0 m pc la (.int (nI N) :: .int 0 :: .ref a :: .int 0 :: .ref a0 :: st)) rfl (hl.1.1.trans hml.symm) (rest := st) rfl (by rw [hb]; exact d) hR.1 (by show 2 * 0 + _ + (5 + 2 + 11) ≤ _; omega)
  have e1 : copied scr (vp_cell (px_cy G 9) (w1, .inl (I a))) 0 0 (nI N) = vp_cell (px_cy G 9) (w1, .inl (va_cpy f (I a) 0 0 (nI N).toNatClampNeg)) := va_copiedX (fun z => .int z) scr (px_cy G 9) (n1 := w1) (sp := 0) (dp := 0) (n := (nI N).toNatClampNeg) f (I a) hs5 (by rw [hcl]; omega)
  rw [hcl] at e1
  have e2 : va_cpy f (I a) 0 0 N = px_cpo I a N f a := by
    funext j
    by_cases hj : j < N
    · rw [px_cpo_at hj]
      simp [va_cpy, hj]
    · rw [px_cpo_out (by omega)]
      simp [va_cpy, hj]
  rw [e1, e2] at X' step
  have hla : a < H.size := (Array.getElem?_eq_some_iff.mp hc1).1
  have hheap : ((T'.setVm vm').setCell a (vp_cell (px_cy G 9) (w1, .inl (px_cpo I a N f a)))).heap = H.setIfInBounds a (vp_cell (px_cy G 9) (w1, .inl (px_cpo I a N f a))) := by rw [← hT]; rfl
  have oq : ∀ q : Nat, q ≠ a → (H.setIfInBounds a (vp_cell (px_cy G 9) (w1, .inl (px_cpo I a N f a))))[q]? = H[q]? := fun q hq => by simp [Array.getElem?_setIfInBounds, Ne.symm hq]
  have hF1 := px_F_set (j := 0) (I' := px_cpo I a N f) (J' := J) (R' := R) hF ha (show (H.setIfInBounds a _)[a]? = some _ by simp [Array.getElem?_setIfInBounds, hla]) (by simp) oq (fun b hb => px_cpo_ne hb) (fun b hb => rfl) (fun b hb => rfl)
  obtain ⟨f1, f2, f3, f4⟩ := hF1
  obtain ⟨t, a1, b1⟩ := h p e s m args below meth c' _ _ la X hl ⟨f1, f2, f3, f4.1, f4.2.1, fun q9 hq9 => by
      rcases List.mem_append.mp hq9 with h | h
      · exact hS.2.2 q9 h
      · obtain ⟨z, -, hz⟩ := List.mem_map.mp h
        rw [← hz]
        exact ha.1⟩ _ hheap X'
  exact ⟨t, step t a1, b1⟩
end CPT
def px_ke (lo hi : Nat) (μ μ' : px_M) : Prop := μ.1.1 ≤ μ'.1.1 ∧ ∀ a, lo ≤ a → a < hi → μ'.1.2 a = μ.1.2 a ∧ μ'.2.1 a = μ.2.1 a ∧ μ'.2.2.1 a = μ.2.2.1 a ∧ μ'.2.2.2 a = μ.2.2.2 a
theorem ke_refl : px_ke lo hi μ μ := ⟨Nat.le_refl _, fun a _ _ => ⟨rfl, rfl, rfl, rfl⟩⟩
theorem ke_tr (h1 : px_ke lo hi μ μ1) (h2 : px_ke lo hi μ1 μ') : px_ke lo hi μ μ' := ⟨Nat.le_trans h1.1 h2.1, fun a h h' => ⟨(h2.2 a h h').1.trans (h1.2 a h h').1, (h2.2 a h h').2.1.trans (h1.2 a h h').2.1, (h2.2 a h h').2.2.1.trans (h1.2 a h h').2.2.1, (h2.2 a h h').2.2.2.trans (h1.2 a h h').2.2.2⟩⟩
theorem ke_mo (h1 : lo ≤ lo') (h2 : hi' ≤ hi) (h : px_ke lo hi μ μ') : px_ke lo' hi' μ μ' := ⟨h.1, fun a z z' => h.2 a (Nat.le_trans h1 z) (Nat.lt_of_lt_of_le z' h2)⟩
theorem ke_R {a k : Nat} {v : Option Nat} (h : a < lo ∨ hi ≤ a) : px_ke lo hi (T, I, J, R) (T, I, J, px_up R a k v) := ⟨Nat.le_refl _, fun b _ _ => ⟨rfl, rfl, rfl, px_up_ne (by omega)⟩⟩
theorem ke_I {a k : Nat} {v : Int32} (h : a < lo ∨ hi ≤ a) : px_ke lo hi (T, I, J, R) (T, px_up I a k v, J, R) := ⟨Nat.le_refl _, fun b _ _ => ⟨rfl, px_up_ne (by omega), rfl, rfl⟩⟩
theorem ke_J {a k : Nat} {v : Int64} (h : a < lo ∨ hi ≤ a) : px_ke lo hi (T, I, J, R) (T, I, px_up J a k v, R) := ⟨Nat.le_refl _, fun b _ _ => ⟨rfl, rfl, px_up_ne (by omega), rfl⟩⟩
theorem ke_f (h : ∀ a, lo ≤ a → a < hi → I' a = I a) : px_ke lo hi (T, I, J, R) (T, I', J, R) := ⟨Nat.le_refl _, fun b h1 h2 => ⟨rfl, h b h1 h2, rfl, rfl⟩⟩
theorem ke_T (h : px_ke lo hi (T, I, J, R) (T', I', J', R')) (h1 : lo ≤ a) (h2 : a < hi) : T'.2 a = T.2 a := (h.2 a h1 h2).1
theorem ke_Ia (h : px_ke lo hi (T, I, J, R) (T', I', J', R')) (h1 : lo ≤ a) (h2 : a < hi) : I' a = I a := (h.2 a h1 h2).2.1
theorem ke_Ra (h : px_ke lo hi (T, I, J, R) (T', I', J', R')) (h1 : lo ≤ a) (h2 : a < hi) : R' a = R a := (h.2 a h1 h2).2.2.2
theorem at_ke (h : px_at G T a c N) (hk : px_ke lo hi (T, I, J, R) (T', I', J', R')) (h1 : lo ≤ a) (h2 : a < hi) : px_at G T' a c N := by
  have e := hk.1
  dsimp only at e
  exact ⟨h.1, by have := h.2.1; omega, (ke_T hk h1 h2).trans h.2.2⟩
theorem ke_nx (hw : px_h G + μ.1.1 = w) : px_ke 0 w μ (px_nx G μ c N) := by
  unfold px_nx px_ty1
  refine ⟨Nat.le_succ _, fun a _ ha => ⟨if_neg (by omega), px_set_ne (by omega), px_set_ne (by omega), px_set_ne (by omega)⟩⟩
/-- a cell made: told by what is known of it -/
theorem nx_go (hw : px_h G + μ.1.1 = w) (h : ∀ (T' : px_T) (I' : px_I) (J' : px_J) (R' : px_R), T'.1 = μ.1.1 + 1 → px_ke 0 w μ (T', I', J', R') → px_at G T' w c N → (I' w = fun _ => 0) → (R' w = fun _ => none) → px_W l G y cc nL ret Rm Fn pc ls st k n (T', I', J', R')) : px_W l G y cc nL ret Rm Fn pc ls st k n (px_nx G μ c N) := by
  refine h _ _ _ _ rfl (ke_nx hw) ⟨by omega, by show w < px_h G + (μ.1.1 + 1); omega, ?_⟩ ?_ ?_
  · show (if w = px_h G + μ.1.1 then _ else _) = _
    rw [if_pos hw.symm]
  · rw [hw, px_set_self]
  · rw [hw, px_set_self]
theorem mm_go (hw : px_h G + μ.1.1 = w) (h : ∀ (T' : px_T) (I' : px_I) (J' : px_J) (R' : px_R), T'.1 = μ.1.1 + 6 → px_ke 0 w μ (T', I', J', R') → px_at G T' w 15 5 → (∀ q, q < 5 → R' w q = some (w + 1 + q) ∧ px_at G T' (w + 1 + q) 10 8) → px_W l G y cc nL ret Rm Fn pc ls st k n (T', I', J', R')) : px_W l G y cc nL ret Rm Fn pc ls st k n (px_mm G μ) := by
  subst hw
  refine h _ _ _ _ rfl ⟨Nat.le_add_right _ _, fun a _ ha => ⟨?_, ?_, ?_, ?_⟩⟩ ⟨by omega, by show _ < px_h G + (μ.1.1 + 6); omega, if_pos rfl⟩ (fun q hq => ⟨?_, by omega, by show _ < px_h G + (μ.1.1 + 6); omega, ?_⟩)
  · exact (if_neg (by omega)).trans (if_neg (by omega))
  · exact if_neg (by omega)
  · exact if_neg (by omega)
  · exact if_neg (by omega)
  · rw [if_pos (by omega)]
    exact if_pos ⟨rfl, hq⟩
  · exact (if_neg (by omega)).trans (if_pos (by omega))
def px_Qn (μ : px_M) (w c : Nat) (P : px_M → Prop) : Option Value → px_M → Prop := fun v μ' => v = none ∧ ∃ (T' : px_T) (I' : px_I) (J' : px_J) (R' : px_R), μ' = (T', I', J', R') ∧ T'.1 = μ.1.1 + c ∧ px_ke 0 w μ (T', I', J', R') ∧ P (T', I', J', R')
/-! the things of the class stay -/
theorem wo_ke (h : px_wo G T R w) (hk : px_ke lo hi (T, I, J, R) (T', I', J', R')) (h1 : lo ≤ w) (h2 : w + 25 ≤ hi) : px_wo G T' R' w := by
  obtain ⟨a0, ⟨r0, r1, r2, r3⟩, ⟨a1, a2, a3, a4⟩, f, g⟩ := h
  refine ⟨at_ke a0 hk (by omega) (by omega), ?_, ⟨at_ke a1 hk (by omega) (by omega), at_ke a2 hk (by omega) (by omega), at_ke a3 hk (by omega) (by omega), at_ke a4 hk (by omega) (by omega)⟩, fun i hi => ⟨?_, at_ke (f i hi).2 hk (by omega) (by omega)⟩, fun i hi => ⟨?_, at_ke (g i hi).2 hk (by omega) (by omega)⟩⟩
  · rw [ke_Ra hk (by omega) (by omega)]
    exact ⟨r0, r1, r2, r3⟩
  · rw [ke_Ra hk (by omega) (by omega)]
    exact (f i hi).1
  · rw [ke_Ra hk (by omega) (by omega)]
    exact (g i hi).1
theorem ag_ke (h : px_ag I w σ) (hV : px_V σ) (hk : px_ke lo hi (T, I, J, R) (T', I', J', R')) (h1 : lo ≤ w) (h2 : w + 25 ≤ hi) : px_ag I' w σ := ag_congr h hV (fun a a1 a2 => ke_Ia hk (by omega) (by omega))
theorem pa_ke (h : px_pa G T R a) (hk : px_ke lo hi (T, I, J, R) (T', I', J', R')) (h1 : lo ≤ a) (h2 : a + 2 ≤ hi) : px_pa G T' R' a := by
  obtain ⟨g1, g2, g3⟩ := h
  exact ⟨at_ke g1 hk (by omega) (by omega), by rw [ke_Ra hk (by omega) (by omega)]; exact g2, at_ke g3 hk (by omega) (by omega)⟩
theorem re_ke (h : px_re G T R a b) (hk : px_ke lo hi (T, I, J, R) (T', I', J', R')) (h1 : lo ≤ a) (h2 : a < hi) : px_re G T' R' a b := by
  obtain ⟨g1, g2⟩ := h
  exact ⟨at_ke g1 hk (by omega) (by omega), by rw [ke_Ra hk (by omega) (by omega)]; exact g2⟩
theorem rt_ke (h : px_rt G T R a) (hk : px_ke lo hi (T, I, J, R) (T', I', J', R')) (h1 : lo ≤ a) (h2 : a + 8 ≤ hi) : px_rt G T' R' a := by
  obtain ⟨g1, g2, g3, g4, g5, g6⟩ := h
  refine ⟨at_ke g1 hk (by omega) (by omega), ?_, ?_, at_ke g4 hk (by omega) (by omega), fun q hq => ⟨?_, at_ke (g5 q hq).2 hk (by omega) (by omega)⟩, at_ke g6 hk (by omega) (by omega)⟩
  · rw [ke_Ra hk (by omega) (by omega)]; exact g2
  · rw [ke_Ra hk (by omega) (by omega)]; exact g3
  · rw [ke_Ra hk (by omega) (by omega)]; exact (g5 q hq).1
theorem hs_ke (h : px_hs G T R a) (hk : px_ke lo hi (T, I, J, R) (T', I', J', R')) (h1 : lo ≤ a) (h2 : a + 177 ≤ hi) : px_hs G T' R' a := by
  obtain ⟨g1, g2, g3, g4⟩ := h
  refine ⟨at_ke g1 hk (by omega) (by omega), ?_, at_ke g3 hk (by omega) (by omega), fun p hp => ⟨?_, wo_ke (g4 p hp).2 hk (by omega) (by omega)⟩⟩
  · rw [ke_Ra hk (by omega) (by omega)]; exact g2
  · rw [ke_Ra hk (by omega) (by omega)]; exact (g4 p hp).1
/-! the first state -/
def a_s0 : px_s := fun k => if k < 8 then 100 else if k = 142 then 20 else if k = 143 then 10 else if k = 144 then 3 else if k = 145 then 12 else if k = 146 then 1 else 0
def a_A0 : px_a := (a_s0, (0, fun _ => a_s0), (fun _ => false, fun _ => a_s0), (0, fun _ => 0))
theorem s0_V : px_VV a_s0 := by
  have n1 : f_nr a_s0 = 0 := rfl
  have n2 : f_nc a_s0 = 0 := rfl
  refine ⟨⟨?_, fun r hr => ?_, fun r j _ hr hj => ?_, fun c hc => ?_, fun c j _ hc hj => ?_, fun t ht => ?_, ?_⟩, fun c hc => ?_⟩
  · rw [n1, n2]
    exact ⟨rfl, by decide, rfl, by decide⟩
  · rw [n1] at hr
    exact absurd hr (Nat.not_lt_zero r)
  · unfold a_s0
    rw [if_neg (by omega), if_neg (by omega), if_neg (by omega), if_neg (by omega), if_neg (by omega), if_neg (by omega)]
  · rw [n2] at hc
    exact absurd hc (Nat.not_lt_zero c)
  · unfold a_s0
    rw [if_neg (by omega), if_neg (by omega), if_neg (by omega), if_neg (by omega), if_neg (by omega), if_neg (by omega)]
  · unfold a_s0
    rw [if_pos ht]
    decide
  · decide
  · rw [n2] at hc
    exact absurd hc (Nat.not_lt_zero c)
theorem A0_AV : px_AV a_A0 := ⟨s0_V, fun i _ => s0_V, fun s _ h => by cases h⟩
end EXT
