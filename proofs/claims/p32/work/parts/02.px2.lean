section PY
variable {l : Launch} {G : px_G} {y : MethodName} {cc : ByteArray} {nL : Nat} {ret : Option FieldType} {Rm : Room} {Fn : List Frame → Array Value → State → State → Prop} {pc : Nat} {ls : List (Option Value)} {st : List Value} {k n : Nat} {μ : px_M} {Tt : px_T} {I I' : px_I} {J J' : px_J} {R R' : px_R}
theorem px_e_obj {cy : Nat → ClassId} {c n : Nat} {i : Nat → Int32} {j : Nat → Int64} {r : Nat → Option Nat} (h : c < 9) : px_e cy c n i j r = .inr (c, px_o c i j r) := by
  match c, h with
  | 0, _ => rfl
  | 1, _ => rfl
  | 2, _ => rfl
  | 3, _ => rfl
  | 4, _ => rfl
  | 5, _ => rfl
  | 6, _ => rfl
  | 7, _ => rfl
  | 8, _ => rfl
/-- a class's table, and what a program decides of it -/
def px_cl (c : Nat) (C : String) (T : u_T) (N : Nat) (ty : Nat → FieldType) : Prop :=
  c < 9 ∧ vwCl[c]? = some (C, T, N) ∧ (∀ w ∈ u_ws C T N, w ∈ px_ws) ∧ (∀ k, k < N → parseFieldDescriptor (T k).2.2.1 = some (ty k)) ∧ (∀ a, a < N → ∀ b, b < N → a ≠ b → (T a).2.1 ≠ (T b).2.1)
theorem px_widen {k' n' : Nat} (h1 : k ≤ k') (h2 : n ≤ n') (h : px_W l G y cc nL ret Rm Fn (pc) ls (st) k' n' μ) : px_W l G y cc nL ret Rm Fn (pc) ls (st) k n μ := fun p e s m args below meth c H locs la X hl hF => W.widen h1 h2 (h p e s m args below meth c H locs la X hl hF)
theorem px_get {c C T N ty a f v idx} (hc : px_cl c C T N ty) (hf : f < N) (hl0 : Cond.fieldLink y.cls idx (T f).1 (T f).2.1 (T f).2.2.1 ∈ px_ws) (d : decode cc pc = .ok (.getfield idx, 3)) (ha : px_at G Tt a c 0) (hv : (px_o c (I a) (J a) (R a))[f]? = some v) (h : px_W l G y cc nL ret Rm Fn (pc + 3) ls (v :: st) k n (Tt, I, J, R)) : px_W l G y cc nL ret Rm Fn (pc) ls (.ref a :: st) k n (Tt, I, J, R) := by
  intro p e s m args below meth c' H locs la X hl hF
  obtain ⟨hx, hb, hr, hown, hts, hml, hlk, hnm, hle, hK, hTb, hXs, hZs, hNs⟩ := id X
  obtain ⟨hP, hD, hz, hS⟩ := id hF
  obtain ⟨q, hq⟩ := px_at_get (I := I) (J := J) (R := R) ha
  rw [px_e_obj hc.1] at hq
  exact va_get (D := G.1) (ci := c) hx hb hts hc.2.2.1 hown hK hP q hq hc.2.1 f hf (hts _ hl0) (fun _ h9 => h9) hv d (h p e s m args below meth c' H locs la X hl hF)
/-- behind a store at the cell a -/
theorem px_F_set {s : State} {H H' : Heap} {locs : List Loc} {a c w j : Nat} (hF : px_F G (Tt, I, J, R) s H locs) (ha : px_at G Tt a c w) (he : va_at G.1 vwCl (a, px_e (px_cy G) c w (I' a) (J' a) (R' a)) H') (z : H'.size = H.size) (oq : ∀ q : Nat, q ≠ a → H'[q]? = H[q]?)
    (hI : ∀ b, b ≠ a → I' b = I b) (hJ : ∀ b, b ≠ a → J' b = J b) (hR : ∀ b, b ≠ a → R' b = R b) : px_F G (Tt, I', J', R') s H' (locs ++ [⟨a, j⟩]) := by
  obtain ⟨hP, hD, hz, hS⟩ := hF
  obtain ⟨q, hq⟩ := px_at_get (I := I) (J := J) (R := R) ha
  have hP1 := hP.set hD hq he oq
  have hD1 := hD.set (e := px_e (px_cy G) c w (I' a) (J' a) (R' a)) hq
  rw [px_set_w hD ha hq hI hJ hR] at hP1 hD1
  exact ⟨hP1, hD1, z.trans hz, hS.put z oq (hD.2 q _ hq)⟩
theorem px_put {c C T N ty a f v idx ty0} (hc : px_cl c C T N ty) (hf : f < N) (hl0 : Cond.fieldLink y.cls idx (T f).1 (T f).2.1 (T f).2.2.1 ∈ px_ws) (hfin : (T f).2.2.2 = false) (d : decode cc pc = .ok (.putfield idx, 3)) (ha : px_at G Tt a c 0) (hd : parseFieldDescriptor (T f).2.2.1 = some ty0) (hn : narrow ty0 v = v) (hfit : fits ty0 v = true) (hlen : f < (px_o c (I a) (J a) (R a)).length)
    (hset : (px_o c (I a) (J a) (R a)).set f v = px_o c (I' a) (J' a) (R' a)) (hI : ∀ b, b ≠ a → I' b = I b) (hJ : ∀ b, b ≠ a → J' b = J b) (hR : ∀ b, b ≠ a → R' b = R b) (h : px_W l G y cc nL ret Rm Fn (pc + 3) ls (st) k n (Tt, I', J', R')) : px_W l G y cc nL ret Rm Fn (pc) ls (v :: .ref a :: st) k n (Tt, I, J, R) := by
  intro p e s m args below meth c' H locs la X hl hF
  obtain ⟨hx, hb, hr, hown, hts, hml, hlk, hnm, hle, hK, hTb, hXs, hZs, hNs⟩ := id X
  obtain ⟨hP, hD, hz, hS⟩ := id hF
  have hap := va_apart (own := y.cls) hts hc.2.2.1 ty hc.2.2.2.1 hc.2.2.2.2 hK hc.2.1
  obtain ⟨q, hq⟩ := px_at_get (I := I) (J := J) (R := R) ha
  rw [px_e_obj hc.1] at hq
  obtain ⟨r, h1, cell, q1, q2, q3, q4⟩ := hP q _ hq
  obtain rfl : r = (C, T, N) := Option.some.inj (h1.symm.trans hc.2.1)
  obtain ⟨hSl, hfc, kC, hkC, hkind⟩ := hK.1 c _ hc.2.1
  obtain ⟨cf, kf, fi, fd, hi, hsl⟩ := hSl f hf
  have hlay := hts _ (hc.2.2.1 _ (u_in_lay hf))
  unfold u_lay at hlay
  rw [if_neg (by rw [hfin]; decide)] at hlay
  have hst := (u_facts hfc hkC (u_lays hts hc.2.2.1 hf) hi).1
  have h6 := u_store hfc hkC hkind hlay hi hd hn hfit
  refine W.putK hx hb (f := fd) ⟨hown, hts _ hl0, ⟨_, _, _, hi⟩, hst⟩ (by rw [q2]; exact h6) q1 q3 (by rw [hsl]; exact k2_hasslot (q4 f hf)) rfl rfl d fun H' e1 e2 e3 => ?_
  rw [hsl] at e1 ⊢
  refine h p e s m args below meth c' H' _ la X hl (px_F_set hF ha ?_ e2 e3 hI hJ hR)
  rw [px_e_obj hc.1, ← hset]
  exact ⟨_, hc.2.1, t_OB.to (V := updV (vp_V (px_o c (I a) (J a) (R a))) f v) ⟨_, e1, q2, q3, t_set q4 hap hf v⟩ (fun j _ => vp_updV_set hlen v j)⟩
theorem px_putF {c C T N ty a f v idx ty0} (hc : px_cl c C T N ty) (hf : f < N) (hl0 : Cond.fieldLink y.cls idx (T f).1 (T f).2.1 (T f).2.2.1 ∈ px_ws) (hfin : (T f).2.2.2 = true) (hin : y.name = "<init>") (hdecl : (T f).1 = y.cls) (d : decode cc pc = .ok (.putfield idx, 3)) (ha : px_at G Tt a c 0) (hd : parseFieldDescriptor (T f).2.2.1 = some ty0) (hn : narrow ty0 v = v) (hfit : fits ty0 v = true) (hlen : f < (px_o c (I a) (J a) (R a)).length)
    (hset : (px_o c (I a) (J a) (R a)).set f v = px_o c (I' a) (J' a) (R' a)) (hI : ∀ b, b ≠ a → I' b = I b) (hJ : ∀ b, b ≠ a → J' b = J b) (hR : ∀ b, b ≠ a → R' b = R b) (h : px_W l G y cc nL ret Rm Fn (pc + 3) ls (st) k n (Tt, I', J', R')) : px_W l G y cc nL ret Rm Fn (pc) ls (v :: .ref a :: st) k n (Tt, I, J, R) := by
  intro p e s m args below meth c' H locs la X hl hF
  obtain ⟨hx, hb, hr, hown, hts, hml, hlk, hnm, hle, hK, hTb, hXs, hZs, hNs⟩ := id X
  obtain ⟨hP, hD, hz, hS⟩ := id hF
  have hap := va_apart (own := y.cls) hts hc.2.2.1 ty hc.2.2.2.1 hc.2.2.2.2 hK hc.2.1
  obtain ⟨q, hq⟩ := px_at_get (I := I) (J := J) (R := R) ha
  rw [px_e_obj hc.1] at hq
  obtain ⟨r, h1, cell, q1, q2, q3, q4⟩ := hP q _ hq
  obtain rfl : r = (C, T, N) := Option.some.inj (h1.symm.trans hc.2.1)
  obtain ⟨hSl, hfc, kC, hkC, hkind⟩ := hK.1 c _ hc.2.1
  obtain ⟨cf, kf, fi, fd, hi, hsl⟩ := hSl f hf
  have hlay := hts _ (hc.2.2.1 _ (u_in_lay hf))
  unfold u_lay at hlay
  rw [if_pos hfin] at hlay
  have hst := (u_facts hfc hkC (u_lays hts hc.2.2.1 hf) hi).1
  have hcf : m.cls = cf := by
    obtain ⟨_, _, c9, _, _, _, -, -, hf', -, -, -, hown2, -⟩ := Cond.laysFinal_spec hlay
    have e1 : c9 = cf := by have := hi.symm.trans hf'; simp at this; exact this.1.symm
    rw [hdecl] at hown2
    rw [← e1]; exact Option.some.inj (hown.symm.trans hown2)
  have h6 := u_fits hfc hkC hkind (Or.inr hlay) hi hd hn hfit
  refine W.putFinK hx hb hown (hts _ hl0) hi hst hcf (hnm.trans hin) (by rw [q2]; exact h6) q1 q3 (by rw [hsl]; exact k2_hasslot (q4 f hf)) rfl rfl d fun H' e1 e2 e3 => ?_
  rw [hsl] at e1 ⊢
  refine h p e s m args below meth c' H' _ la X hl (px_F_set hF ha ?_ e2 e3 hI hJ hR)
  rw [px_e_obj hc.1, ← hset]
  exact ⟨_, hc.2.1, t_OB.to (V := updV (vp_V (px_o c (I a) (J a) (R a))) f v) ⟨_, e1, q2, q3, t_set q4 hap hf v⟩ (fun j _ => vp_updV_set hlen v j)⟩
theorem px_iald {a w : Nat} {i : Int32} (d : decode cc pc = .ok (.iaload, 1)) (ha : px_at G Tt a 9 w) (hi : vp_in i w) (h : px_W l G y cc nL ret Rm Fn (pc + 1) ls (.int (I a i.toNatClampNeg) :: st) k n (Tt, I, J, R)) : px_W l G y cc nL ret Rm Fn (pc) ls (.int i :: .ref a :: st) k n (Tt, I, J, R) := by
  intro p e s m args below meth c' H locs la X hl hF
  obtain ⟨hx, hb, hr, hown, hts, hml, hlk, hnm, hle, hK, hTb, hXs, hZs, hNs⟩ := id X
  obtain ⟨hP, hD, hz, hS⟩ := id hF
  obtain ⟨q, hq⟩ := px_at_get (I := I) (J := J) (R := R) ha
  exact va_iald (D := G.1) hx hb hK hP q 0 hq rfl hi d (h p e s m args below meth c' H locs la X hl hF)
theorem px_lald {a w : Nat} {i : Int32} (d : decode cc pc = .ok (.laload, 1)) (ha : px_at G Tt a 10 w) (hi : vp_in i w) (h : px_W l G y cc nL ret Rm Fn (pc + 1) ls (.long (J a i.toNatClampNeg) :: st) k n (Tt, I, J, R)) : px_W l G y cc nL ret Rm Fn (pc) ls (.int i :: .ref a :: st) k n (Tt, I, J, R) := by
  intro p e s m args below meth c' H locs la X hl hF
  obtain ⟨hx, hb, hr, hown, hts, hml, hlk, hnm, hle, hK, hTb, hXs, hZs, hNs⟩ := id X
  obtain ⟨hP, hD, hz, hS⟩ := id hF
  obtain ⟨q, hq⟩ := px_at_get (I := I) (J := J) (R := R) ha
  exact va_lald (D := G.1) hx hb hK hP q 1 hq rfl hi d (h p e s m args below meth c' H locs la X hl hF)
theorem px_zald {a w : Nat} {i : Int32} (d : decode cc pc = .ok (.baload, 1)) (ha : px_at G Tt a 11 w) (hi : vp_in i w) (h : px_W l G y cc nL ret Rm Fn (pc + 1) ls (.int (I a i.toNatClampNeg) :: st) k n (Tt, I, J, R)) : px_W l G y cc nL ret Rm Fn (pc) ls (.int i :: .ref a :: st) k n (Tt, I, J, R) := by
  intro p e s m args below meth c' H locs la X hl hF
  obtain ⟨hx, hb, hr, hown, hts, hml, hlk, hnm, hle, hK, hTb, hXs, hZs, hNs⟩ := id X
  obtain ⟨hP, hD, hz, hS⟩ := id hF
  obtain ⟨q, hq⟩ := px_at_get (I := I) (J := J) (R := R) ha
  exact va_zald (D := G.1) hx hb hK hP q 2 hq rfl hi d (h p e s m args below meth c' H locs la X hl hF)
theorem px_aald12 {a b w : Nat} {i : Int32} (d : decode cc pc = .ok (.aaload, 1)) (ha : px_at G Tt a 12 w) (hi : vp_in i w) (hv : R a i.toNatClampNeg = some b) (h : px_W l G y cc nL ret Rm Fn (pc + 1) ls (.ref b :: st) k n (Tt, I, J, R)) : px_W l G y cc nL ret Rm Fn (pc) ls (.int i :: .ref a :: st) k n (Tt, I, J, R) := by
  intro p e s m args below meth c' H locs la X hl hF
  obtain ⟨hx, hb, hr, hown, hts, hml, hlk, hnm, hle, hK, hTb, hXs, hZs, hNs⟩ := id X
  obtain ⟨hP, hD, hz, hS⟩ := id hF
  obtain ⟨q, hq⟩ := px_at_get (I := I) (J := J) (R := R) ha
  have hlt : i.toNatClampNeg < w := Nat.not_le.mp fun z => hi (Or.inr z)
  refine W.aald (v := .ref b) (ty := .object "SaltPrices$Cart") hx hb (hP q _ hq) ((hK.2 3 _ rfl).1 w (fun j => va_rf (R a j))) rfl (fun z => by cases z) (by show ¬ (i < 0 ∨ (arrV _ _ _).slots.size ≤ _); rw [arrV_size]; exact hi) (by show (arrV _ _ _).slots[_]? = _; rw [arrV_read _ _ hlt, hv]; rfl) rfl rfl d (h p e s m args below meth c' H locs la X hl hF)
theorem px_aald13 {a b w : Nat} {i : Int32} (d : decode cc pc = .ok (.aaload, 1)) (ha : px_at G Tt a 13 w) (hi : vp_in i w) (hv : R a i.toNatClampNeg = some b) (h : px_W l G y cc nL ret Rm Fn (pc + 1) ls (.ref b :: st) k n (Tt, I, J, R)) : px_W l G y cc nL ret Rm Fn (pc) ls (.int i :: .ref a :: st) k n (Tt, I, J, R) := by
  intro p e s m args below meth c' H locs la X hl hF
  obtain ⟨hx, hb, hr, hown, hts, hml, hlk, hnm, hle, hK, hTb, hXs, hZs, hNs⟩ := id X
  obtain ⟨hP, hD, hz, hS⟩ := id hF
  obtain ⟨q, hq⟩ := px_at_get (I := I) (J := J) (R := R) ha
  have hlt : i.toNatClampNeg < w := Nat.not_le.mp fun z => hi (Or.inr z)
  refine W.aald (v := .ref b) (ty := .object "SaltPrices$Road") hx hb (hP q _ hq) ((hK.2 4 _ rfl).1 w (fun j => va_rf (R a j))) rfl (fun z => by cases z) (by show ¬ (i < 0 ∨ (arrV _ _ _).slots.size ≤ _); rw [arrV_size]; exact hi) (by show (arrV _ _ _).slots[_]? = _; rw [arrV_read _ _ hlt, hv]; rfl) rfl rfl d (h p e s m args below meth c' H locs la X hl hF)
theorem px_aald14 {a b w : Nat} {i : Int32} (d : decode cc pc = .ok (.aaload, 1)) (ha : px_at G Tt a 14 w) (hi : vp_in i w) (hv : R a i.toNatClampNeg = some b) (h : px_W l G y cc nL ret Rm Fn (pc + 1) ls (.ref b :: st) k n (Tt, I, J, R)) : px_W l G y cc nL ret Rm Fn (pc) ls (.int i :: .ref a :: st) k n (Tt, I, J, R) := by
  intro p e s m args below meth c' H locs la X hl hF
  obtain ⟨hx, hb, hr, hown, hts, hml, hlk, hnm, hle, hK, hTb, hXs, hZs, hNs⟩ := id X
  obtain ⟨hP, hD, hz, hS⟩ := id hF
  obtain ⟨q, hq⟩ := px_at_get (I := I) (J := J) (R := R) ha
  have hlt : i.toNatClampNeg < w := Nat.not_le.mp fun z => hi (Or.inr z)
  refine W.aald (v := .ref b) (ty := .object "SaltPrices$World") hx hb (hP q _ hq) ((hK.2 5 _ rfl).1 w (fun j => va_rf (R a j))) rfl (fun z => by cases z) (by show ¬ (i < 0 ∨ (arrV _ _ _).slots.size ≤ _); rw [arrV_size]; exact hi) (by show (arrV _ _ _).slots[_]? = _; rw [arrV_read _ _ hlt, hv]; rfl) rfl rfl d (h p e s m args below meth c' H locs la X hl hF)
theorem px_aald15 {a b w : Nat} {i : Int32} (d : decode cc pc = .ok (.aaload, 1)) (ha : px_at G Tt a 15 w) (hi : vp_in i w) (hv : R a i.toNatClampNeg = some b) (h : px_W l G y cc nL ret Rm Fn (pc + 1) ls (.ref b :: st) k n (Tt, I, J, R)) : px_W l G y cc nL ret Rm Fn (pc) ls (.int i :: .ref a :: st) k n (Tt, I, J, R) := by
  intro p e s m args below meth c' H locs la X hl hF
  obtain ⟨hx, hb, hr, hown, hts, hml, hlk, hnm, hle, hK, hTb, hXs, hZs, hNs⟩ := id X
  obtain ⟨hP, hD, hz, hS⟩ := id hF
  obtain ⟨q, hq⟩ := px_at_get (I := I) (J := J) (R := R) ha
  have hlt : i.toNatClampNeg < w := Nat.not_le.mp fun z => hi (Or.inr z)
  refine W.aald (v := .ref b) (ty := .array .long) hx hb (hP q _ hq) ((hK.2 6 _ rfl).1 w (fun j => va_rf (R a j))) rfl (fun z => by cases z) (by show ¬ (i < 0 ∨ (arrV _ _ _).slots.size ≤ _); rw [arrV_size]; exact hi) (by show (arrV _ _ _).slots[_]? = _; rw [arrV_read _ _ hlt, hv]; rfl) rfl rfl d (h p e s m args below meth c' H locs la X hl hF)
theorem px_iast {a w : Nat} {i : Int32} {x : Int32} (d : decode cc pc = .ok (.iastore, 1)) (ha : px_at G Tt a 9 w) (hi : vp_in i w) (h : px_W l G y cc nL ret Rm Fn (pc + 1) ls (st) k n (Tt, px_up I a i.toNatClampNeg x, J, R)) : px_W l G y cc nL ret Rm Fn (pc) ls (.int x :: .int i :: .ref a :: st) k n (Tt, I, J, R) := by
  intro p e s m args below meth c' H locs la X hl hF
  obtain ⟨hx, hb, hr, hown, hts, hml, hlk, hnm, hle, hK, hTb, hXs, hZs, hNs⟩ := id X
  obtain ⟨hP, hD, hz, hS⟩ := id hF
  obtain ⟨q, hq⟩ := px_at_get (I := I) (J := J) (R := R) ha
  refine W.iast hx hb (hP q _ hq) ((hK.2 0 _ rfl).1 w (fun j => .int (I a j))) (fun z => by cases z) (by show ¬ (i < 0 ∨ (arrV _ _ _).slots.size ≤ _); rw [arrV_size]; exact hi) rfl rfl d fun H1 e1 z oq => ?_
  refine h p e s m args below meth c' H1 _ la X hl (px_F_set hF ha ?_ z oq (fun b hb => by first | exact px_up_ne hb | rfl) (fun b hb => by first | exact px_up_ne hb | rfl) (fun b hb => rfl))
  show H1[a]? = some (vp_cell _ _)
  rw [e1, px_up_row]
  refine congrArg some ?_
  dsimp only
  rw [vp_cell_i, vp_cell_i, arrV_store]
  congr 1
  funext q
  by_cases hq : q = i.toNatClampNeg
  · subst hq
    simp [updV, vp_nar]
    try rfl
  · simp [updV, hq]
theorem px_last {a w : Nat} {i : Int32} {x : Int64} (d : decode cc pc = .ok (.lastore, 1)) (ha : px_at G Tt a 10 w) (hi : vp_in i w) (h : px_W l G y cc nL ret Rm Fn (pc + 1) ls (st) k n (Tt, I, px_up J a i.toNatClampNeg x, R)) : px_W l G y cc nL ret Rm Fn (pc) ls (.long x :: .int i :: .ref a :: st) k n (Tt, I, J, R) := by
  intro p e s m args below meth c' H locs la X hl hF
  obtain ⟨hx, hb, hr, hown, hts, hml, hlk, hnm, hle, hK, hTb, hXs, hZs, hNs⟩ := id X
  obtain ⟨hP, hD, hz, hS⟩ := id hF
  obtain ⟨q, hq⟩ := px_at_get (I := I) (J := J) (R := R) ha
  refine W.last hx hb (hP q _ hq) ((hK.2 1 _ rfl).1 w (fun j => .long (J a j))) (fun z => by cases z) (by show ¬ (i < 0 ∨ (arrV _ _ _).slots.size ≤ _); rw [arrV_size]; exact hi) rfl rfl d fun H1 e1 z oq => ?_
  refine h p e s m args below meth c' H1 _ la X hl (px_F_set hF ha ?_ z oq (fun b hb => by first | exact px_up_ne hb | rfl) (fun b hb => by first | exact px_up_ne hb | rfl) (fun b hb => rfl))
  show H1[a]? = some (vp_cell _ _)
  rw [e1, px_up_row]
  refine congrArg some ?_
  dsimp only
  rw [vp_cell_l, vp_cell_l, arrV_store]
  congr 1
  funext q
  by_cases hq : q = i.toNatClampNeg
  · subst hq
    simp [updV, vp_nar]
    try rfl
  · simp [updV, hq]
theorem px_zast {a w : Nat} {i : Int32} {x : Int32} (d : decode cc pc = .ok (.bastore, 1)) (ha : px_at G Tt a 11 w) (hi : vp_in i w) (h : px_W l G y cc nL ret Rm Fn (pc + 1) ls (st) k n (Tt, px_up I a i.toNatClampNeg (vp_nar .boolean x), J, R)) : px_W l G y cc nL ret Rm Fn (pc) ls (.int x :: .int i :: .ref a :: st) k n (Tt, I, J, R) := by
  intro p e s m args below meth c' H locs la X hl hF
  obtain ⟨hx, hb, hr, hown, hts, hml, hlk, hnm, hle, hK, hTb, hXs, hZs, hNs⟩ := id X
  obtain ⟨hP, hD, hz, hS⟩ := id hF
  obtain ⟨q, hq⟩ := px_at_get (I := I) (J := J) (R := R) ha
  refine W.zast hx hb (hP q _ hq) ((hK.2 2 _ rfl).1 w (fun j => .int (I a j))) (fun z => by cases z) (by show ¬ (i < 0 ∨ (arrV _ _ _).slots.size ≤ _); rw [arrV_size]; exact hi) rfl rfl d fun H1 e1 z oq => ?_
  refine h p e s m args below meth c' H1 _ la X hl (px_F_set hF ha ?_ z oq (fun b hb => by first | exact px_up_ne hb | rfl) (fun b hb => by first | exact px_up_ne hb | rfl) (fun b hb => rfl))
  show H1[a]? = some (vp_cell _ _)
  rw [e1, px_up_row]
  refine congrArg some ?_
  dsimp only
  rw [vp_cell_i, vp_cell_i, arrV_store]
  congr 1
  funext q
  by_cases hq : q = i.toNatClampNeg
  · subst hq
    simp [updV, vp_nar]
    try rfl
  · simp [updV, hq]
theorem px_aast12 {a b w : Nat} {i : Int32} (d : decode cc pc = .ok (.aastore, 1)) (ha : px_at G Tt a 12 w) (hv : px_at G Tt b 0 0) (hi : vp_in i w) (h : px_W l G y cc nL ret Rm Fn (pc + 1) ls (st) k n (Tt, I, J, px_up R a i.toNatClampNeg (some b))) : px_W l G y cc nL ret Rm Fn (pc) ls (.ref b :: .int i :: .ref a :: st) k n (Tt, I, J, R) := by
  intro p e s m args below meth c' H locs la X hl hF
  obtain ⟨hx, hb, hr, hown, hts, hml, hlk, hnm, hle, hK, hTb, hXs, hZs, hNs⟩ := id X
  obtain ⟨hP, hD, hz, hS⟩ := id hF
  obtain ⟨q, hq⟩ := px_at_get (I := I) (J := J) (R := R) ha
  obtain ⟨qk, hqk⟩ := px_at_get (I := I) (J := J) (R := R) hv
  rw [px_e_obj (by decide)] at hqk
  have hlt : i.toNatClampNeg < w := Nat.not_le.mp fun z => hi (Or.inr z)
  have h0 : ¬ i < 0 := fun z => hi (Or.inl z)
  obtain ⟨r', hr', cellV, g1, g2, g3, -⟩ := hP qk _ hqk
  have hcls := (hK.1 0 _ rfl).2
  obtain ⟨kA, comp, k1, k2, k3, -⟩ := (hK.2 3 _ rfl).2
  obtain rfl : comp = G.1.1 0 := Option.some.inj (k3.symm.trans hcls.1)
  obtain ⟨kC, hkC, -⟩ := hcls.2
  refine W.aast hx hb (hP q _ hq) (fun q h => by cases h) (fun h => by cases h) k1 k2 rfl hkC ⟨h0, by show _ < (arrV _ _ _).slots.size; rw [arrV_size]; exact hlt⟩ g1 (fun q h => by rw [g3] at h; cases h) (by rw [g2]; exact hkC) (by rw [g2]; exact va_assign hcls) rfl rfl d fun H1 e1 z oq => ?_
  refine h p e s m args below meth c' H1 _ la X hl (px_F_set hF ha ?_ z oq (fun b hb => rfl) (fun b hb => rfl) (fun b hb => px_up_ne hb))
  show H1[a]? = some (vp_cell _ _)
  rw [e1, px_up_row]
  refine congrArg some ?_
  dsimp only
  rw [vp_cell_q, vp_cell_q, arrV_store]
  congr 1
  funext q
  by_cases hq : q = i.toNatClampNeg
  · subst hq
    simp [updV, va_rf]
  · simp [updV, hq]
theorem px_aast13 {a b w : Nat} {i : Int32} (d : decode cc pc = .ok (.aastore, 1)) (ha : px_at G Tt a 13 w) (hv : px_at G Tt b 4 0) (hi : vp_in i w) (h : px_W l G y cc nL ret Rm Fn (pc + 1) ls (st) k n (Tt, I, J, px_up R a i.toNatClampNeg (some b))) : px_W l G y cc nL ret Rm Fn (pc) ls (.ref b :: .int i :: .ref a :: st) k n (Tt, I, J, R) := by
  intro p e s m args below meth c' H locs la X hl hF
  obtain ⟨hx, hb, hr, hown, hts, hml, hlk, hnm, hle, hK, hTb, hXs, hZs, hNs⟩ := id X
  obtain ⟨hP, hD, hz, hS⟩ := id hF
  obtain ⟨q, hq⟩ := px_at_get (I := I) (J := J) (R := R) ha
  obtain ⟨qk, hqk⟩ := px_at_get (I := I) (J := J) (R := R) hv
  rw [px_e_obj (by decide)] at hqk
  have hlt : i.toNatClampNeg < w := Nat.not_le.mp fun z => hi (Or.inr z)
  have h0 : ¬ i < 0 := fun z => hi (Or.inl z)
  obtain ⟨r', hr', cellV, g1, g2, g3, -⟩ := hP qk _ hqk
  have hcls := (hK.1 4 _ rfl).2
  obtain ⟨kA, comp, k1, k2, k3, -⟩ := (hK.2 4 _ rfl).2
  obtain rfl : comp = G.1.1 4 := Option.some.inj (k3.symm.trans hcls.1)
  obtain ⟨kC, hkC, -⟩ := hcls.2
  refine W.aast hx hb (hP q _ hq) (fun q h => by cases h) (fun h => by cases h) k1 k2 rfl hkC ⟨h0, by show _ < (arrV _ _ _).slots.size; rw [arrV_size]; exact hlt⟩ g1 (fun q h => by rw [g3] at h; cases h) (by rw [g2]; exact hkC) (by rw [g2]; exact va_assign hcls) rfl rfl d fun H1 e1 z oq => ?_
  refine h p e s m args below meth c' H1 _ la X hl (px_F_set hF ha ?_ z oq (fun b hb => rfl) (fun b hb => rfl) (fun b hb => px_up_ne hb))
  show H1[a]? = some (vp_cell _ _)
  rw [e1, px_up_row]
  refine congrArg some ?_
  dsimp only
  rw [vp_cell_q, vp_cell_q, arrV_store]
  congr 1
  funext q
  by_cases hq : q = i.toNatClampNeg
  · subst hq
    simp [updV, va_rf]
  · simp [updV, hq]
theorem px_aast14 {a b w : Nat} {i : Int32} (d : decode cc pc = .ok (.aastore, 1)) (ha : px_at G Tt a 14 w) (hv : px_at G Tt b 6 0) (hi : vp_in i w) (h : px_W l G y cc nL ret Rm Fn (pc + 1) ls (st) k n (Tt, I, J, px_up R a i.toNatClampNeg (some b))) : px_W l G y cc nL ret Rm Fn (pc) ls (.ref b :: .int i :: .ref a :: st) k n (Tt, I, J, R) := by
  intro p e s m args below meth c' H locs la X hl hF
  obtain ⟨hx, hb, hr, hown, hts, hml, hlk, hnm, hle, hK, hTb, hXs, hZs, hNs⟩ := id X
  obtain ⟨hP, hD, hz, hS⟩ := id hF
  obtain ⟨q, hq⟩ := px_at_get (I := I) (J := J) (R := R) ha
  obtain ⟨qk, hqk⟩ := px_at_get (I := I) (J := J) (R := R) hv
  rw [px_e_obj (by decide)] at hqk
  have hlt : i.toNatClampNeg < w := Nat.not_le.mp fun z => hi (Or.inr z)
  have h0 : ¬ i < 0 := fun z => hi (Or.inl z)
  obtain ⟨r', hr', cellV, g1, g2, g3, -⟩ := hP qk _ hqk
  have hcls := (hK.1 6 _ rfl).2
  obtain ⟨kA, comp, k1, k2, k3, -⟩ := (hK.2 5 _ rfl).2
  obtain rfl : comp = G.1.1 6 := Option.some.inj (k3.symm.trans hcls.1)
  obtain ⟨kC, hkC, -⟩ := hcls.2
  refine W.aast hx hb (hP q _ hq) (fun q h => by cases h) (fun h => by cases h) k1 k2 rfl hkC ⟨h0, by show _ < (arrV _ _ _).slots.size; rw [arrV_size]; exact hlt⟩ g1 (fun q h => by rw [g3] at h; cases h) (by rw [g2]; exact hkC) (by rw [g2]; exact va_assign hcls) rfl rfl d fun H1 e1 z oq => ?_
  refine h p e s m args below meth c' H1 _ la X hl (px_F_set hF ha ?_ z oq (fun b hb => rfl) (fun b hb => rfl) (fun b hb => px_up_ne hb))
  show H1[a]? = some (vp_cell _ _)
  rw [e1, px_up_row]
  refine congrArg some ?_
  dsimp only
  rw [vp_cell_q, vp_cell_q, arrV_store]
  congr 1
  funext q
  by_cases hq : q = i.toNatClampNeg
  · subst hq
    simp [updV, va_rf]
  · simp [updV, hq]
theorem px_ti {t N q : Nat} {f : Nat → Value} {i : Int32} {v : Value} (d : decode cc pc = .ok (.iaload, 1)) (hq : G.2.2.2.1[q]? = some (.int, t, N, f)) (hi : vp_in i N) (hv : f i.toNatClampNeg = v) (h : px_W l G y cc nL ret Rm Fn (pc + 1) ls (v :: st) k n μ) : px_W l G y cc nL ret Rm Fn (pc) ls (.int i :: .ref t :: st) k n μ := by
  intro p e s m args below meth c' H locs la X hl hF
  obtain ⟨hx, hb, hr, hown, hts, hml, hlk, hnm, hle, hK, hTb, hXs, hZs, hNs⟩ := id X
  obtain ⟨hP, hD, hz, hS⟩ := id hF
  exact va_ti hx hb (hTb q _ hq) hS hi hv d (h p e s m args below meth c' H locs la X hl hF)
theorem px_tl {t N q : Nat} {f : Nat → Value} {i : Int32} {v : Value} (d : decode cc pc = .ok (.laload, 1)) (hq : G.2.2.2.1[q]? = some (.long, t, N, f)) (hi : vp_in i N) (hv : f i.toNatClampNeg = v) (h : px_W l G y cc nL ret Rm Fn (pc + 1) ls (v :: st) k n μ) : px_W l G y cc nL ret Rm Fn (pc) ls (.int i :: .ref t :: st) k n μ := by
  intro p e s m args below meth c' H locs la X hl hF
  obtain ⟨hx, hb, hr, hown, hts, hml, hlk, hnm, hle, hK, hTb, hXs, hZs, hNs⟩ := id X
  obtain ⟨hP, hD, hz, hS⟩ := id hF
  exact va_tl hx hb (hTb q _ hq) hS hi hv d (h p e s m args below meth c' H locs la X hl hF)
theorem px_sld {b w q : Nat} {f : Nat → Int32} {i : Int32} (d : decode cc pc = .ok (.iaload, 1)) (hq : G.2.2.2.2.1[q]? = some (b, w, f)) (hi : vp_in i w) (h : px_W l G y cc nL ret Rm Fn (pc + 1) ls (.int (f i.toNatClampNeg) :: st) k n μ) : px_W l G y cc nL ret Rm Fn (pc) ls (.int i :: .ref b :: st) k n μ := by
  intro p e s m args below meth c' H locs la X hl hF
  obtain ⟨hx, hb, hr, hown, hts, hml, hlk, hnm, hle, hK, hTb, hXs, hZs, hNs⟩ := id X
  obtain ⟨hP, hD, hz, hS⟩ := id hF
  obtain ⟨g1, g2⟩ := hXs q _ hq
  have g2 : b < px_h G := g2
  exact va_sld hx hb g1 (show b < s.heap.size by omega) (fun z => by unfold px_A at z; omega) hS hi d (h p e s m args below meth c' H locs la X hl hF)
theorem px_slen {b w q : Nat} {f : Nat → Int32} (d : decode cc pc = .ok (.arraylength, 1)) (hq : G.2.2.2.2.1[q]? = some (b, w, f)) (h : px_W l G y cc nL ret Rm Fn (pc + 1) ls (.int (Int32.ofNat w) :: st) k n μ) : px_W l G y cc nL ret Rm Fn (pc) ls (.ref b :: st) k n μ := by
  intro p e s m args below meth c' H locs la X hl hF
  obtain ⟨hx, hb, hr, hown, hts, hml, hlk, hnm, hle, hK, hTb, hXs, hZs, hNs⟩ := id X
  obtain ⟨hP, hD, hz, hS⟩ := id hF
  obtain ⟨g1, g2⟩ := hXs q _ hq
  have g2 : b < px_h G := g2
  exact va_slen hx hb g1 (show b < s.heap.size by omega) (fun z => by unfold px_A at z; omega) hS d (h p e s m args below meth c' H locs la X hl hF)
theorem px_gets {C nm ds : String} {v : Value} {q idx : Nat} (hl0 : Cond.fieldLink y.cls idx C nm ds ∈ px_ws) (d : decode cc pc = .ok (.getstatic idx, 3)) (hq : G.2.2.2.2.2[q]? = some (C, nm, ds, v)) (h : px_W l G y cc nL ret Rm Fn (pc + 3) ls (v :: st) k n μ) : px_W l G y cc nL ret Rm Fn (pc) ls (st) k n μ := by
  intro p e s m args below meth c' H locs la X hl hF
  obtain ⟨hx, hb, hr, hown, hts, hml, hlk, hnm, hle, hK, hTb, hXs, hZs, hNs⟩ := id X
  obtain ⟨hP, hD, hz, hS⟩ := id hF
  exact va_gets hx hb (hZs q _ hq) hS hown (hts _ hl0) (fun _ h9 => h9) d (h p e s m args below meth c' H locs la X hl hF)
theorem px_getsN {C nm ds host : String} {v : Value} {q idx : Nat} (hl0 : Cond.fieldLinkNest y.cls idx C nm ds host ∈ px_nw) (d : decode cc pc = .ok (.getstatic idx, 3)) (hq : G.2.2.2.2.2[q]? = some (C, nm, ds, v)) (h : px_W l G y cc nL ret Rm Fn (pc + 3) ls (v :: st) k n μ) : px_W l G y cc nL ret Rm Fn (pc) ls (st) k n μ := by
  intro p e s m args below meth c' H locs la X hl hF
  obtain ⟨hx, hb, hr, hown, hts, hml, hlk, hnm, hle, hK, hTb, hXs, hZs, hNs⟩ := id X
  obtain ⟨hP, hD, hz, hS⟩ := id hF
  exact va_getsN hx hb (hZs q _ hq) hS hown (va_Nw.use rfl (hNs _ hl0)) (fun _ h9 => h9) d (h p e s m args below meth c' H locs la X hl hF)
def px_jmin : Prop := Cond.static Lib.Math.min.name ∈ px_ws ∧ Cond.initialized "java/lang/Math" ∈ px_ws ∧ Cond.code Lib.Math.min.name Lib.Math.min.code 2 (some .int) ∈ px_ws
def px_jmax : Prop := Cond.static Lib.MathLoose.max_long.x ∈ px_ws ∧ Cond.initialized "java/lang/Math" ∈ px_ws ∧ Cond.code Lib.MathLoose.max_long.x Lib.MathLoose.max_long.code 4 (some .long) ∈ px_ws
theorem px_mmin {a b : Int32} {idx : Nat} (hw : px_jmin) (hl0 : Cond.methodLink y.cls idx Lib.Math.min.name ∈ px_ws) (hR : 1 ≤ Rm.frames ∧ (st.map fun v => v.category).sum + 13 ≤ Rm.locals ∧ k ≤ Rm.cells ∧ n ≤ Rm.slots) (d : decode cc pc = .ok (.invokestatic idx, 3)) (h : px_W l G y cc nL ret Rm Fn (pc + 3) ls (.int (if b < a then b else a) :: st) k n μ) : px_W l G y cc nL ret Rm Fn (pc) ls (.int b :: .int a :: st) k n μ := by
  intro p e s m args below meth c' H locs la X hl hF
  obtain ⟨hx, hb, hr, hown, hts, hml, hlk, hnm, hle, hK, hTb, hXs, hZs, hNs⟩ := id X
  obtain ⟨hP, hD, hz, hS⟩ := id hF
  exact va_mmin hx hb (hml.trans hl.1.1.symm) hown (hts _ hl0) (hts _ hw.1) (hts _ hw.2.1) (hts _ hw.2.2) hR.1 hR.2.1 hR.2.2.1 hR.2.2.2 d (h p e s m args below meth c' H locs la X hl hF)
theorem px_mmaxl {a b : Int64} {idx : Nat} (hw : px_jmax) (hl0 : Cond.methodLink y.cls idx Lib.MathLoose.max_long.x ∈ px_ws) (hR : 1 ≤ Rm.frames ∧ (st.map fun v => v.category).sum + 15 ≤ Rm.locals ∧ k ≤ Rm.cells ∧ n ≤ Rm.slots) (d : decode cc pc = .ok (.invokestatic idx, 3)) (h : px_W l G y cc nL ret Rm Fn (pc + 3) ls (.long (if b < a then a else b) :: st) k n μ) : px_W l G y cc nL ret Rm Fn (pc) ls (.long b :: .long a :: st) k n μ := by
  intro p e s m args below meth c' H locs la X hl hF
  obtain ⟨hx, hb, hr, hown, hts, hml, hlk, hnm, hle, hK, hTb, hXs, hZs, hNs⟩ := id X
  obtain ⟨hP, hD, hz, hS⟩ := id hF
  exact va_mmax_long hx hb (hml.trans hl.1.1.symm) hown (hts _ hl0) (hts _ hw.1) (hts _ hw.2.1) (hts _ hw.2.2) hR.1 hR.2.1 hR.2.2.1 hR.2.2.2 d (h p e s m args below meth c' H locs la X hl hF)
def px_pl (y : MethodName) (na : Nat) : Prop := y.cls ≠ "java/lang/invoke/MethodHandle" ∧ y.cls ≠ "java/lang/invoke/VarHandle" ∧ (parseMethodDescriptor y.desc).map (fun d => d.parameters.length) = some na
/-- what the tables say of an instance method, a static one, a constructor -/
def px_mv (M : px_D) (na : Nat) : Prop := Cond.instanceMethod M.1 ∈ px_ws ∧ Cond.selects M.1.cls M.1 M.1 ∈ px_ws ∧ Cond.initialized M.1.cls ∈ px_ws ∧ Cond.code M.1 M.2.1 M.2.2.1 M.2.2.2 ∈ px_ws ∧ px_pl M.1 na
def px_ms (M : px_D) (na : Nat) : Prop := Cond.static M.1 ∈ px_ws ∧ Cond.initialized M.1.cls ∈ px_ws ∧ Cond.code M.1 M.2.1 M.2.2.1 M.2.2.2 ∈ px_ws ∧ px_pl M.1 na
def px_mi (M : px_D) (na : Nat) : Prop := Cond.instanceMethod M.1 ∈ px_ws ∧ Cond.initialized M.1.cls ∈ px_ws ∧ Cond.code M.1 M.2.1 M.2.2.1 none ∈ px_ws ∧ M.1.name = "<init>" ∧ M.2.2.2 = none ∧ px_pl M.1 na
theorem px_gc {c : Cond} (h : c ∈ px_ws) : GoodIn px_ws (c :: px_ws) := fun w hw => by
  rcases List.mem_cons.mp hw with rfl | hw
  · exact px_gi _ h
  · exact px_gi _ hw
theorem px_gV {own C : String} {idx : Nat} {z : MethodName} {c : Cond} (h1 : Cond.methodLink own idx z ∈ px_ws) (h2 : Cond.instanceMethod z ∈ px_ws) (h3 : Cond.selects C z z ∈ px_ws) (h4 : Cond.initialized C ∈ px_ws) (h5 : c ∈ px_ws) : GoodIn px_ws (wsV own idx C z (c :: px_ws)) := fun w hw => px_gi w (by
  simp only [wsV, List.cons_append, List.nil_append, List.mem_cons] at hw
  rcases hw with rfl | rfl | rfl | rfl | rfl | hw <;> assumption)
theorem px_gS {own : String} {idx : Nat} {z : MethodName} {c : Cond} (h1 : Cond.methodLink own idx z ∈ px_ws) (h2 : Cond.static z ∈ px_ws) (h4 : Cond.initialized z.cls ∈ px_ws) (h5 : c ∈ px_ws) : GoodIn px_ws (va_wsS own idx z (c :: px_ws)) := fun w hw => px_gi w (by
  simp only [va_wsS, List.cons_append, List.nil_append, List.mem_cons] at hw
  rcases hw with rfl | rfl | rfl | rfl | hw <;> assumption)
theorem px_back {p : Program} {e : Env} {s : State} {m : MethodId} {args : Array Value} {below : List Frame} {meth : Method} {c : Code} {H : Heap} {locs : List Loc} {Q : State → Prop} {mc ms : Nat} {la : Array Slot} {stk : List Value} {Q1 : Option Value → px_M → Prop} {a : Array Value} (hle : px_h G ≤ s.heap.size)
    (hr : va_Run p l e Rm s m args below meth c H locs k n mc ms (F0 m pc la stk) st (px_Qc G Q1 a) (px_A G)) (hF : px_F G μ s H locs)
    (kk : ∀ (v : Option Value) (μ' : px_M) (H1 : Heap) (locs1 : List Loc), Q1 v μ' → px_F G μ' s H1 locs1 → W p l e Rm s m args below meth c H1 locs1 (k + mc) (n + ms) Q (F0 m (pc + 3) la (v.toList ++ st))) : W p l e Rm s m args below meth c H locs k n Q (F0 m pc la stk) := by
  intro T hT Xs
  obtain ⟨v, st₀, t, T', L, h0, X', hL, e1, e2, ⟨⟨v', μ', hv, hq, hS1⟩, hz, hk⟩, stp⟩ := hr T hT Xs
  cases hv
  obtain ⟨-, -, -, hS⟩ := hF
  obtain ⟨-, hP1, hD1, hsz, -⟩ := hS1
  rw [h0] at hz hk
  obtain ⟨t2, a1, b1⟩ := kk v μ' T'.heap (locs ++ L) hq ⟨by rw [e1]; exact hP1, hD1, by rw [e1]; exact hsz, Nat.le_trans hS.1 (by rw [e1]; exact hz), fun q h1 h2 => by rw [e1, hk q (Nat.lt_of_lt_of_le h1 hS.1) h2]; exact hS.2.1 q h1 h2, fun q hq => by
      rcases List.mem_append.mp hq with h | h
      · exact hS.2.2 q h
      · exact hL q h⟩ T' rfl X'
  exact ⟨t2, stp t2 a1, b1⟩
theorem px_blind {As : List Value} : FrameBlind (va_Pc As (fun U => px_S G μ U)) := fun a U g mk q => ⟨q.1, px_S.moved (u := U) (U := U.calling g mk a) rfl rfl q.2⟩
theorem px_callV {M : px_D} {lv mc ms idx : Nat} {b ci : Nat} {As : List Value} {Q1 : Option Value → px_M → Prop} {stk : List Value} (hm : px_mv M As.length) (hl0 : Cond.methodLink y.cls idx M.1 ∈ px_ws) (hR : (lv + 1 ≤ Rm.frames ∧ 8 + (M.2.2.1 + 11) + 33 * lv ≤ Rm.locals) ∧ k + mc ≤ Rm.cells ∧ n + ms ≤ Rm.slots ∧ (st.map fun v => v.category).sum ≤ 8) (hrc : px_at G μ.1 b ci 0) (hrk : ci < 9 ∧ ∃ C T N, vwCl[ci]? = some (C, T, N) ∧ M.1.cls = C) (d : decode cc pc = .ok (.invokevirtual idx, 3)) (hc : px_C l G lv mc ms M (.ref b :: As) μ Q1) (hstk : stk = As.reverse ++ .ref b :: st) (h : ∀ v μ', Q1 v μ' → px_W l G y cc nL ret Rm Fn (pc + 3) ls (v.toList ++ st) (k + mc) (n + ms) μ') : px_W l G y cc nL ret Rm Fn (pc) ls (stk) k n μ := by
  intro p e s m args below meth c' H locs la X hl hF
  obtain ⟨hx, hb, hr, hown, hts, hml, hlk, hnm, hle, hK, hTb, hXs, hZs, hNs⟩ := id X
  obtain ⟨hP, hD, hz, hS⟩ := id hF
  obtain ⟨h9, C0, T0, N0, hci, hcls⟩ := hrk
  obtain ⟨qb, hqb⟩ := px_at_get (I := μ.2.1) (J := μ.2.2.1) (R := μ.2.2.2) hrc
  rw [px_e_obj h9] at hqb
  have hrec := va_recv hK hP hci hqb
  rw [show (C0, T0, N0).1 = M.1.cls from hcls.symm] at hrec
  exact px_back hle (va_runV (As := As) (rest := st) ⟨hx, hb, hml, hown, hts⟩ hc (cwV (ws' := px_ws) As.length hts (px_gV hl0 hm.1 hm.2.1 hm.2.2.1 hm.2.2.2.1) rfl rfl rfl ⟨rfl, hm.2.2.2.2.1, hm.2.2.2.2.2.1, hm.2.2.2.2.2.2⟩ hR.1) ⟨px_blind, hrec, fun U hU hW => ⟨rfl, px_end X hF hU hW⟩⟩ rfl rfl hl.1.1 hstk (lv_room hR.2.2.2) d ⟨hR.2.1, hR.2.2.1⟩) hF (fun v μ' H1 locs1 q hF1 => h v μ' q p e s m args below meth c' H1 locs1 la X hl hF1)
theorem px_callS {M : px_D} {lv mc ms idx : Nat} {As : List Value} {Q1 : Option Value → px_M → Prop} {stk : List Value} (hm : px_ms M As.length) (hl0 : Cond.methodLink y.cls idx M.1 ∈ px_ws) (hR : (lv + 1 ≤ Rm.frames ∧ 8 + (M.2.2.1 + 11) + 33 * lv ≤ Rm.locals) ∧ k + mc ≤ Rm.cells ∧ n + ms ≤ Rm.slots ∧ (st.map fun v => v.category).sum ≤ 8) (d : decode cc pc = .ok (.invokestatic idx, 3)) (hc : px_C l G lv mc ms M (As) μ Q1) (hstk : stk = As.reverse ++ st) (h : ∀ v μ', Q1 v μ' → px_W l G y cc nL ret Rm Fn (pc + 3) ls (v.toList ++ st) (k + mc) (n + ms) μ') : px_W l G y cc nL ret Rm Fn (pc) ls (stk) k n μ := by
  intro p e s m args below meth c' H locs la X hl hF
  obtain ⟨hx, hb, hr, hown, hts, hml, hlk, hnm, hle, hK, hTb, hXs, hZs, hNs⟩ := id X
  obtain ⟨hP, hD, hz, hS⟩ := id hF
  exact px_back hle (va_runS (As := As) (rest := st) ⟨hx, hb, hml, hown, hts⟩ hc (va_cwS (ws' := px_ws) As.length hts (px_gS hl0 hm.1 hm.2.1 hm.2.2.1) rfl rfl rfl hm.2.2.2 hR.1) ⟨px_blind, fun U hU hW => ⟨rfl, px_end X hF hU hW⟩⟩ rfl rfl hl.1.1 hstk (lv_room hR.2.2.2) d ⟨hR.2.1, hR.2.2.1⟩) hF (fun v μ' H1 locs1 q hF1 => h v μ' q p e s m args below meth c' H1 locs1 la X hl hF1)
theorem px_callI {M : px_D} {lv mc ms idx : Nat} {b : Nat} {As : List Value} {Q1 : Option Value → px_M → Prop} {stk : List Value} (hm : px_mi M As.length) (hl0 : Cond.methodLink y.cls idx M.1 ∈ px_ws) (hR : (lv + 1 ≤ Rm.frames ∧ 8 + (M.2.2.1 + 11) + 33 * lv ≤ Rm.locals) ∧ k + mc ≤ Rm.cells ∧ n + ms ≤ Rm.slots ∧ (st.map fun v => v.category).sum ≤ 8) (d : decode cc pc = .ok (.invokespecial idx, 3)) (hc : px_C l G lv mc ms M (.ref b :: As) μ Q1) (hstk : stk = As.reverse ++ .ref b :: st) (h : ∀ v μ', Q1 v μ' → px_W l G y cc nL ret Rm Fn (pc + 3) ls (v.toList ++ st) (k + mc) (n + ms) μ') : px_W l G y cc nL ret Rm Fn (pc) ls (stk) k n μ := by
  intro p e s m args below meth c' H locs la X hl hF
  obtain ⟨hx, hb, hr, hown, hts, hml, hlk, hnm, hle, hK, hTb, hXs, hZs, hNs⟩ := id X
  obtain ⟨hP, hD, hz, hS⟩ := id hF
  have hc : Met l M.1 (.code M.1 M.2.1 M.2.2.1 none :: px_ws) (px_rm lv mc ms) (va_Pc (.ref b :: As) (fun U => px_S G μ U)) (px_Qc G Q1) mc ms (px_A G) := by have := hc; unfold px_C at this; rw [hm.2.2.2.2.1] at this; exact this
  exact px_back hle (va_runI (As := As) (rest := st) ⟨hx, hb, hml, hown, hts⟩ hc (cwI (ws' := px_ws) As.length hts (px_gc hm.2.2.1) rfl rfl rfl (hts _ hm.2.1) (hts _ hl0) (hts _ hm.1) hm.2.2.2.1 hm.2.2.2.2.2 hR.1) ⟨px_blind, fun U hU hW => ⟨rfl, px_end X hF hU hW⟩⟩ rfl rfl hl.1.1 hstk (lv_room hR.2.2.2) d ⟨hR.2.1, hR.2.2.1⟩) hF (fun v μ' H1 locs1 q hF1 => h v μ' q p e s m args below meth c' H1 locs1 la X hl hF1)
theorem px_callVN {M : px_D} {lv mc ms idx : Nat} {host : String} {b ci : Nat} {As : List Value} {Q1 : Option Value → px_M → Prop} {stk : List Value} (hm : px_mv M As.length) (hl0 : Cond.methodLinkNest y.cls idx M.1 host ∈ px_nw) (hR : (lv + 1 ≤ Rm.frames ∧ 8 + (M.2.2.1 + 11) + 33 * lv ≤ Rm.locals) ∧ k + mc ≤ Rm.cells ∧ n + ms ≤ Rm.slots ∧ (st.map fun v => v.category).sum ≤ 8) (hrc : px_at G μ.1 b ci 0) (hrk : ci < 9 ∧ ∃ C T N, vwCl[ci]? = some (C, T, N) ∧ M.1.cls = C) (d : decode cc pc = .ok (.invokevirtual idx, 3)) (hc : px_C l G lv mc ms M (.ref b :: As) μ Q1) (hstk : stk = As.reverse ++ .ref b :: st) (h : ∀ v μ', Q1 v μ' → px_W l G y cc nL ret Rm Fn (pc + 3) ls (v.toList ++ st) (k + mc) (n + ms) μ') : px_W l G y cc nL ret Rm Fn (pc) ls (stk) k n μ := by
  intro p e s m args below meth c' H locs la X hl hF
  obtain ⟨hx, hb, hr, hown, hts, hml, hlk, hnm, hle, hK, hTb, hXs, hZs, hNs⟩ := id X
  obtain ⟨hP, hD, hz, hS⟩ := id hF
  obtain ⟨h9, C0, T0, N0, hci, hcls⟩ := hrk
  obtain ⟨qb, hqb⟩ := px_at_get (I := μ.2.1) (J := μ.2.2.1) (R := μ.2.2.2) hrc
  rw [px_e_obj h9] at hqb
  have hrec := va_recv hK hP hci hqb
  rw [show (C0, T0, N0).1 = M.1.cls from hcls.symm] at hrec
  exact px_back hle (va_runVN (As := As) (rest := st) ⟨hx, hb, hml, hown, hts⟩ hc ⟨va_cnB (ws' := px_ws) As.length hts (px_gc hm.2.2.2.1) rfl rfl rfl (hNs _ hl0) (hts _ hm.2.2.1) hm.2.2.2.2 hR.1, hts _ hm.1, hts _ hm.2.1⟩ ⟨px_blind, hrec, fun U hU hW => ⟨rfl, px_end X hF hU hW⟩⟩ rfl rfl hl.1.1 hstk (lv_room hR.2.2.2) d ⟨hR.2.1, hR.2.2.1⟩) hF (fun v μ' H1 locs1 q hF1 => h v μ' q p e s m args below meth c' H1 locs1 la X hl hF1)
theorem px_callSN {M : px_D} {lv mc ms idx : Nat} {host : String} {As : List Value} {Q1 : Option Value → px_M → Prop} {stk : List Value} (hm : px_ms M As.length) (hl0 : Cond.methodLinkNest y.cls idx M.1 host ∈ px_nw) (hR : (lv + 1 ≤ Rm.frames ∧ 8 + (M.2.2.1 + 11) + 33 * lv ≤ Rm.locals) ∧ k + mc ≤ Rm.cells ∧ n + ms ≤ Rm.slots ∧ (st.map fun v => v.category).sum ≤ 8) (d : decode cc pc = .ok (.invokestatic idx, 3)) (hc : px_C l G lv mc ms M (As) μ Q1) (hstk : stk = As.reverse ++ st) (h : ∀ v μ', Q1 v μ' → px_W l G y cc nL ret Rm Fn (pc + 3) ls (v.toList ++ st) (k + mc) (n + ms) μ') : px_W l G y cc nL ret Rm Fn (pc) ls (stk) k n μ := by
  intro p e s m args below meth c' H locs la X hl hF
  obtain ⟨hx, hb, hr, hown, hts, hml, hlk, hnm, hle, hK, hTb, hXs, hZs, hNs⟩ := id X
  obtain ⟨hP, hD, hz, hS⟩ := id hF
  exact px_back hle (va_runSN (As := As) (rest := st) ⟨hx, hb, hml, hown, hts⟩ hc ⟨va_cnB (ws' := px_ws) As.length hts (px_gc hm.2.2.1) rfl rfl rfl (hNs _ hl0) (hts _ hm.2.1) hm.2.2.2 hR.1, hts _ hm.1, trivial⟩ ⟨px_blind, fun U hU hW => ⟨rfl, px_end X hF hU hW⟩⟩ rfl rfl hl.1.1 hstk (lv_room hR.2.2.2) d ⟨hR.2.1, hR.2.2.1⟩) hF (fun v μ' H1 locs1 q hF1 => h v μ' q p e s m args below meth c' H1 locs1 la X hl hF1)
theorem px_callIN {M : px_D} {lv mc ms idx : Nat} {host : String} {b : Nat} {As : List Value} {Q1 : Option Value → px_M → Prop} {stk : List Value} (hm : px_mi M As.length) (hl0 : Cond.methodLinkNest y.cls idx M.1 host ∈ px_nw) (hR : (lv + 1 ≤ Rm.frames ∧ 8 + (M.2.2.1 + 11) + 33 * lv ≤ Rm.locals) ∧ k + mc ≤ Rm.cells ∧ n + ms ≤ Rm.slots ∧ (st.map fun v => v.category).sum ≤ 8) (d : decode cc pc = .ok (.invokespecial idx, 3)) (hc : px_C l G lv mc ms M (.ref b :: As) μ Q1) (hstk : stk = As.reverse ++ .ref b :: st) (h : ∀ v μ', Q1 v μ' → px_W l G y cc nL ret Rm Fn (pc + 3) ls (v.toList ++ st) (k + mc) (n + ms) μ') : px_W l G y cc nL ret Rm Fn (pc) ls (stk) k n μ := by
  intro p e s m args below meth c' H locs la X hl hF
  obtain ⟨hx, hb, hr, hown, hts, hml, hlk, hnm, hle, hK, hTb, hXs, hZs, hNs⟩ := id X
  obtain ⟨hP, hD, hz, hS⟩ := id hF
  have hc : Met l M.1 (.code M.1 M.2.1 M.2.2.1 none :: px_ws) (px_rm lv mc ms) (va_Pc (.ref b :: As) (fun U => px_S G μ U)) (px_Qc G Q1) mc ms (px_A G) := by have := hc; unfold px_C at this; rw [hm.2.2.2.2.1] at this; exact this
  exact px_back hle (va_runIN (As := As) (rest := st) ⟨hx, hb, hml, hown, hts⟩ hc ⟨va_cnB (ws' := px_ws) As.length hts (px_gc hm.2.2.1) rfl rfl rfl (hNs _ hl0) (hts _ hm.2.1) hm.2.2.2.2.2 hR.1, hm.2.2.2.1, hts _ hm.1⟩ ⟨px_blind, fun U hU hW => ⟨rfl, px_end X hF hU hW⟩⟩ rfl rfl hl.1.1 hstk (lv_room hR.2.2.2) d ⟨hR.2.1, hR.2.2.1⟩) hF (fun v μ' H1 locs1 q hF1 => h v μ' q p e s m args below meth c' H1 locs1 la X hl hF1)
def px_oi : Prop := Cond.instanceMethod Lib.objectInit ∈ px_ws ∧ Cond.code Lib.objectInit ⟨#[0xb1]⟩ 1 none ∈ px_ws
theorem px_objInit {a idx : Nat} (hw : px_oi) (hl0 : Cond.methodLink y.cls idx Lib.objectInit ∈ px_ws) (hR : 1 ≤ Rm.frames ∧ (st.map fun v => v.category).sum + 12 ≤ Rm.locals) (d : decode cc pc = .ok (.invokespecial idx, 3)) (h : px_W l G y cc nL ret Rm Fn (pc + 3) ls (st) k n μ) : px_W l G y cc nL ret Rm Fn (pc) ls (.ref a :: st) k n μ := by
  intro p e s m args below meth c' H locs la X hl hF
  obtain ⟨hx, hb, hr, hown, hts, hml, hlk, hnm, hle, hK, hTb, hXs, hZs, hNs⟩ := id X
  obtain ⟨hP, hD, hz, hS⟩ := id hF
  exact W.objInit hx hb hown (hts _ hl0) (hts _ hw.1) (hts _ hw.2) rfl (hl.1.1.trans hml.symm) rfl d hR.1 (by show 2 * 0 + _ + 12 ≤ _; omega) (h p e s m args below meth c' H locs la X hl hF)
end PY
section PZ
variable {l : Launch} {G : px_G} {y : MethodName} {cc : ByteArray} {nL : Nat} {lv mc ms : Nat} {Q : Option Value → px_M → Prop} {pc : Nat} {ls : List (Option Value)} {μ : px_M}
theorem px_iret {v : Int32} (d : decode cc pc = .ok (.ireturn, 1)) (hq : Q (some (.int v)) μ) : px_W l G y cc nL (some .int) (px_rm lv mc ms) (px_Fn G Q mc ms) pc ls [.int v] mc ms μ := by
  intro p e s m args below meth c' H locs la X hl hF
  obtain ⟨hx, hb, hr, hown, hts, hml, hlk, hnm, hle, hK, hTb, hXs, hZs, hNs⟩ := id X
  obtain ⟨hP, hD, hz, hS⟩ := id hF
  exact W.iret hx hb hr (fun t ht hW => ⟨⟨_, μ, rfl, hq, px_end X hF ht hW⟩, hS.F ht⟩) hS.2.2 d hlk
theorem px_lret {v : Int64} (d : decode cc pc = .ok (.lreturn, 1)) (hq : Q (some (.long v)) μ) : px_W l G y cc nL (some .long) (px_rm lv mc ms) (px_Fn G Q mc ms) pc ls [.long v] mc ms μ := by
  intro p e s m args below meth c' H locs la X hl hF
  obtain ⟨hx, hb, hr, hown, hts, hml, hlk, hnm, hle, hK, hTb, hXs, hZs, hNs⟩ := id X
  obtain ⟨hP, hD, hz, hS⟩ := id hF
  exact W.lret hx hb hr (fun t ht hW => ⟨⟨_, μ, rfl, hq, px_end X hF ht hW⟩, hS.F ht⟩) hS.2.2 d hlk
theorem px_zret {v : Int32} (d : decode cc pc = .ok (.ireturn, 1)) (hn : narrow .boolean (.int v) = .int v) (hq : Q (some (.int v)) μ) : px_W l G y cc nL (some .boolean) (px_rm lv mc ms) (px_Fn G Q mc ms) pc ls [.int v] mc ms μ := by
  intro p e s m args below meth c' H locs la X hl hF
  obtain ⟨hx, hb, hr, hown, hts, hml, hlk, hnm, hle, hK, hTb, hXs, hZs, hNs⟩ := id X
  obtain ⟨hP, hD, hz, hS⟩ := id hF
  exact W.zret hx hb hr hn (fun t ht hW => ⟨⟨_, μ, rfl, hq, px_end X hF ht hW⟩, hS.F ht⟩) hS.2.2 d hlk
theorem px_vret (d : decode cc pc = .ok (.return_, 1)) (hq : Q none μ) : px_W l G y cc nL none (px_rm lv mc ms) (px_Fn G Q mc ms) pc ls [] mc ms μ := by
  intro p e s m args below meth c' H locs la X hl hF
  obtain ⟨hx, hb, hr, hown, hts, hml, hlk, hnm, hle, hK, hTb, hXs, hZs, hNs⟩ := id X
  obtain ⟨hP, hD, hz, hS⟩ := id hF
  exact W.vret hx hb hr (fun t ht hW => ⟨⟨_, μ, rfl, hq, px_end X hF ht hW⟩, hS.F ht⟩) hS.2.2 d hlk
end PZ
