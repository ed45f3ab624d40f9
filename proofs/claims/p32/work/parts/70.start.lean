/-! the law's start: what the tables and the given facts say -/
section STA
variable {l : Launch} {s : State} {args : Array Value} {b L : Nat} {xs : Nat → Int32}
theorem st_one {c N n : Nat} {C : String} {T : u_T} {ty : Nat → FieldType} (hts : ∀ w ∈ px_ws, w.before args s = true) (hc : px_cl c C T N ty) (hin : Cond.instantiable C n ∈ px_ws) : ∃ (cC : ClassId) (iS : Nat → Nat), ∀ q : vw_C, vwCl[c]? = some q → u_Kn s q.1 q.2.1 q.2.2 cC iS := by
  obtain ⟨cC, iS, h⟩ := u_known hts hc.2.2.1 (hts _ hin)
  refine ⟨cC, iS, fun q hq => ?_⟩
  obtain rfl := Option.some.inj (hc.2.1.symm.trans hq)
  exact h
theorem st_cls (hts : ∀ w ∈ px_ws, w.before args s = true) : ∃ D : va_G, ∀ (c : Nat) (q : vw_C), vwCl[c]? = some q → u_Kn s q.1 q.2.1 q.2.2 (D.1 c) (D.2 c) := by
  have hall : ∀ c : Nat, ∃ (cC : ClassId) (iS : Nat → Nat), ∀ q : vw_C, vwCl[c]? = some q → u_Kn s q.1 q.2.1 q.2.2 cC iS := by
    intro c
    rcases (by omega : c = 0 ∨ c = 1 ∨ c = 2 ∨ c = 3 ∨ c = 4 ∨ c = 5 ∨ c = 6 ∨ c = 7 ∨ 8 ≤ c) with rfl | rfl | rfl | rfl | rfl | rfl | rfl | rfl | hc
    · exact st_one (n := 8) hts pc_0 (px_wk 74 (by decide +kernel) (by decide +kernel))
    · exact st_one (n := 3) hts pc_1 (px_wk 170 (by decide +kernel) (by decide +kernel))
    · exact st_one (n := 2) hts pc_2 (px_wk 190 (by decide +kernel) (by decide +kernel))
    · exact st_one (n := 7) hts pc_3 (px_wk 205 (by decide +kernel) (by decide +kernel))
    · exact st_one (n := 6) hts pc_4 (px_wk 34 (by decide +kernel) (by decide +kernel))
    · exact st_one (n := 4) hts pc_5 (px_wk 233 (by decide +kernel) (by decide +kernel))
    · exact st_one (n := 11) hts pc_6 (px_wk 20 (by decide +kernel) (by decide +kernel))
    · exact st_one (n := 9) hts pc_7 (px_wk 12 (by decide +kernel) (by decide +kernel))
    · refine ⟨0, fun _ => 0, fun q hq => ?_⟩
      have h9 : c < 8 := (List.getElem?_eq_some_iff.mp hq).1
      omega
  exact ⟨(fun c => (hall c).choose, fun c => (hall c).choose_spec.choose), fun c q hq => (hall c).choose_spec.choose_spec q hq⟩
theorem st_AT {cA : ClassId} {kA : Class} {comp : ClassId} {ty : FieldType} (h1 : s.vm.classes[cA]? = some kA) (h2 : kA.kind = .array comp ty) : ArrOfT s cA ty := fun N z => ⟨(fun k h => by cases h), kA, h1, comp, h2⟩
theorem st_int (h : (Cond.arrayClass .int).before args s = true) : ∃ cA : ClassId, ArrOfT s cA .int ∧ va_RA s cA .int := by
  obtain ⟨c, k, comp, h1, h2, h3⟩ := Cond.arrayClass_spec h
  exact ⟨c, st_AT h2 h3, h1⟩
theorem st_long (h : (Cond.arrayClass .long).before args s = true) : ∃ cA : ClassId, ArrOfT s cA .long ∧ va_RA s cA .long := by
  obtain ⟨c, k, comp, h1, h2, h3⟩ := Cond.arrayClass_spec h
  exact ⟨c, st_AT h2 h3, h1⟩
theorem st_bool (h : (Cond.arrayClass .boolean).before args s = true) : ∃ cA : ClassId, ArrOfT s cA .boolean ∧ va_RA s cA .boolean := by
  obtain ⟨c, k, comp, h1, h2, h3⟩ := Cond.arrayClass_spec h
  exact ⟨c, st_AT h2 h3, h1⟩
theorem st_obj {C : String} (h : (Cond.arrayOver (.object C)).before args s = true) : ∃ cA : ClassId, ArrOfT s cA (.object C) ∧ va_RA s cA (.object C) := by
  obtain ⟨comp, c, k, h1, h2, h3, h4, h5⟩ := Cond.arrayOver_spec h
  exact ⟨c, st_AT h3 h4, k, comp, h3, h4, h1, h5⟩
theorem st_arr2 (h : (Cond.arrayOver (.array .long)).before args s = true) : ∃ cA : ClassId, ArrOfT s cA (.array .long) ∧ va_RA s cA (.array .long) := by
  obtain ⟨comp, c, k, h1, h3, h4, h5⟩ := Cond.arrayOver_specA h
  exact ⟨c, st_AT h3 h4, h5⟩
theorem st_tys (hts : ∀ w ∈ lw_tbl, w.before args s = true) : ∃ cy : Nat → ClassId, ∀ (k : Nat) (q : ClassId × FieldType), (px_tys cy)[k]? = some q → ArrOfT s q.1 q.2 ∧ va_RA s q.1 q.2 := by
  obtain ⟨c9, h9⟩ := st_int (hts _ (List.mem_append_right _ (List.mem_of_getElem? (i := 73) (by decide +kernel))))
  obtain ⟨c10, h10⟩ := st_long (hts _ (List.mem_append_right _ (List.mem_of_getElem? (i := 254) (by decide +kernel))))
  obtain ⟨c11, h11⟩ := st_bool (hts _ (List.mem_append_right _ (List.mem_of_getElem? (i := 203) (by decide +kernel))))
  obtain ⟨c12, h12⟩ := st_obj (C := "SaltPrices$Cart") (hts _ (px_nw_tbl _ (by decide +kernel)))
  obtain ⟨c13, h13⟩ := st_obj (C := "SaltPrices$Road") (hts _ (px_nw_tbl _ (by decide +kernel)))
  obtain ⟨c14, h14⟩ := st_obj (C := "SaltPrices$World") (hts _ (px_nw_tbl _ (by decide +kernel)))
  obtain ⟨c15, h15⟩ := st_arr2 (hts _ (px_nw_tbl _ (by decide +kernel)))
  refine ⟨fun k => if k = 9 then c9 else if k = 10 then c10 else if k = 11 then c11 else if k = 12 then c12 else if k = 13 then c13 else if k = 14 then c14 else c15, fun k q hq => ?_⟩
  match k, hq with
  | 0, hq => cases hq; exact h9
  | 1, hq => cases hq; exact h10
  | 2, hq => cases hq; exact h11
  | 3, hq => cases hq; exact h12
  | 4, hq => cases hq; exact h13
  | 5, hq => cases hq; exact h14
  | 6, hq => cases hq; exact h15
  | k + 7, hq => cases hq
theorem st_lst (hts : ∀ w ∈ lw_tbl, w.before args s = true) (hgv : (Jvm.Cond.and given_1 narrow_1).before args s = true) {P : Nat → Prop} (hA : ∀ a : Nat, a < s.heap.size → ¬ P a) : ∃ t : Nat, va_T .int t 4 f_lst P s s.heap ∧ va_Z "SaltPrices" "LEAST_SETTINGS" "[I" (.ref t) P s s.heap := by
  have hs := flat_of_before _ hgv
  obtain ⟨t, h1, h2⟩ := va_Tof (tm := .static "SaltPrices" "LEAST_SETTINGS" "[I") (ty := .int) (N := 4) (f := f_lst) (A := P) (by decide) (hs _ (by decide +kernel)) (va_eqt (hs _ (by decide +kernel))) (fun j hj => by
    rcases (by omega : j = 0 ∨ j = 1 ∨ j = 2 ∨ j = 3) with rfl | rfl | rfl | rfl
    · exact va_eqt (hs _ (by decide +kernel))
    · exact va_eqt (hs _ (by decide +kernel))
    · exact va_eqt (hs _ (by decide +kernel))
    · exact va_eqt (hs _ (by decide +kernel))) hA
  exact ⟨t, h2, va_Zref (hts _ (List.mem_append_right _ (List.mem_of_getElem? (i := 527) (by decide +kernel)))) (hts _ (List.mem_append_right _ (List.mem_of_getElem? (i := 1) (by decide +kernel)))) h1 hA⟩
theorem st_mst (hts : ∀ w ∈ lw_tbl, w.before args s = true) (hgv : (Jvm.Cond.and given_1 narrow_1).before args s = true) {P : Nat → Prop} (hA : ∀ a : Nat, a < s.heap.size → ¬ P a) : ∃ t : Nat, va_T .int t 4 f_mst P s s.heap ∧ va_Z "SaltPrices" "MOST_SETTINGS" "[I" (.ref t) P s s.heap := by
  have hs := flat_of_before _ hgv
  obtain ⟨t, h1, h2⟩ := va_Tof (tm := .static "SaltPrices" "MOST_SETTINGS" "[I") (ty := .int) (N := 4) (f := f_mst) (A := P) (by decide) (hs _ (by decide +kernel)) (va_eqt (hs _ (by decide +kernel))) (fun j hj => by
    rcases (by omega : j = 0 ∨ j = 1 ∨ j = 2 ∨ j = 3) with rfl | rfl | rfl | rfl
    · exact va_eqt (hs _ (by decide +kernel))
    · exact va_eqt (hs _ (by decide +kernel))
    · exact va_eqt (hs _ (by decide +kernel))
    · exact va_eqt (hs _ (by decide +kernel))) hA
  exact ⟨t, h2, va_Zref (hts _ (List.mem_append_right _ (List.mem_of_getElem? (i := 529) (by decide +kernel)))) (hts _ (List.mem_append_right _ (List.mem_of_getElem? (i := 1) (by decide +kernel)))) h1 hA⟩
theorem st_unit (hts : ∀ w ∈ lw_tbl, w.before args s = true) (hgv : (Jvm.Cond.and given_1 narrow_1).before args s = true) {P : Nat → Prop} (hA : ∀ a : Nat, a < s.heap.size → ¬ P a) : ∃ t : Nat, va_T .long t 5 (fun k => Value.long (f_unit k)) P s s.heap ∧ va_Z "SaltPrices" "UNITS" "[J" (.ref t) P s s.heap := by
  have hs := flat_of_before _ hgv
  obtain ⟨t, h1, h2⟩ := va_Tof (tm := .static "SaltPrices" "UNITS" "[J") (ty := .long) (N := 5) (f := (fun k => Value.long (f_unit k))) (A := P) (by decide) (hs _ (by decide +kernel)) (va_eqt (hs _ (by decide +kernel))) (fun j hj => by
    rcases (by omega : j = 0 ∨ j = 1 ∨ j = 2 ∨ j = 3 ∨ j = 4) with rfl | rfl | rfl | rfl | rfl
    · exact va_eqtl (hs _ (by decide +kernel))
    · exact va_eqtl (hs _ (by decide +kernel))
    · exact va_eqtl (hs _ (by decide +kernel))
    · exact va_eqtl (hs _ (by decide +kernel))
    · exact va_eqtl (hs _ (by decide +kernel))) hA
  exact ⟨t, h2, va_Zref (hts _ (List.mem_append_right _ (List.mem_of_getElem? (i := 357) (by decide +kernel)))) (hts _ (List.mem_append_right _ (List.mem_of_getElem? (i := 1) (by decide +kernel)))) h1 hA⟩
theorem st_ini (hts : ∀ w ∈ lw_tbl, w.before args s = true) (hgv : (Jvm.Cond.and given_1 narrow_1).before args s = true) {P : Nat → Prop} (hA : ∀ a : Nat, a < s.heap.size → ¬ P a) : ∃ t : Nat, va_T .int t 4 (fun j => Value.int (f_ini j)) P s s.heap ∧ va_Z "SaltPrices" "FIRST_SETTINGS" "[I" (.ref t) P s s.heap := by
  have hs := flat_of_before _ hgv
  obtain ⟨t, h1, h2⟩ := va_Tof (tm := .static "SaltPrices" "FIRST_SETTINGS" "[I") (ty := .int) (N := 4) (f := (fun j => Value.int (f_ini j))) (A := P) (by decide) (hs _ (by decide +kernel)) (va_eqt (hs _ (by decide +kernel))) (fun j hj => by
    rcases (by omega : j = 0 ∨ j = 1 ∨ j = 2 ∨ j = 3) with rfl | rfl | rfl | rfl
    · exact va_eqt (hs _ (by decide +kernel))
    · exact va_eqt (hs _ (by decide +kernel))
    · exact va_eqt (hs _ (by decide +kernel))
    · exact va_eqt (hs _ (by decide +kernel))) hA
  exact ⟨t, h2, va_Zref (hts _ (List.mem_append_right _ (List.mem_of_getElem? (i := 30) (by decide +kernel)))) (hts _ (List.mem_append_right _ (List.mem_of_getElem? (i := 1) (by decide +kernel)))) h1 hA⟩
theorem st_nw (hts : ∀ w ∈ lw_tbl, w.before args s = true) : ∀ w ∈ px_nw, va_Nw w s := by
  intro w hw
  have h := hts w (px_nw_tbl w hw)
  simp only [px_nw, List.mem_cons, List.not_mem_nil, or_false] at hw
  rcases hw with rfl | rfl | rfl | rfl | rfl | rfl | rfl | rfl | rfl | rfl | rfl | rfl | rfl <;> first | exact va_Nw.of rfl h | exact va_AO.of h | exact h
/-- the law from its entry; Z is what its end says -/
theorem st_all {p : Program} {e : Env} {m : MethodId} {below : List Frame} {meth : Method} {c : Code} {Z : List Frame → Array Value → State → State → Prop} (hL : L ≤ 260) (h1 : p.tables.exec = Jvm.exec) (h2 : c.code = code) (h3 : meth.sig.returnType = ret) (h4 : c.maxLocals = 8) (h5 : s.vm.findClass "SaltPricesLaw" = some m.cls) (hts : ∀ w ∈ lw_tbl, w.before #[Value.ref b] s = true) (hX : va_X b L xs s s.heap) (hb : b < s.heap.size) (hlk : meth.locks = false) (hgv : (Jvm.Cond.and given_1 narrow_1).before #[Value.ref b] s = true)
    (hret : ∀ {p : Program} {e : Env} {s : State} {m : MethodId} {below : List Frame} {meth : Method} {c : Code} {b : Nat}, p.tables.exec = Jvm.exec → c.code = code → meth.sig.returnType = ret → meth.locks = false → ∀ {pc : Nat} {H : Heap} {ls : Array Slot}, decode code pc = .ok (.ireturn, 1) → W p l e room_1 s m #[Value.ref b] below meth c H [] 606743 7282019 (Z below #[Value.ref b] s) (F0 m pc ls [.int 1])) : W p l e room_1 s m #[Value.ref b] below meth c s.heap [] 0 0 (Z below #[Value.ref b] s) (entryFrame m ([Value.ref b] : List Value).toArray 8) := by
  have htw : ∀ w ∈ px_ws, w.before #[Value.ref b] s = true := fun w hw => hts w (px_ws_in hw)
  obtain ⟨D, hD⟩ := st_cls htw
  obtain ⟨cy, hcy⟩ := st_tys hts
  have hA : ∀ a : Nat, a < s.heap.size → ¬ (fun q => s.heap.size ≤ q) a := fun a ha h => by dsimp only at h; omega
  obtain ⟨tl, l1, l2⟩ := st_lst hts hgv hA
  obtain ⟨tm, m1, m2⟩ := st_mst hts hgv hA
  obtain ⟨tu, u1, u2⟩ := st_unit hts hgv hA
  obtain ⟨t0, i1, i2⟩ := st_ini hts hgv hA
  generalize hG : ((D, cy, s.heap.size, [((FieldType.int, tl, 4, f_lst) : px_B), ((FieldType.int, tm, 4, f_mst) : px_B), ((FieldType.long, tu, 5, fun k => Value.long (f_unit k)) : px_B), ((FieldType.int, t0, 4, fun j => Value.int (f_ini j)) : px_B)], [(b, L, xs)], [("SaltPrices", "LEAST_SETTINGS", "[I", Value.ref tl), ("SaltPrices", "MOST_SETTINGS", "[I", Value.ref tm), ("SaltPrices", "UNITS", "[J", Value.ref tu), ("SaltPrices", "FIRST_SETTINGS", "[I", Value.ref t0)]) : px_G) = G
  have g1 : px_tabs G := by subst hG; exact ⟨tl, tm, tu, ⟨0, rfl⟩, ⟨1, rfl⟩, ⟨2, rfl⟩, ⟨0, rfl⟩, ⟨1, rfl⟩, ⟨2, rfl⟩⟩
  have g2 : px_tab0 G := by subst hG; exact ⟨t0, ⟨3, rfl⟩, ⟨3, rfl⟩⟩
  have g3 : G.2.2.2.2.1[0]? = some (b, L, xs) := by subst hG; rfl
  have g4 : px_h G = s.heap.size := by subst hG; rfl
  have hend : ∀ (ls : List (Option Value)) (k n : Nat) (μ : px_M), k ≤ 606743 → n ≤ 7282019 → px_W l G (⟨RL, meth.name, ""⟩ : MethodName) cL_law 8 (some .boolean) room_1 (fun below a s t => (s.heap.size = px_h G ∧ ∃ b, a = #[Value.ref b]) → Z below a s t) 253 ls [.int 1] k n μ := by
    intro ls k n μ hk hn p e s' m args below meth c H locs la X hl hF
    by_cases hc : s'.heap.size = px_h G ∧ ∃ b, args = #[Value.ref b]
    · obtain ⟨hc1, b', rfl⟩ := id hc
      refine W.widen hk hn (va_forget (fun q hq => by rw [hc1]; exact hF.2.2.2.2.2 q hq) ?_)
      intro T hT X0
      obtain ⟨t, a1, b1⟩ := hret X.1 X.2.1 X.2.2.1 X.2.2.2.2.2.2.1 dL_law_253 T hT X0
      exact ⟨t, a1, fun _ => b1⟩
    · intro T hT X0
      exact ⟨_, Steps.refl _, fun h => absurd h hc⟩
  have hW := lw_all (l := l) (nm := meth.name) (T := (0, fun _ => (0, 0))) (I := fun _ _ => 0) (J := fun _ _ => 0) (R := fun _ _ => none) g1 g2 g3 hL hend rfl
  have hl := lv_entry [Value.ref b] (n := 8) (Nat.le_of_ble_eq_true rfl)
  rw [lg_entry_eq]
  have hx : px_X G (⟨RL, meth.name, ""⟩ : MethodName) cL_law 8 (some .boolean) p s m #[Value.ref b] meth c := by
    refine ⟨h1, h2, h3, h5, htw, h4, hlk, rfl, by rw [g4]; exact Nat.le_refl _, ?_, ?_, ?_, ?_, st_nw hts⟩
    · subst hG; exact ⟨hD, hcy⟩
    · subst hG
      intro k bq hq
      match k, hq with
      | 0, hq => cases hq; exact l1
      | 1, hq => cases hq; exact m1
      | 2, hq => cases hq; exact u1
      | 3, hq => cases hq; exact i1
      | k + 4, hq => cases hq
    · subst hG
      intro k bq hq
      match k, hq with
      | 0, hq => cases hq; exact ⟨hX, hb⟩
      | k + 1, hq => cases hq
    · subst hG
      intro k z hq
      match k, hq with
      | 0, hq => cases hq; exact l2
      | 1, hq => cases hq; exact m2
      | 2, hq => cases hq; exact u2
      | 3, hq => cases hq; exact i2
      | k + 4, hq => cases hq
  have hw0 : ∀ (k : Nat) (q : Nat × va_E), ¬ (px_w G ((0, fun _ => (0, 0)), fun _ _ => 0, fun _ _ => 0, fun _ _ => none))[k]? = some q := fun k q hq => by
    rw [show px_w G ((0, fun _ => (0, 0)), fun _ _ => 0, fun _ _ => 0, fun _ _ => none) = [] from rfl, List.getElem?_nil] at hq
    cases hq
  have hf : px_F G ((0, fun _ => (0, 0)), fun _ _ => 0, fun _ _ => 0, fun _ _ => none) s s.heap [] := by
    refine ⟨?_, ⟨?_, ?_⟩, g4.symm, va_S.rf⟩
    · intro k q hq
      exact absurd hq (hw0 k q)
    · intro i j p q hp
      exact absurd hp (hw0 i p)
    · intro k q hq
      exact absurd hq (hw0 k q)
  intro T hT X0
  obtain ⟨t, a1, b1⟩ := hW p e s m #[Value.ref b] below meth c s.heap [] _ hx ⟨hl, rfl⟩ hf T hT X0
  exact ⟨t, a1, b1 ⟨g4.symm, b, rfl⟩⟩
end STA

