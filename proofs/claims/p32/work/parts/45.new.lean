/-! rows of allocation for the classes of the program -/
section NEWR
variable {l : Launch} {G : px_G} {y : MethodName} {cc : ByteArray} {nL : Nat} {ret : Option FieldType} {Rm : Room} {Fn : List Frame → Array Value → State → State → Prop} {pc : Nat} {ls : List (Option Value)} {st : List Value} {k n : Nat} {T : px_T} {I : px_I} {J : px_J} {R : px_R} {μ : px_M}
theorem an_X1_9 {N w : Nat} {i : Int32} (hy : y.cls = RX1) (hw : px_h G + μ.1.1 = w) (hi : i = nI N) (hN : N < 1000) (hR : k + 1 ≤ Rm.cells ∧ n + N ≤ Rm.slots) (d : decode cc pc = .ok (.anewarray 9, 3)) (h : px_W l G y cc nL ret Rm Fn (pc + 3) ls (.ref w :: st) (k + 1) (n + N) (px_nx G μ 14 N)) : px_W l G y cc nL ret Rm Fn pc ls (.int i :: st) k n μ := by
  subst hw
  exact px_anew (t := 5) (fun _ => rfl) (by rw [hy]; exact px_wk 175 (by decide +kernel) (by decide +kernel)) (by decide +kernel) (fun _ => rfl) hi hN hR d h
theorem nw_X1_9 {w : Nat} (hy : y.cls = RX1) (hw : px_h G + μ.1.1 = w) (hR : k + 1 ≤ Rm.cells ∧ n + 11 ≤ Rm.slots) (d : decode cc pc = .ok (.new 9, 3)) (h : px_W l G y cc nL ret Rm Fn (pc + 3) ls (.ref w :: st) (k + 1) (n + 11) (px_nx G μ 6 0)) : px_W l G y cc nL ret Rm Fn pc ls st k n μ := by
  subst hw
  exact px_newc pc_6 (by rw [hy]; exact px_wk 175 (by decide +kernel) (by decide +kernel)) (px_wk 20 (by decide +kernel) (by decide +kernel)) (px_wk 2 (by decide +kernel) (by decide +kernel)) (fun j hj => match j, hj with | 0, _ => rfl | 1, _ => rfl | 2, _ => rfl | 3, _ => rfl | 4, _ => rfl | 5, _ => rfl | 6, _ => rfl | 7, _ => rfl | 8, _ => rfl | 9, _ => rfl | 10, _ => rfl | j + 11, hj => absurd hj (by omega)) hR d h
theorem an_X6_18 {N w : Nat} {i : Int32} (hy : y.cls = RX6) (hw : px_h G + μ.1.1 = w) (hi : i = nI N) (hN : N < 1000) (hR : k + 1 ≤ Rm.cells ∧ n + N ≤ Rm.slots) (d : decode cc pc = .ok (.anewarray 18, 3)) (h : px_W l G y cc nL ret Rm Fn (pc + 3) ls (.ref w :: st) (k + 1) (n + N) (px_nx G μ 13 N)) : px_W l G y cc nL ret Rm Fn pc ls (.int i :: st) k n μ := by
  subst hw
  exact px_anew (t := 4) (fun _ => rfl) (by rw [hy]; exact px_wk 25 (by decide +kernel) (by decide +kernel)) (by decide +kernel) (fun _ => rfl) hi hN hR d h
theorem an_X6_24 {N w : Nat} {i : Int32} (hy : y.cls = RX6) (hw : px_h G + μ.1.1 = w) (hi : i = nI N) (hN : N < 1000) (hR : k + 1 ≤ Rm.cells ∧ n + N ≤ Rm.slots) (d : decode cc pc = .ok (.anewarray 24, 3)) (h : px_W l G y cc nL ret Rm Fn (pc + 3) ls (.ref w :: st) (k + 1) (n + N) (px_nx G μ 12 N)) : px_W l G y cc nL ret Rm Fn pc ls (.int i :: st) k n μ := by
  subst hw
  exact px_anew (t := 3) (fun _ => rfl) (by rw [hy]; exact px_wk 27 (by decide +kernel) (by decide +kernel)) (by decide +kernel) (fun _ => rfl) hi hN hR d h
theorem nw_X6_18 {w : Nat} (hy : y.cls = RX6) (hw : px_h G + μ.1.1 = w) (hR : k + 1 ≤ Rm.cells ∧ n + 6 ≤ Rm.slots) (d : decode cc pc = .ok (.new 18, 3)) (h : px_W l G y cc nL ret Rm Fn (pc + 3) ls (.ref w :: st) (k + 1) (n + 6) (px_nx G μ 4 0)) : px_W l G y cc nL ret Rm Fn pc ls st k n μ := by
  subst hw
  exact px_newc pc_4 (by rw [hy]; exact px_wk 25 (by decide +kernel) (by decide +kernel)) (px_wk 34 (by decide +kernel) (by decide +kernel)) (px_wk 4 (by decide +kernel) (by decide +kernel)) (fun j hj => match j, hj with | 0, _ => rfl | 1, _ => rfl | 2, _ => rfl | 3, _ => rfl | 4, _ => rfl | 5, _ => rfl | j + 6, hj => absurd hj (by omega)) hR d h
theorem nw_X6_24 {w : Nat} (hy : y.cls = RX6) (hw : px_h G + μ.1.1 = w) (hR : k + 1 ≤ Rm.cells ∧ n + 8 ≤ Rm.slots) (d : decode cc pc = .ok (.new 24, 3)) (h : px_W l G y cc nL ret Rm Fn (pc + 3) ls (.ref w :: st) (k + 1) (n + 8) (px_nx G μ 0 0)) : px_W l G y cc nL ret Rm Fn pc ls st k n μ := by
  subst hw
  exact px_newc pc_0 (by rw [hy]; exact px_wk 27 (by decide +kernel) (by decide +kernel)) (px_wk 74 (by decide +kernel) (by decide +kernel)) (px_wk 5 (by decide +kernel) (by decide +kernel)) (fun j hj => match j, hj with | 0, _ => rfl | 1, _ => rfl | 2, _ => rfl | 3, _ => rfl | 4, _ => rfl | 5, _ => rfl | 6, _ => rfl | 7, _ => rfl | j + 8, hj => absurd hj (by omega)) hR d h
theorem nw_X7_7 {w : Nat} (hy : y.cls = RX7) (hw : px_h G + μ.1.1 = w) (hR : k + 1 ≤ Rm.cells ∧ n + 11 ≤ Rm.slots) (d : decode cc pc = .ok (.new 7, 3)) (h : px_W l G y cc nL ret Rm Fn (pc + 3) ls (.ref w :: st) (k + 1) (n + 11) (px_nx G μ 6 0)) : px_W l G y cc nL ret Rm Fn pc ls st k n μ := by
  subst hw
  exact px_newc pc_6 (by rw [hy]; exact px_wk 19 (by decide +kernel) (by decide +kernel)) (px_wk 20 (by decide +kernel) (by decide +kernel)) (px_wk 2 (by decide +kernel) (by decide +kernel)) (fun j hj => match j, hj with | 0, _ => rfl | 1, _ => rfl | 2, _ => rfl | 3, _ => rfl | 4, _ => rfl | 5, _ => rfl | 6, _ => rfl | 7, _ => rfl | 8, _ => rfl | 9, _ => rfl | 10, _ => rfl | j + 11, hj => absurd hj (by omega)) hR d h
theorem nw_X7_16 {w : Nat} (hy : y.cls = RX7) (hw : px_h G + μ.1.1 = w) (hR : k + 1 ≤ Rm.cells ∧ n + 3 ≤ Rm.slots) (d : decode cc pc = .ok (.new 16, 3)) (h : px_W l G y cc nL ret Rm Fn (pc + 3) ls (.ref w :: st) (k + 1) (n + 3) (px_nx G μ 1 0)) : px_W l G y cc nL ret Rm Fn pc ls st k n μ := by
  subst hw
  exact px_newc pc_1 (by rw [hy]; exact px_wk 169 (by decide +kernel) (by decide +kernel)) (px_wk 170 (by decide +kernel) (by decide +kernel)) (px_wk 6 (by decide +kernel) (by decide +kernel)) (fun j hj => match j, hj with | 0, _ => rfl | 1, _ => rfl | 2, _ => rfl | j + 3, hj => absurd hj (by omega)) hR d h
theorem an_X7_7 {N w : Nat} {i : Int32} (hy : y.cls = RX7) (hw : px_h G + μ.1.1 = w) (hi : i = nI N) (hN : N < 1000) (hR : k + 1 ≤ Rm.cells ∧ n + N ≤ Rm.slots) (d : decode cc pc = .ok (.anewarray 7, 3)) (h : px_W l G y cc nL ret Rm Fn (pc + 3) ls (.ref w :: st) (k + 1) (n + N) (px_nx G μ 14 N)) : px_W l G y cc nL ret Rm Fn pc ls (.int i :: st) k n μ := by
  subst hw
  exact px_anew (t := 5) (fun _ => rfl) (by rw [hy]; exact px_wk 19 (by decide +kernel) (by decide +kernel)) (by decide +kernel) (fun _ => rfl) hi hN hR d h
theorem nw_X7_31 {w : Nat} (hy : y.cls = RX7) (hw : px_h G + μ.1.1 = w) (hR : k + 1 ≤ Rm.cells ∧ n + 2 ≤ Rm.slots) (d : decode cc pc = .ok (.new 31, 3)) (h : px_W l G y cc nL ret Rm Fn (pc + 3) ls (.ref w :: st) (k + 1) (n + 2) (px_nx G μ 2 0)) : px_W l G y cc nL ret Rm Fn pc ls st k n μ := by
  subst hw
  exact px_newc pc_2 (by rw [hy]; exact px_wk 189 (by decide +kernel) (by decide +kernel)) (px_wk 190 (by decide +kernel) (by decide +kernel)) (px_wk 7 (by decide +kernel) (by decide +kernel)) (fun j hj => match j, hj with | 0, _ => rfl | 1, _ => rfl | j + 2, hj => absurd hj (by omega)) hR d h
theorem nw_X7_38 {w : Nat} (hy : y.cls = RX7) (hw : px_h G + μ.1.1 = w) (hR : k + 1 ≤ Rm.cells ∧ n + 7 ≤ Rm.slots) (d : decode cc pc = .ok (.new 38, 3)) (h : px_W l G y cc nL ret Rm Fn (pc + 3) ls (.ref w :: st) (k + 1) (n + 7) (px_nx G μ 3 0)) : px_W l G y cc nL ret Rm Fn pc ls st k n μ := by
  subst hw
  exact px_newc pc_3 (by rw [hy]; exact px_wk 204 (by decide +kernel) (by decide +kernel)) (px_wk 205 (by decide +kernel) (by decide +kernel)) (px_wk 8 (by decide +kernel) (by decide +kernel)) (fun j hj => match j, hj with | 0, _ => rfl | 1, _ => rfl | 2, _ => rfl | 3, _ => rfl | 4, _ => rfl | 5, _ => rfl | 6, _ => rfl | j + 7, hj => absurd hj (by omega)) hR d h
theorem nw_X7_47 {w : Nat} (hy : y.cls = RX7) (hw : px_h G + μ.1.1 = w) (hR : k + 1 ≤ Rm.cells ∧ n + 4 ≤ Rm.slots) (d : decode cc pc = .ok (.new 47, 3)) (h : px_W l G y cc nL ret Rm Fn (pc + 3) ls (.ref w :: st) (k + 1) (n + 4) (px_nx G μ 5 0)) : px_W l G y cc nL ret Rm Fn pc ls st k n μ := by
  subst hw
  exact px_newc pc_5 (by rw [hy]; exact px_wk 232 (by decide +kernel) (by decide +kernel)) (px_wk 233 (by decide +kernel) (by decide +kernel)) (px_wk 9 (by decide +kernel) (by decide +kernel)) (fun j hj => match j, hj with | 0, _ => rfl | 1, _ => rfl | 2, _ => rfl | 3, _ => rfl | j + 4, hj => absurd hj (by omega)) hR d h
theorem nw_L_15 {w : Nat} (hy : y.cls = RL) (hw : px_h G + μ.1.1 = w) (hR : k + 1 ≤ Rm.cells ∧ n + 9 ≤ Rm.slots) (d : decode cc pc = .ok (.new 15, 3)) (h : px_W l G y cc nL ret Rm Fn (pc + 3) ls (.ref w :: st) (k + 1) (n + 9) (px_nx G μ 7 0)) : px_W l G y cc nL ret Rm Fn pc ls st k n μ := by
  subst hw
  exact px_newc pc_7 (by rw [hy]; exact px_wk 11 (by decide +kernel) (by decide +kernel)) (px_wk 12 (by decide +kernel) (by decide +kernel)) (px_wk 1 (by decide +kernel) (by decide +kernel)) (fun j hj => match j, hj with | 0, _ => rfl | 1, _ => rfl | 2, _ => rfl | 3, _ => rfl | 4, _ => rfl | 5, _ => rfl | 6, _ => rfl | 7, _ => rfl | 8, _ => rfl | j + 9, hj => absurd hj (by omega)) hR d h
theorem na_int {N w : Nat} {i : Int32} (hw : px_h G + μ.1.1 = w) (hi : i = nI N) (hN : N < 1000) (hR : k + 1 ≤ Rm.cells ∧ n + N ≤ Rm.slots) (d : decode cc pc = .ok (.newarray .int, 2)) (h : px_W l G y cc nL ret Rm Fn (pc + 2) ls (.ref w :: st) (k + 1) (n + N) (px_nx G μ 9 N)) : px_W l G y cc nL ret Rm Fn pc ls (.int i :: st) k n μ := by
  subst hw
  exact px_newa (t := 0) (ty := .int) rfl (fun _ => rfl) (px_wk 73 (by decide +kernel) (by decide +kernel)) (fun _ _ h => h) (fun cy => ⟨(N, .inl fun _ => 0), rfl, rfl⟩) hi hN (by decide) hR d h
theorem na_long {N w : Nat} {i : Int32} (hw : px_h G + μ.1.1 = w) (hi : i = nI N) (hN : N < 1000) (hR : k + 1 ≤ Rm.cells ∧ n + N ≤ Rm.slots) (d : decode cc pc = .ok (.newarray .long, 2)) (h : px_W l G y cc nL ret Rm Fn (pc + 2) ls (.ref w :: st) (k + 1) (n + N) (px_nx G μ 10 N)) : px_W l G y cc nL ret Rm Fn pc ls (.int i :: st) k n μ := by
  subst hw
  exact px_newa (t := 1) (ty := .long) rfl (fun _ => rfl) (px_wk 254 (by decide +kernel) (by decide +kernel)) (fun _ _ h => h) (fun cy => ⟨(N, .inr (.inl fun _ => 0)), rfl, rfl⟩) hi hN (by decide) hR d h
theorem na_boolean {N w : Nat} {i : Int32} (hw : px_h G + μ.1.1 = w) (hi : i = nI N) (hN : N < 1000) (hR : k + 1 ≤ Rm.cells ∧ n + N ≤ Rm.slots) (d : decode cc pc = .ok (.newarray .boolean, 2)) (h : px_W l G y cc nL ret Rm Fn (pc + 2) ls (.ref w :: st) (k + 1) (n + N) (px_nx G μ 11 N)) : px_W l G y cc nL ret Rm Fn pc ls (.int i :: st) k n μ := by
  subst hw
  exact px_newa (t := 2) (ty := .boolean) rfl (fun _ => rfl) (px_wk 203 (by decide +kernel) (by decide +kernel)) (fun _ _ h => h) (fun cy => ⟨(N, .inl fun _ => 0), rfl, rfl⟩) hi hN (by decide) hR d h
theorem px_alen14 {a w : Nat} {v : Int32} (d : decode cc pc = .ok (.arraylength, 1)) (ha : px_at G T a 14 w) (hv : nI w = v) (h : px_W l G y cc nL ret Rm Fn (pc + 1) ls (.int v :: st) k n (T, I, J, R)) : px_W l G y cc nL ret Rm Fn pc ls (.ref a :: st) k n (T, I, J, R) := by
  subst hv
  intro p e s m args below meth c' H locs la X hl hF
  obtain ⟨hx, hb, hr, hown, hts, hml, hlk, hnm, hle, hK, hTb, hXs, hZs, hNs⟩ := id X
  obtain ⟨hP, hD, hz, hS⟩ := id hF
  obtain ⟨q, hq⟩ := px_at_get (I := I) (J := J) (R := R) ha
  exact va_alen hx hb hK hP q 5 hq rfl rfl d (h p e s m args below meth c' H locs la X hl hF)
theorem mu_X5_9 {w : Nat} (hy : y.cls = RX5) (hw : px_h G + μ.1.1 = w) (hR : k + 6 ≤ Rm.cells ∧ n + 45 ≤ Rm.slots) (d : decode cc pc = .ok (.multianewarray 9 2, 4)) (h : px_W l G y cc nL ret Rm Fn (pc + 4) ls (.ref w :: st) (k + 6) (n + 45) (px_mm G μ)) : px_W l G y cc nL ret Rm Fn pc ls (.int 8 :: .int 5 :: st) k n μ := by
  subst hw
  exact px_multi (by rw [hy]; exact px_wk 238 (by decide +kernel) (by decide +kernel)) (by decide +kernel) (px_wk 254 (by decide +kernel) (by decide +kernel)) hR d h
end NEWR
