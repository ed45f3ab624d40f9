/-! the reference: its object at m, with its rows behind it; its state is the row at m + 1 -/
def px_mo (G : px_G) (T : px_T) (R : px_R) (m : Nat) : Prop :=
  px_at G T m 8 0 ∧ (R m 0 = some (m + 1) ∧ R m 1 = some (m + 2) ∧ R m 2 = some (m + 3) ∧ R m 4 = some (m + 4) ∧ R m 6 = some (m + 5) ∧ R m 8 = some (m + 6)) ∧
  px_at G T (m + 1) 9 151 ∧ px_at G T (m + 2) 9 151 ∧ px_at G T (m + 3) 9 906 ∧ px_at G T (m + 4) 9 302 ∧ px_at G T (m + 5) 9 80 ∧ px_at G T (m + 6) 10 40
section PMO
variable {G : px_G} {T : px_T} {R : px_R} {m : Nat}
theorem mo_a (h : px_mo G T R m) : px_at G T m 8 0 := h.1
theorem mo_r0 (h : px_mo G T R m) : R m 0 = some (m + 1) := h.2.1.1
theorem mo_r1 (h : px_mo G T R m) : R m 1 = some (m + 2) := h.2.1.2.1
theorem mo_r2 (h : px_mo G T R m) : R m 2 = some (m + 3) := h.2.1.2.2.1
theorem mo_r4 (h : px_mo G T R m) : R m 4 = some (m + 4) := h.2.1.2.2.2.1
theorem mo_r6 (h : px_mo G T R m) : R m 6 = some (m + 5) := h.2.1.2.2.2.2.1
theorem mo_r8 (h : px_mo G T R m) : R m 8 = some (m + 6) := h.2.1.2.2.2.2.2
theorem mo_a1 (h : px_mo G T R m) : px_at G T (m + 1) 9 151 := h.2.2.1
theorem mo_a2 (h : px_mo G T R m) : px_at G T (m + 2) 9 151 := h.2.2.2.1
theorem mo_a3 (h : px_mo G T R m) : px_at G T (m + 3) 9 906 := h.2.2.2.2.1
theorem mo_a4 (h : px_mo G T R m) : px_at G T (m + 4) 9 302 := h.2.2.2.2.2.1
theorem mo_a5 (h : px_mo G T R m) : px_at G T (m + 5) 9 80 := h.2.2.2.2.2.2.1
theorem mo_a6 (h : px_mo G T R m) : px_at G T (m + 6) 10 40 := h.2.2.2.2.2.2.2
end PMO
def px_set {α : Type} (I : Nat → α) (a : Nat) (g : α) : Nat → α := fun b => if b = a then g else I b
theorem px_up_set {I : px_I} {a k : Nat} {v : Int32} : px_up I a k v = px_set I a (upd (I a) k v) := rfl
theorem px_set_self {α : Type} {I : Nat → α} {a : Nat} {g : α} : px_set I a g a = g := if_pos rfl
theorem px_set_ne {α : Type} {I : Nat → α} {a b : Nat} {g : α} (h : b ≠ a) : px_set I a g b = I b := if_neg h
theorem px_set_set {α : Type} {I : Nat → α} {a : Nat} {g g' : α} : px_set (px_set I a g) a g' = px_set I a g' := by
  funext b
  by_cases h : b = a
  · subst h; rw [px_set_self, px_set_self]
  · rw [px_set_ne h, px_set_ne h, px_set_ne h]
theorem px_set_id {α : Type} {I : Nat → α} {a : Nat} : px_set I a (I a) = I := by
  funext b
  by_cases h : b = a
  · subst h; rw [px_set_self]
  · rw [px_set_ne h]
section ML
variable {l : Launch} {G : px_G} {T : px_T} {I : px_I} {J : px_J} {R : px_R} {μ : px_M} {m : Nat}
theorem s_X8_in {v a b : Int32} : px_K l G 0 mX8_in ([.int v, .int a, .int b]) (μ) (some (.int (if rg v a b then 1 else 0))) (μ) := by
  refine px_met (M := mX8_in) ([some (.int v), some (.int a), some (.int b)]) (by decide +kernel) rfl (Nat.le_of_ble_eq_true rfl) rfl ?_
  refine px_iload_0 dX8_in_0 ?_
  refine px_iload_1 dX8_in_1 ?_
  refine px_icmp_lt (tgt := 14) dX8_in_2 (by decide) (fun h2 => ?_) (fun h2 => ?_)
  · skip
    refine px_iconst (0) dX8_in_14 rfl ?_
    refine px_zret dX8_in_15 (by first | rfl | exact px_nb _) ?_
    exact ⟨by grind, rfl⟩
  · skip
    refine px_iload_0 dX8_in_5 ?_
    refine px_iload_2 dX8_in_6 ?_
    refine px_icmp_gt (tgt := 14) dX8_in_7 (by decide) (fun h7 => ?_) (fun h7 => ?_)
    · skip
      refine px_iconst (0) dX8_in_14 rfl ?_
      refine px_zret dX8_in_15 (by first | rfl | exact px_nb _) ?_
      exact ⟨by grind, rfl⟩
    · skip
      refine px_iconst (1) dX8_in_10 rfl ?_
      refine px_goto (tgt := 15) dX8_in_11 (by decide) ?_
      refine px_zret dX8_in_15 (by first | rfl | exact px_nb _) ?_
      exact ⟨by grind, rfl⟩
theorem s_X8_isTown {v : Int32} : px_K l G 1 mX8_isTown ([.int v]) (μ) (some (.int (if rg v 0 7 then 1 else 0))) (μ) := by
  refine px_met (M := mX8_isTown) ([some (.int v)]) (by decide +kernel) rfl (Nat.le_of_ble_eq_true rfl) rfl ?_
  refine px_iload_0 dX8_isTown_0 ?_
  refine px_iconst (0) dX8_isTown_1 rfl ?_
  refine px_bipush (7) dX8_isTown_2 rfl ?_
  refine cd_X8_29 rfl ⟨⟨Nat.le_of_ble_eq_true rfl, Nat.le_of_ble_eq_true rfl⟩, Nat.le_of_ble_eq_true rfl, Nat.le_of_ble_eq_true rfl, Nat.le_of_ble_eq_true rfl⟩ dX8_isTown_4 (s_X8_in) ?_
  refine px_zret dX8_isTown_7 (by first | rfl | exact px_nb _) ?_
  exact ⟨rfl, rfl⟩
theorem s_X8_isRoad {v : Int32} (hm : px_mo G T R m) : px_K l G 1 mX8_isRoad ([.ref m, .int v]) ((T, I, J, R)) (some (.int (if rg v 0 (I (m + 1) 8 - 1) then 1 else 0))) ((T, I, J, R)) := by
  refine px_met (M := mX8_isRoad) ([some (.ref m), some (.int v)]) (by decide +kernel) rfl (Nat.le_of_ble_eq_true rfl) rfl ?_
  refine px_iload_1 dX8_isRoad_0 ?_
  refine px_iconst (0) dX8_isRoad_1 rfl ?_
  refine px_aload_0 dX8_isRoad_2 ?_
  refine gf_X8_7 rfl dX8_isRoad_3 (by first | assumption | exact mo_a hm | exact mo_r0 hm | exact mo_r1 hm | exact mo_r2 hm | exact mo_r4 hm | exact mo_r6 hm | exact mo_r8 hm | exact mo_a1 hm | exact mo_a2 hm | exact mo_a3 hm | exact mo_a4 hm | exact mo_a5 hm | exact mo_a6 hm) (by first | assumption | exact mo_a hm | exact mo_r0 hm | exact mo_r1 hm | exact mo_r2 hm | exact mo_r4 hm | exact mo_r6 hm | exact mo_r8 hm | exact mo_a1 hm | exact mo_a2 hm | exact mo_a3 hm | exact mo_a4 hm | exact mo_a5 hm | exact mo_a6 hm) ?_
  refine px_bipush (8) dX8_isRoad_6 rfl ?_
  refine px_ialdN (j := 8) dX8_isRoad_8 (by first | assumption | exact mo_a hm | exact mo_r0 hm | exact mo_r1 hm | exact mo_r2 hm | exact mo_r4 hm | exact mo_r6 hm | exact mo_r8 hm | exact mo_a1 hm | exact mo_a2 hm | exact mo_a3 hm | exact mo_a4 hm | exact mo_a5 hm | exact mo_a6 hm) (by first | rfl | exact ix_eq (by assumption)) (by first | decide | omega) ?_
  refine px_iconst (1) dX8_isRoad_9 rfl ?_
  refine px_isub dX8_isRoad_10 ?_
  refine cd_X8_29 rfl ⟨⟨Nat.le_of_ble_eq_true rfl, Nat.le_of_ble_eq_true rfl⟩, Nat.le_of_ble_eq_true rfl, Nat.le_of_ble_eq_true rfl, Nat.le_of_ble_eq_true rfl⟩ dX8_isRoad_11 (s_X8_in) ?_
  refine px_zret dX8_isRoad_14 (by first | rfl | exact px_nb _) ?_
  exact ⟨rfl, rfl⟩
theorem s_X8_isCart {v : Int32} (hm : px_mo G T R m) : px_K l G 1 mX8_isCart ([.ref m, .int v]) ((T, I, J, R)) (some (.int (if rg v 0 (I (m + 1) 93 - 1) then 1 else 0))) ((T, I, J, R)) := by
  refine px_met (M := mX8_isCart) ([some (.ref m), some (.int v)]) (by decide +kernel) rfl (Nat.le_of_ble_eq_true rfl) rfl ?_
  refine px_iload_1 dX8_isCart_0 ?_
  refine px_iconst (0) dX8_isCart_1 rfl ?_
  refine px_aload_0 dX8_isCart_2 ?_
  refine gf_X8_7 rfl dX8_isCart_3 (by first | assumption | exact mo_a hm | exact mo_r0 hm | exact mo_r1 hm | exact mo_r2 hm | exact mo_r4 hm | exact mo_r6 hm | exact mo_r8 hm | exact mo_a1 hm | exact mo_a2 hm | exact mo_a3 hm | exact mo_a4 hm | exact mo_a5 hm | exact mo_a6 hm) (by first | assumption | exact mo_a hm | exact mo_r0 hm | exact mo_r1 hm | exact mo_r2 hm | exact mo_r4 hm | exact mo_r6 hm | exact mo_r8 hm | exact mo_a1 hm | exact mo_a2 hm | exact mo_a3 hm | exact mo_a4 hm | exact mo_a5 hm | exact mo_a6 hm) ?_
  refine px_bipush (93) dX8_isCart_6 rfl ?_
  refine px_ialdN (j := 93) dX8_isCart_8 (by first | assumption | exact mo_a hm | exact mo_r0 hm | exact mo_r1 hm | exact mo_r2 hm | exact mo_r4 hm | exact mo_r6 hm | exact mo_r8 hm | exact mo_a1 hm | exact mo_a2 hm | exact mo_a3 hm | exact mo_a4 hm | exact mo_a5 hm | exact mo_a6 hm) (by first | rfl | exact ix_eq (by assumption)) (by first | decide | omega) ?_
  refine px_iconst (1) dX8_isCart_9 rfl ?_
  refine px_isub dX8_isCart_10 ?_
  refine cd_X8_29 rfl ⟨⟨Nat.le_of_ble_eq_true rfl, Nat.le_of_ble_eq_true rfl⟩, Nat.le_of_ble_eq_true rfl, Nat.le_of_ble_eq_true rfl, Nat.le_of_ble_eq_true rfl⟩ dX8_isCart_11 (s_X8_in) ?_
  refine px_zret dX8_isCart_14 (by first | rfl | exact px_nb _) ?_
  exact ⟨rfl, rfl⟩
theorem s_X8_ofOneRoad {v : Int32} {r j : Nat} (e : v = nI r) : px_K l G 0 mX8_ofOneRoad ([.int v, .int (nI j)]) (μ) (some (.int (nI (9 + 6 * r + j)))) (μ) := by
  subst e
  refine px_met (M := mX8_ofOneRoad) ([some (.int (nI r)), some (.int (nI j))]) (by decide +kernel) rfl (Nat.le_of_ble_eq_true rfl) rfl ?_
  refine px_bipush (9) dX8_ofOneRoad_0 rfl ?_
  refine px_bipush (6) dX8_ofOneRoad_2 rfl ?_
  refine px_iload_0 dX8_ofOneRoad_4 ?_
  refine px_imul dX8_ofOneRoad_5 ?_
  refine px_iadd dX8_ofOneRoad_6 ?_
  refine px_iload_1 dX8_ofOneRoad_7 ?_
  refine px_iadd dX8_ofOneRoad_8 ?_
  refine px_iret dX8_ofOneRoad_9 ?_
  exact ⟨by rw [show (9 : Int32) + 6 * nI r + nI j = nI 9 + nI 6 * nI r + nI j from rfl, pk_mul, nI_add, nI_add], rfl⟩
theorem s_X8_ofOneCart {v : Int32} {r j : Nat} (e : v = nI r) : px_K l G 0 mX8_ofOneCart ([.int v, .int (nI j)]) (μ) (some (.int (nI (94 + 8 * r + j)))) (μ) := by
  subst e
  refine px_met (M := mX8_ofOneCart) ([some (.int (nI r)), some (.int (nI j))]) (by decide +kernel) rfl (Nat.le_of_ble_eq_true rfl) rfl ?_
  refine px_bipush (94) dX8_ofOneCart_0 rfl ?_
  refine px_bipush (8) dX8_ofOneCart_2 rfl ?_
  refine px_iload_0 dX8_ofOneCart_4 ?_
  refine px_imul dX8_ofOneCart_5 ?_
  refine px_iadd dX8_ofOneCart_6 ?_
  refine px_iload_1 dX8_ofOneCart_7 ?_
  refine px_iadd dX8_ofOneCart_8 ?_
  refine px_iret dX8_ofOneCart_9 ?_
  exact ⟨by rw [show (94 : Int32) + 8 * nI r + nI j = nI 94 + nI 8 * nI r + nI j from rfl, pk_mul, nI_add, nI_add], rfl⟩
theorem s_X8_becomes {i v : Int32} {k : Nat} (hm : px_mo G T R m) (e : i = nI k) (hk : k < 151) : px_K l G 0 mX8_becomes ([.ref m, .int i, .int v]) ((T, I, J, R)) (some (.int (I (m + 1) k))) ((T, px_set I (m + 1) (upd (I (m + 1)) k v), J, R)) := by
  refine px_met (M := mX8_becomes) ([some (.ref m), some (.int i), some (.int v), none]) (by decide +kernel) rfl (Nat.le_of_ble_eq_true rfl) rfl ?_
  refine px_aload_0 dX8_becomes_0 ?_
  refine gf_X8_7 rfl dX8_becomes_1 (by first | assumption | exact mo_a hm | exact mo_r0 hm | exact mo_r1 hm | exact mo_r2 hm | exact mo_r4 hm | exact mo_r6 hm | exact mo_r8 hm | exact mo_a1 hm | exact mo_a2 hm | exact mo_a3 hm | exact mo_a4 hm | exact mo_a5 hm | exact mo_a6 hm) (by first | assumption | exact mo_a hm | exact mo_r0 hm | exact mo_r1 hm | exact mo_r2 hm | exact mo_r4 hm | exact mo_r6 hm | exact mo_r8 hm | exact mo_a1 hm | exact mo_a2 hm | exact mo_a3 hm | exact mo_a4 hm | exact mo_a5 hm | exact mo_a6 hm) ?_
  refine px_iload_1 dX8_becomes_4 ?_
  refine px_ialdN dX8_becomes_5 (by first | assumption | exact mo_a hm | exact mo_r0 hm | exact mo_r1 hm | exact mo_r2 hm | exact mo_r4 hm | exact mo_r6 hm | exact mo_r8 hm | exact mo_a1 hm | exact mo_a2 hm | exact mo_a3 hm | exact mo_a4 hm | exact mo_a5 hm | exact mo_a6 hm) (by exact e) (by first | decide | omega) ?_
  refine px_istore_3 dX8_becomes_6 rfl ?_
  refine px_aload_0 dX8_becomes_7 ?_
  refine gf_X8_7 rfl dX8_becomes_8 (by first | assumption | exact mo_a hm | exact mo_r0 hm | exact mo_r1 hm | exact mo_r2 hm | exact mo_r4 hm | exact mo_r6 hm | exact mo_r8 hm | exact mo_a1 hm | exact mo_a2 hm | exact mo_a3 hm | exact mo_a4 hm | exact mo_a5 hm | exact mo_a6 hm) (by first | assumption | exact mo_a hm | exact mo_r0 hm | exact mo_r1 hm | exact mo_r2 hm | exact mo_r4 hm | exact mo_r6 hm | exact mo_r8 hm | exact mo_a1 hm | exact mo_a2 hm | exact mo_a3 hm | exact mo_a4 hm | exact mo_a5 hm | exact mo_a6 hm) ?_
  refine px_iload_1 dX8_becomes_11 ?_
  refine px_iload_2 dX8_becomes_12 ?_
  refine px_iastN dX8_becomes_13 (by first | assumption | exact mo_a hm | exact mo_r0 hm | exact mo_r1 hm | exact mo_r2 hm | exact mo_r4 hm | exact mo_r6 hm | exact mo_r8 hm | exact mo_a1 hm | exact mo_a2 hm | exact mo_a3 hm | exact mo_a4 hm | exact mo_a5 hm | exact mo_a6 hm) (by exact e) (by first | decide | omega) ?_
  refine px_iload_3 dX8_becomes_14 ?_
  refine px_iret dX8_becomes_15 ?_
  exact ⟨rfl, rfl⟩
theorem s_X8_chanceBy {g : Int32} (hm : px_mo G T R m) : px_K l G 0 mX8_chanceBy ([.ref m, .int g]) ((T, I, J, R)) (some (.int (f_ch (I (m + 1)) g))) ((T, I, J, R)) := by
  refine px_met (M := mX8_chanceBy) ([some (.ref m), some (.int g), none]) (by decide +kernel) rfl (Nat.le_of_ble_eq_true rfl) rfl ?_
  refine px_aload_0 dX8_chanceBy_0 ?_
  refine gf_X8_7 rfl dX8_chanceBy_1 (by first | assumption | exact mo_a hm | exact mo_r0 hm | exact mo_r1 hm | exact mo_r2 hm | exact mo_r4 hm | exact mo_r6 hm | exact mo_r8 hm | exact mo_a1 hm | exact mo_a2 hm | exact mo_a3 hm | exact mo_a4 hm | exact mo_a5 hm | exact mo_a6 hm) (by first | assumption | exact mo_a hm | exact mo_r0 hm | exact mo_r1 hm | exact mo_r2 hm | exact mo_r4 hm | exact mo_r6 hm | exact mo_r8 hm | exact mo_a1 hm | exact mo_a2 hm | exact mo_a3 hm | exact mo_a4 hm | exact mo_a5 hm | exact mo_a6 hm) ?_
  refine px_sipush (143) dX8_chanceBy_4 rfl ?_
  refine px_ialdN (j := 143) dX8_chanceBy_7 (by first | assumption | exact mo_a hm | exact mo_r0 hm | exact mo_r1 hm | exact mo_r2 hm | exact mo_r4 hm | exact mo_r6 hm | exact mo_r8 hm | exact mo_a1 hm | exact mo_a2 hm | exact mo_a3 hm | exact mo_a4 hm | exact mo_a5 hm | exact mo_a6 hm) (by first | rfl | exact ix_eq (by assumption)) (by first | decide | omega) ?_
  refine px_iload_1 dX8_chanceBy_8 ?_
  refine px_imul dX8_chanceBy_9 ?_
  refine px_istore_2 dX8_chanceBy_10 rfl ?_
  refine px_iload_2 dX8_chanceBy_11 ?_
  refine px_bipush (90) dX8_chanceBy_12 rfl ?_
  refine px_icmp_le (tgt := 22) dX8_chanceBy_14 (by decide) (fun h14 => ?_) (fun h14 => ?_)
  · skip
    refine px_iload_2 dX8_chanceBy_22 ?_
    refine px_iret dX8_chanceBy_23 ?_
    first | exact ⟨by rw [f_ch, if_neg (fun q => h14 (Int32.le_of_lt q))], rfl⟩ | (refine ⟨?_, rfl⟩; unfold f_ch; split; rfl; rename_i q; rw [Int32.le_antisymm h14 (Int32.not_lt.mp q)])
  · skip
    refine px_bipush (90) dX8_chanceBy_17 rfl ?_
    refine px_goto (tgt := 23) dX8_chanceBy_19 (by decide) ?_
    refine px_iret dX8_chanceBy_23 ?_
    first | exact ⟨by rw [f_ch, if_neg (fun q => h14 (Int32.le_of_lt q))], rfl⟩ | (refine ⟨?_, rfl⟩; unfold f_ch; split; rfl; rename_i q; rw [Int32.le_antisymm h14 (Int32.not_lt.mp q)])
theorem s_X8_chanceOf {v : Int32} {r : Nat} (hm : px_mo G T R m) (e : v = nI r) (hr : r < 14) : px_K l G 1 mX8_chanceOf ([.ref m, .int v]) ((T, I, J, R)) (some (.int (f_cr (I (m + 1)) r))) ((T, I, J, R)) := by
  refine px_met (M := mX8_chanceOf) ([some (.ref m), some (.int v)]) (by decide +kernel) rfl (Nat.le_of_ble_eq_true rfl) rfl ?_
  refine px_aload_0 dX8_chanceOf_0 ?_
  refine px_aload_0 dX8_chanceOf_1 ?_
  refine gf_X8_7 rfl dX8_chanceOf_2 (by first | assumption | exact mo_a hm | exact mo_r0 hm | exact mo_r1 hm | exact mo_r2 hm | exact mo_r4 hm | exact mo_r6 hm | exact mo_r8 hm | exact mo_a1 hm | exact mo_a2 hm | exact mo_a3 hm | exact mo_a4 hm | exact mo_a5 hm | exact mo_a6 hm) (by first | assumption | exact mo_a hm | exact mo_r0 hm | exact mo_r1 hm | exact mo_r2 hm | exact mo_r4 hm | exact mo_r6 hm | exact mo_r8 hm | exact mo_a1 hm | exact mo_a2 hm | exact mo_a3 hm | exact mo_a4 hm | exact mo_a5 hm | exact mo_a6 hm) ?_
  refine px_iload_1 dX8_chanceOf_5 ?_
  refine px_iconst (3) dX8_chanceOf_6 rfl ?_
  refine cd_X8_40 rfl ⟨⟨Nat.le_of_ble_eq_true rfl, Nat.le_of_ble_eq_true rfl⟩, Nat.le_of_ble_eq_true rfl, Nat.le_of_ble_eq_true rfl, Nat.le_of_ble_eq_true rfl⟩ dX8_chanceOf_7 (s_X8_ofOneRoad (j := 3) e) ?_
  refine px_ialdN dX8_chanceOf_10 (by first | assumption | exact mo_a hm | exact mo_r0 hm | exact mo_r1 hm | exact mo_r2 hm | exact mo_r4 hm | exact mo_r6 hm | exact mo_r8 hm | exact mo_a1 hm | exact mo_a2 hm | exact mo_a3 hm | exact mo_a4 hm | exact mo_a5 hm | exact mo_a6 hm) (by first | rfl | exact ix_eq (by assumption)) (by first | decide | omega) ?_
  refine cd_X8_44 rfl ⟨⟨Nat.le_of_ble_eq_true rfl, Nat.le_of_ble_eq_true rfl⟩, Nat.le_of_ble_eq_true rfl, Nat.le_of_ble_eq_true rfl, Nat.le_of_ble_eq_true rfl⟩ (by first | assumption | exact mo_a hm | exact mo_r0 hm | exact mo_r1 hm | exact mo_r2 hm | exact mo_r4 hm | exact mo_r6 hm | exact mo_r8 hm | exact mo_a1 hm | exact mo_a2 hm | exact mo_a3 hm | exact mo_a4 hm | exact mo_a5 hm | exact mo_a6 hm) dX8_chanceOf_11 (s_X8_chanceBy hm) ?_
  refine px_iret dX8_chanceOf_14 ?_
  exact ⟨rfl, rfl⟩
theorem s_X8_end {v u : Int32} {r k : Nat} (hm : px_mo G T R m) (e : v = nI r) (hr : r < 14) (e2 : u = nI k) (hk : k < 6) : px_K l G 1 mX8_end ([.ref m, .int v, .int u]) ((T, I, J, R)) (some (.int (I (m + 1) (9 + 6 * r + k)))) ((T, I, J, R)) := by
  subst e2
  refine px_met (M := mX8_end) ([some (.ref m), some (.int v), some (.int (nI k))]) (by decide +kernel) rfl (Nat.le_of_ble_eq_true rfl) rfl ?_
  refine px_aload_0 dX8_end_0 ?_
  refine gf_X8_7 rfl dX8_end_1 (by first | assumption | exact mo_a hm | exact mo_r0 hm | exact mo_r1 hm | exact mo_r2 hm | exact mo_r4 hm | exact mo_r6 hm | exact mo_r8 hm | exact mo_a1 hm | exact mo_a2 hm | exact mo_a3 hm | exact mo_a4 hm | exact mo_a5 hm | exact mo_a6 hm) (by first | assumption | exact mo_a hm | exact mo_r0 hm | exact mo_r1 hm | exact mo_r2 hm | exact mo_r4 hm | exact mo_r6 hm | exact mo_r8 hm | exact mo_a1 hm | exact mo_a2 hm | exact mo_a3 hm | exact mo_a4 hm | exact mo_a5 hm | exact mo_a6 hm) ?_
  refine px_iload_1 dX8_end_4 ?_
  refine px_iload_2 dX8_end_5 ?_
  refine cd_X8_40 rfl ⟨⟨Nat.le_of_ble_eq_true rfl, Nat.le_of_ble_eq_true rfl⟩, Nat.le_of_ble_eq_true rfl, Nat.le_of_ble_eq_true rfl, Nat.le_of_ble_eq_true rfl⟩ dX8_end_6 (s_X8_ofOneRoad e) ?_
  refine px_ialdN dX8_end_9 (by first | assumption | exact mo_a hm | exact mo_r0 hm | exact mo_r1 hm | exact mo_r2 hm | exact mo_r4 hm | exact mo_r6 hm | exact mo_r8 hm | exact mo_a1 hm | exact mo_a2 hm | exact mo_a3 hm | exact mo_a4 hm | exact mo_a5 hm | exact mo_a6 hm) (by first | rfl | exact ix_eq (by assumption)) (by first | decide | omega) ?_
  refine px_iret dX8_end_10 ?_
  exact ⟨rfl, rfl⟩
theorem s_X8_mostHidden {p c : Int32} (hm : px_mo G T R m) (hc : ¬ 100 - c = 0) : px_K l G 0 mX8_mostHidden ([.ref m, .int p, .int c]) ((T, I, J, R)) (some (.int (f_mh (I (m + 1)) p c))) ((T, I, J, R)) := by
  refine px_met (M := mX8_mostHidden) ([some (.ref m), some (.int p), some (.int c)]) (by decide +kernel) rfl (Nat.le_of_ble_eq_true rfl) rfl ?_
  refine px_bipush (100) dX8_mostHidden_0 rfl ?_
  refine px_iload_1 dX8_mostHidden_2 ?_
  refine px_imul dX8_mostHidden_3 ?_
  refine px_iload_2 dX8_mostHidden_4 ?_
  refine px_aload_0 dX8_mostHidden_5 ?_
  refine gf_X8_7 rfl dX8_mostHidden_6 (by first | assumption | exact mo_a hm | exact mo_r0 hm | exact mo_r1 hm | exact mo_r2 hm | exact mo_r4 hm | exact mo_r6 hm | exact mo_r8 hm | exact mo_a1 hm | exact mo_a2 hm | exact mo_a3 hm | exact mo_a4 hm | exact mo_a5 hm | exact mo_a6 hm) (by first | assumption | exact mo_a hm | exact mo_r0 hm | exact mo_r1 hm | exact mo_r2 hm | exact mo_r4 hm | exact mo_r6 hm | exact mo_r8 hm | exact mo_a1 hm | exact mo_a2 hm | exact mo_a3 hm | exact mo_a4 hm | exact mo_a5 hm | exact mo_a6 hm) ?_
  refine px_sipush (142) dX8_mostHidden_9 rfl ?_
  refine px_ialdN (j := 142) dX8_mostHidden_12 (by first | assumption | exact mo_a hm | exact mo_r0 hm | exact mo_r1 hm | exact mo_r2 hm | exact mo_r4 hm | exact mo_r6 hm | exact mo_r8 hm | exact mo_a1 hm | exact mo_a2 hm | exact mo_a3 hm | exact mo_a4 hm | exact mo_a5 hm | exact mo_a6 hm) (by first | rfl | exact ix_eq (by assumption)) (by first | decide | omega) ?_
  refine px_imul dX8_mostHidden_13 ?_
  refine px_iadd dX8_mostHidden_14 ?_
  refine px_bipush (100) dX8_mostHidden_15 rfl ?_
  refine px_iload_2 dX8_mostHidden_17 ?_
  refine px_isub dX8_mostHidden_18 ?_
  refine px_idiv dX8_mostHidden_19 (by exact hc) ?_
  refine px_iret dX8_mostHidden_20 ?_
  exact ⟨rfl, rfl⟩
theorem f_mn_alt (a b : Int32) : f_mn a b = if a < b then a else b := by
  unfold f_mn
  by_cases h : b < a
  · rw [if_pos h, if_neg (fun q => Int32.lt_irrefl (Int32.lt_trans h q))]
  · by_cases h2 : a < b
    · rw [if_neg h, if_pos h2]
    · rw [if_neg h, if_neg h2]
      exact Int32.le_antisymm (Int32.not_lt.mp h) (Int32.not_lt.mp h2)
theorem z_add (x : Int32) : 0 + x = x := by simp
theorem s_X8_mostAt {v u : Int32} {r k : Nat} (hm : px_mo G T R m) (e : v = nI r) (hr : r < 14) (e2 : u = nI k) (hk : k < 2) (ht : I (m + 1) (9 + 6 * r + k) = nI (ix (I (m + 1) (9 + 6 * r + k))) ∧ ix (I (m + 1) (9 + 6 * r + k)) < 8) : px_K l G 2 mX8_mostAt ([.ref m, .int v, .int u]) ((T, I, J, R)) (some (.int (f_ma (I (m + 1)) r (I (m + 1) (ix (I (m + 1) (9 + 6 * r + k))))))) ((T, I, J, R)) := by
  refine px_met (M := mX8_mostAt) ([some (.ref m), some (.int v), some (.int u), none, none, none]) (by decide +kernel) rfl (Nat.le_of_ble_eq_true rfl) rfl ?_
  refine px_aload_0 dX8_mostAt_0 ?_
  refine gf_X8_7 rfl dX8_mostAt_1 (by first | assumption | exact mo_a hm | exact mo_r0 hm | exact mo_r1 hm | exact mo_r2 hm | exact mo_r4 hm | exact mo_r6 hm | exact mo_r8 hm | exact mo_a1 hm | exact mo_a2 hm | exact mo_a3 hm | exact mo_a4 hm | exact mo_a5 hm | exact mo_a6 hm) (by first | assumption | exact mo_a hm | exact mo_r0 hm | exact mo_r1 hm | exact mo_r2 hm | exact mo_r4 hm | exact mo_r6 hm | exact mo_r8 hm | exact mo_a1 hm | exact mo_a2 hm | exact mo_a3 hm | exact mo_a4 hm | exact mo_a5 hm | exact mo_a6 hm) ?_
  refine px_iconst (0) dX8_mostAt_4 rfl ?_
  refine px_aload_0 dX8_mostAt_5 ?_
  refine px_iload_1 dX8_mostAt_6 ?_
  refine px_iload_2 dX8_mostAt_7 ?_
  refine cd_X8_48 rfl ⟨⟨Nat.le_of_ble_eq_true rfl, Nat.le_of_ble_eq_true rfl⟩, Nat.le_of_ble_eq_true rfl, Nat.le_of_ble_eq_true rfl, Nat.le_of_ble_eq_true rfl⟩ (by first | assumption | exact mo_a hm | exact mo_r0 hm | exact mo_r1 hm | exact mo_r2 hm | exact mo_r4 hm | exact mo_r6 hm | exact mo_r8 hm | exact mo_a1 hm | exact mo_a2 hm | exact mo_a3 hm | exact mo_a4 hm | exact mo_a5 hm | exact mo_a6 hm) dX8_mostAt_8 (s_X8_end hm e hr e2 (by omega)) ?_
  refine px_iadd dX8_mostAt_11 ?_
  rw [z_add]
  refine px_ialdN dX8_mostAt_12 (by first | assumption | exact mo_a hm | exact mo_r0 hm | exact mo_r1 hm | exact mo_r2 hm | exact mo_r4 hm | exact mo_r6 hm | exact mo_r8 hm | exact mo_a1 hm | exact mo_a2 hm | exact mo_a3 hm | exact mo_a4 hm | exact mo_a5 hm | exact mo_a6 hm) (by exact ht.1) (by omega) ?_
  refine px_istore_3 dX8_mostAt_13 rfl ?_
  refine px_iload_3 dX8_mostAt_14 ?_
  refine px_aload_0 dX8_mostAt_15 ?_
  refine gf_X8_7 rfl dX8_mostAt_16 (by first | assumption | exact mo_a hm | exact mo_r0 hm | exact mo_r1 hm | exact mo_r2 hm | exact mo_r4 hm | exact mo_r6 hm | exact mo_r8 hm | exact mo_a1 hm | exact mo_a2 hm | exact mo_a3 hm | exact mo_a4 hm | exact mo_a5 hm | exact mo_a6 hm) (by first | assumption | exact mo_a hm | exact mo_r0 hm | exact mo_r1 hm | exact mo_r2 hm | exact mo_r4 hm | exact mo_r6 hm | exact mo_r8 hm | exact mo_a1 hm | exact mo_a2 hm | exact mo_a3 hm | exact mo_a4 hm | exact mo_a5 hm | exact mo_a6 hm) ?_
  refine px_iload_1 dX8_mostAt_19 ?_
  refine px_iconst (2) dX8_mostAt_20 rfl ?_
  refine cd_X8_40 rfl ⟨⟨Nat.le_of_ble_eq_true rfl, Nat.le_of_ble_eq_true rfl⟩, Nat.le_of_ble_eq_true rfl, Nat.le_of_ble_eq_true rfl, Nat.le_of_ble_eq_true rfl⟩ dX8_mostAt_21 (s_X8_ofOneRoad (j := 2) e) ?_
  refine px_ialdN dX8_mostAt_24 (by first | assumption | exact mo_a hm | exact mo_r0 hm | exact mo_r1 hm | exact mo_r2 hm | exact mo_r4 hm | exact mo_r6 hm | exact mo_r8 hm | exact mo_a1 hm | exact mo_a2 hm | exact mo_a3 hm | exact mo_a4 hm | exact mo_a5 hm | exact mo_a6 hm) (by first | rfl | exact ix_eq (by assumption)) (by first | decide | omega) ?_
  refine px_iadd dX8_mostAt_25 ?_
  refine px_istore_4 dX8_mostAt_26 rfl ?_
  refine px_aload_0 dX8_mostAt_28 ?_
  refine px_iload_3 dX8_mostAt_29 ?_
  refine px_aload_0 dX8_mostAt_30 ?_
  refine px_iload_1 dX8_mostAt_31 ?_
  refine cd_X8_51 rfl ⟨⟨Nat.le_of_ble_eq_true rfl, Nat.le_of_ble_eq_true rfl⟩, Nat.le_of_ble_eq_true rfl, Nat.le_of_ble_eq_true rfl, Nat.le_of_ble_eq_true rfl⟩ (by first | assumption | exact mo_a hm | exact mo_r0 hm | exact mo_r1 hm | exact mo_r2 hm | exact mo_r4 hm | exact mo_r6 hm | exact mo_r8 hm | exact mo_a1 hm | exact mo_a2 hm | exact mo_a3 hm | exact mo_a4 hm | exact mo_a5 hm | exact mo_a6 hm) dX8_mostAt_32 (s_X8_chanceOf hm e hr) ?_
  refine cd_X8_54 rfl ⟨⟨Nat.le_of_ble_eq_true rfl, Nat.le_of_ble_eq_true rfl⟩, Nat.le_of_ble_eq_true rfl, Nat.le_of_ble_eq_true rfl, Nat.le_of_ble_eq_true rfl⟩ (by first | assumption | exact mo_a hm | exact mo_r0 hm | exact mo_r1 hm | exact mo_r2 hm | exact mo_r4 hm | exact mo_r6 hm | exact mo_r8 hm | exact mo_a1 hm | exact mo_a2 hm | exact mo_a3 hm | exact mo_a4 hm | exact mo_a5 hm | exact mo_a6 hm) dX8_mostAt_35 (s_X8_mostHidden hm ch_ne) ?_
  refine px_istore_5 dX8_mostAt_38 rfl ?_
  refine px_iload_4 dX8_mostAt_40 ?_
  refine px_iload_5 dX8_mostAt_42 ?_
  refine px_icmp_ge (tgt := 52) dX8_mostAt_44 (by decide) (fun h44 => ?_) (fun h44 => ?_)
  · skip
    refine px_iload_5 dX8_mostAt_52 ?_
    refine px_iret dX8_mostAt_54 ?_
    exact ⟨by unfold f_ma; rw [f_mn_alt]; clear ht hm e; grind, rfl⟩
  · skip
    refine px_iload_4 dX8_mostAt_47 ?_
    refine px_goto (tgt := 54) dX8_mostAt_49 (by decide) ?_
    refine px_iret dX8_mostAt_54 ?_
    exact ⟨by unfold f_ma; rw [f_mn_alt]; clear ht hm e; grind, rfl⟩
theorem s_X8_guards (hm : px_mo G T R m) (hV : px_V (I (m + 1))) : px_K l G 1 mX8_guards ([.ref m]) ((T, I, J, R)) (some (.int (f_gs (I (m + 1))))) ((T, I, J, R)) := by
  have hn := hV.1.1
  have hn14 := hV.1.2.1
  generalize hσ : I (m + 1) = σ at hn hn14 ⊢
  refine px_met (M := mX8_guards) ([some (.ref m), none, none]) (by decide +kernel) rfl (Nat.le_of_ble_eq_true rfl) rfl ?_
  generalize hQ : (fun v m => v = some (Value.int (f_gs σ)) ∧ m = (T, I, J, R) : Option Value → px_M → Prop) = Q
  have L : ∀ n i, i + n = f_nr σ → (px_W l G yX8_guards cX8_guards 3 (some .int) (px_rm 1 0 0) (px_Fn G Q 0 0) 4 [some (.ref m), some (.int (f_sm (fun r => σ (9 + 6 * r + 3)) i)), some (.int (nI i))] [] 0 0 (T, I, J, R)) := by
    intro n
    induction n with
    | zero =>
      intro i hi
      refine px_iload_2 dX8_guards_4 ?_
      refine px_aload_0 dX8_guards_5 ?_
      refine gf_X8_7 rfl dX8_guards_6 (by first | assumption | exact mo_a hm | exact mo_r0 hm | exact mo_r1 hm | exact mo_r2 hm | exact mo_r4 hm | exact mo_r6 hm | exact mo_r8 hm | exact mo_a1 hm | exact mo_a2 hm | exact mo_a3 hm | exact mo_a4 hm | exact mo_a5 hm | exact mo_a6 hm) (by first | assumption | exact mo_a hm | exact mo_r0 hm | exact mo_r1 hm | exact mo_r2 hm | exact mo_r4 hm | exact mo_r6 hm | exact mo_r8 hm | exact mo_a1 hm | exact mo_a2 hm | exact mo_a3 hm | exact mo_a4 hm | exact mo_a5 hm | exact mo_a6 hm) ?_
      refine px_bipush (8) dX8_guards_9 rfl ?_
      refine px_ialdN (j := 8) dX8_guards_11 (by first | assumption | exact mo_a hm | exact mo_r0 hm | exact mo_r1 hm | exact mo_r2 hm | exact mo_r4 hm | exact mo_r6 hm | exact mo_r8 hm | exact mo_a1 hm | exact mo_a2 hm | exact mo_a3 hm | exact mo_a4 hm | exact mo_a5 hm | exact mo_a6 hm) (by first | rfl | exact ix_eq (by assumption)) (by first | decide | omega) ?_
      rw [hσ]
      refine px_icmp_ge (tgt := 34) dX8_guards_12 (by decide) (fun h12 => ?_) (fun h12 => (by first | exact absurd (le_nI hn (by omega) (by omega)) h12 | exact absurd h12 (le_nI hn (by omega) (by omega))))
      refine px_iload_1 dX8_guards_34 ?_
      refine px_iret dX8_guards_35 ?_
      subst hQ; exact ⟨by rw [f_gs, show i = f_nr σ by omega], rfl⟩
    | succ n ih =>
      intro i hi
      refine px_iload_2 dX8_guards_4 ?_
      refine px_aload_0 dX8_guards_5 ?_
      refine gf_X8_7 rfl dX8_guards_6 (by first | assumption | exact mo_a hm | exact mo_r0 hm | exact mo_r1 hm | exact mo_r2 hm | exact mo_r4 hm | exact mo_r6 hm | exact mo_r8 hm | exact mo_a1 hm | exact mo_a2 hm | exact mo_a3 hm | exact mo_a4 hm | exact mo_a5 hm | exact mo_a6 hm) (by first | assumption | exact mo_a hm | exact mo_r0 hm | exact mo_r1 hm | exact mo_r2 hm | exact mo_r4 hm | exact mo_r6 hm | exact mo_r8 hm | exact mo_a1 hm | exact mo_a2 hm | exact mo_a3 hm | exact mo_a4 hm | exact mo_a5 hm | exact mo_a6 hm) ?_
      refine px_bipush (8) dX8_guards_9 rfl ?_
      refine px_ialdN (j := 8) dX8_guards_11 (by first | assumption | exact mo_a hm | exact mo_r0 hm | exact mo_r1 hm | exact mo_r2 hm | exact mo_r4 hm | exact mo_r6 hm | exact mo_r8 hm | exact mo_a1 hm | exact mo_a2 hm | exact mo_a3 hm | exact mo_a4 hm | exact mo_a5 hm | exact mo_a6 hm) (by first | rfl | exact ix_eq (by assumption)) (by first | decide | omega) ?_
      rw [hσ]
      refine px_icmp_ge (tgt := 34) dX8_guards_12 (by decide) (fun h12 => (by first | exact absurd h12 (lt_nle hn (by omega) (by omega)) | exact absurd (lt_nle hn (by omega) (by omega)) h12)) (fun h12 => ?_)
      refine px_iload_1 dX8_guards_15 ?_
      refine px_aload_0 dX8_guards_16 ?_
      refine gf_X8_7 rfl dX8_guards_17 (by first | assumption | exact mo_a hm | exact mo_r0 hm | exact mo_r1 hm | exact mo_r2 hm | exact mo_r4 hm | exact mo_r6 hm | exact mo_r8 hm | exact mo_a1 hm | exact mo_a2 hm | exact mo_a3 hm | exact mo_a4 hm | exact mo_a5 hm | exact mo_a6 hm) (by first | assumption | exact mo_a hm | exact mo_r0 hm | exact mo_r1 hm | exact mo_r2 hm | exact mo_r4 hm | exact mo_r6 hm | exact mo_r8 hm | exact mo_a1 hm | exact mo_a2 hm | exact mo_a3 hm | exact mo_a4 hm | exact mo_a5 hm | exact mo_a6 hm) ?_
      refine px_iload_2 dX8_guards_20 ?_
      refine px_iconst (3) dX8_guards_21 rfl ?_
      refine cd_X8_40 rfl ⟨⟨Nat.le_of_ble_eq_true rfl, Nat.le_of_ble_eq_true rfl⟩, Nat.le_of_ble_eq_true rfl, Nat.le_of_ble_eq_true rfl, Nat.le_of_ble_eq_true rfl⟩ dX8_guards_22 (s_X8_ofOneRoad (j := 3) (r := i) rfl) ?_
      refine px_ialdN dX8_guards_25 (by first | assumption | exact mo_a hm | exact mo_r0 hm | exact mo_r1 hm | exact mo_r2 hm | exact mo_r4 hm | exact mo_r6 hm | exact mo_r8 hm | exact mo_a1 hm | exact mo_a2 hm | exact mo_a3 hm | exact mo_a4 hm | exact mo_a5 hm | exact mo_a6 hm) (by first | rfl | exact ix_eq (by assumption)) (by first | decide | omega) ?_
      rw [hσ]
      refine px_iadd dX8_guards_26 ?_
      refine px_istore_1 dX8_guards_27 rfl ?_
      refine px_iinc_2 dX8_guards_28 rfl ?_
      refine px_goto (tgt := 4) dX8_guards_31 (by decide) ?_
      rw [inc_nI]; exact ih (i + 1) (by omega)
  refine px_iconst (0) dX8_guards_0 rfl ?_
  refine px_istore_1 dX8_guards_1 rfl ?_
  refine px_iconst (0) dX8_guards_2 rfl ?_
  refine px_istore_2 dX8_guards_3 rfl ?_
  exact L _ 0 (Nat.zero_add _)
theorem s_X8_ofCarts {w : Int32} {j : Nat} (e : w = nI j) (hj : j < 8) (hm : px_mo G T R m) (hV : px_V (I (m + 1))) : px_K l G 1 mX8_ofCarts ([.ref m, .int w]) ((T, I, J, R)) (some (.int (f_cs (I (m + 1)) j))) ((T, I, J, R)) := by
  subst e
  have hn := hV.1.2.2.1
  have hn6 := hV.1.2.2.2
  generalize hσ : I (m + 1) = σ at hn hn6 ⊢
  refine px_met (M := mX8_ofCarts) ([some (.ref m), some (.int (nI j)), none, none]) (by decide +kernel) rfl (Nat.le_of_ble_eq_true rfl) rfl ?_
  generalize hQ : (fun v m => v = some (Value.int (f_cs σ j)) ∧ m = (T, I, J, R) : Option Value → px_M → Prop) = Q
  have L : ∀ n i, i + n = f_nc σ → (px_W l G yX8_ofCarts cX8_ofCarts 4 (some .int) (px_rm 1 0 0) (px_Fn G Q 0 0) 4 [some (.ref m), some (.int (nI j)), some (.int (f_sm (fun r => σ (94 + 8 * r + j)) i)), some (.int (nI i))] [] 0 0 (T, I, J, R)) := by
    intro n
    induction n with
    | zero =>
      intro i hi
      refine px_iload_3 dX8_ofCarts_4 ?_
      refine px_aload_0 dX8_ofCarts_5 ?_
      refine gf_X8_7 rfl dX8_ofCarts_6 (by first | assumption | exact mo_a hm | exact mo_r0 hm | exact mo_r1 hm | exact mo_r2 hm | exact mo_r4 hm | exact mo_r6 hm | exact mo_r8 hm | exact mo_a1 hm | exact mo_a2 hm | exact mo_a3 hm | exact mo_a4 hm | exact mo_a5 hm | exact mo_a6 hm) (by first | assumption | exact mo_a hm | exact mo_r0 hm | exact mo_r1 hm | exact mo_r2 hm | exact mo_r4 hm | exact mo_r6 hm | exact mo_r8 hm | exact mo_a1 hm | exact mo_a2 hm | exact mo_a3 hm | exact mo_a4 hm | exact mo_a5 hm | exact mo_a6 hm) ?_
      refine px_bipush (93) dX8_ofCarts_9 rfl ?_
      refine px_ialdN (j := 93) dX8_ofCarts_11 (by first | assumption | exact mo_a hm | exact mo_r0 hm | exact mo_r1 hm | exact mo_r2 hm | exact mo_r4 hm | exact mo_r6 hm | exact mo_r8 hm | exact mo_a1 hm | exact mo_a2 hm | exact mo_a3 hm | exact mo_a4 hm | exact mo_a5 hm | exact mo_a6 hm) (by first | rfl | exact ix_eq (by assumption)) (by first | decide | omega) ?_
      rw [hσ]
      refine px_icmp_ge (tgt := 34) dX8_ofCarts_12 (by decide) (fun h12 => ?_) (fun h12 => (by first | exact absurd (le_nI hn (by omega) (by omega)) h12 | exact absurd h12 (le_nI hn (by omega) (by omega))))
      refine px_iload_2 dX8_ofCarts_34 ?_
      refine px_iret dX8_ofCarts_35 ?_
      subst hQ; exact ⟨by rw [f_cs, show i = f_nc σ by omega], rfl⟩
    | succ n ih =>
      intro i hi
      refine px_iload_3 dX8_ofCarts_4 ?_
      refine px_aload_0 dX8_ofCarts_5 ?_
      refine gf_X8_7 rfl dX8_ofCarts_6 (by first | assumption | exact mo_a hm | exact mo_r0 hm | exact mo_r1 hm | exact mo_r2 hm | exact mo_r4 hm | exact mo_r6 hm | exact mo_r8 hm | exact mo_a1 hm | exact mo_a2 hm | exact mo_a3 hm | exact mo_a4 hm | exact mo_a5 hm | exact mo_a6 hm) (by first | assumption | exact mo_a hm | exact mo_r0 hm | exact mo_r1 hm | exact mo_r2 hm | exact mo_r4 hm | exact mo_r6 hm | exact mo_r8 hm | exact mo_a1 hm | exact mo_a2 hm | exact mo_a3 hm | exact mo_a4 hm | exact mo_a5 hm | exact mo_a6 hm) ?_
      refine px_bipush (93) dX8_ofCarts_9 rfl ?_
      refine px_ialdN (j := 93) dX8_ofCarts_11 (by first | assumption | exact mo_a hm | exact mo_r0 hm | exact mo_r1 hm | exact mo_r2 hm | exact mo_r4 hm | exact mo_r6 hm | exact mo_r8 hm | exact mo_a1 hm | exact mo_a2 hm | exact mo_a3 hm | exact mo_a4 hm | exact mo_a5 hm | exact mo_a6 hm) (by first | rfl | exact ix_eq (by assumption)) (by first | decide | omega) ?_
      rw [hσ]
      refine px_icmp_ge (tgt := 34) dX8_ofCarts_12 (by decide) (fun h12 => (by first | exact absurd h12 (lt_nle hn (by omega) (by omega)) | exact absurd (lt_nle hn (by omega) (by omega)) h12)) (fun h12 => ?_)
      refine px_iload_2 dX8_ofCarts_15 ?_
      refine px_aload_0 dX8_ofCarts_16 ?_
      refine gf_X8_7 rfl dX8_ofCarts_17 (by first | assumption | exact mo_a hm | exact mo_r0 hm | exact mo_r1 hm | exact mo_r2 hm | exact mo_r4 hm | exact mo_r6 hm | exact mo_r8 hm | exact mo_a1 hm | exact mo_a2 hm | exact mo_a3 hm | exact mo_a4 hm | exact mo_a5 hm | exact mo_a6 hm) (by first | assumption | exact mo_a hm | exact mo_r0 hm | exact mo_r1 hm | exact mo_r2 hm | exact mo_r4 hm | exact mo_r6 hm | exact mo_r8 hm | exact mo_a1 hm | exact mo_a2 hm | exact mo_a3 hm | exact mo_a4 hm | exact mo_a5 hm | exact mo_a6 hm) ?_
      refine px_iload_3 dX8_ofCarts_20 ?_
      refine px_iload_1 dX8_ofCarts_21 ?_
      refine cd_X8_128 rfl ⟨⟨Nat.le_of_ble_eq_true rfl, Nat.le_of_ble_eq_true rfl⟩, Nat.le_of_ble_eq_true rfl, Nat.le_of_ble_eq_true rfl, Nat.le_of_ble_eq_true rfl⟩ dX8_ofCarts_22 (s_X8_ofOneCart (j := j) (r := i) rfl) ?_
      refine px_ialdN dX8_ofCarts_25 (by first | assumption | exact mo_a hm | exact mo_r0 hm | exact mo_r1 hm | exact mo_r2 hm | exact mo_r4 hm | exact mo_r6 hm | exact mo_r8 hm | exact mo_a1 hm | exact mo_a2 hm | exact mo_a3 hm | exact mo_a4 hm | exact mo_a5 hm | exact mo_a6 hm) (by first | rfl | exact ix_eq (by assumption)) (by first | decide | omega) ?_
      rw [hσ]
      refine px_iadd dX8_ofCarts_26 ?_
      refine px_istore_2 dX8_ofCarts_27 rfl ?_
      refine px_iinc_3 dX8_ofCarts_28 rfl ?_
      refine px_goto (tgt := 4) dX8_ofCarts_31 (by decide) ?_
      rw [inc_nI]; exact ih (i + 1) (by omega)
  refine px_iconst (0) dX8_ofCarts_0 rfl ?_
  refine px_istore_2 dX8_ofCarts_1 rfl ?_
  refine px_iconst (0) dX8_ofCarts_2 rfl ?_
  refine px_istore_3 dX8_ofCarts_3 rfl ?_
  exact L _ 0 (Nat.zero_add _)
theorem px_K_eq {l : Launch} {G : px_G} {lv : Nat} {M : px_D} {As : List Value} {μ μ1 μ2 : px_M} {V V2 : Option Value} (h : px_K l G lv M As μ V μ1) (e : V = V2) (e2 : μ1 = μ2) : px_K l G lv M As μ V2 μ2 := by subst e; subst e2; exact h
theorem mem_id (T : px_T) (I : px_I) (J : px_J) (R : px_R) (a : Nat) : (T, px_set I a (I a), J, R) = (T, I, J, R) := by rw [px_set_id]
theorem s_X8_prices {a b : Int32} (hm : px_mo G T R m) : px_K l G 2 mX8_prices ([.ref m, .int a, .int b]) ((T, I, J, R)) (some (.int (f_price (I (m + 1)) a b).1)) ((T, px_set I (m + 1) (f_price (I (m + 1)) a b).2, J, R)) := by
  refine px_met (M := mX8_prices) ([some (.ref m), some (.int a), some (.int b)]) (by decide +kernel) rfl (Nat.le_of_ble_eq_true rfl) rfl ?_
  by_cases hr : rg a 0 7
  · have ha := ix_eq hr
    have hl := ix_le hr (k := 7) rfl
    by_cases hb : rg b 1 999
    · have hf : f_price (I (m + 1)) a b = (I (m + 1) (ix a), upd (I (m + 1)) (ix a) b) := by clear ha; grind [f_price]
      rw [hf]
      refine px_iload_1 dX8_prices_0 ?_
      refine cd_X8_108 rfl ⟨⟨Nat.le_of_ble_eq_true rfl, Nat.le_of_ble_eq_true rfl⟩, Nat.le_of_ble_eq_true rfl, Nat.le_of_ble_eq_true rfl, Nat.le_of_ble_eq_true rfl⟩ dX8_prices_1 (s_X8_isTown) ?_
      refine px_ifb_ne (tgt := 11) dX8_prices_4 (by decide) (fun h4 => ?_) (fun h4 => (by first | exact absurd (hr) h4 | exact absurd h4 (hr)))
      refine px_iload_2 dX8_prices_11 ?_
      refine px_iconst (1) dX8_prices_12 rfl ?_
      refine px_sipush (999) dX8_prices_13 rfl ?_
      refine cd_X8_29 rfl ⟨⟨Nat.le_of_ble_eq_true rfl, Nat.le_of_ble_eq_true rfl⟩, Nat.le_of_ble_eq_true rfl, Nat.le_of_ble_eq_true rfl, Nat.le_of_ble_eq_true rfl⟩ dX8_prices_16 (s_X8_in) ?_
      refine px_ifb_eq (tgt := 33) dX8_prices_19 (by decide) (fun h19 => (by first | exact absurd h19 (hb) | exact absurd (hb) h19)) (fun h19 => ?_)
      refine px_aload_0 dX8_prices_22 ?_
      refine px_iconst (0) dX8_prices_23 rfl ?_
      refine px_iload_1 dX8_prices_24 ?_
      refine px_iadd dX8_prices_25 ?_
      refine px_iload_2 dX8_prices_26 ?_
      refine cd_X8_102 rfl ⟨⟨Nat.le_of_ble_eq_true rfl, Nat.le_of_ble_eq_true rfl⟩, Nat.le_of_ble_eq_true rfl, Nat.le_of_ble_eq_true rfl, Nat.le_of_ble_eq_true rfl⟩ (by first | assumption | exact mo_a hm | exact mo_r0 hm | exact mo_r1 hm | exact mo_r2 hm | exact mo_r4 hm | exact mo_r6 hm | exact mo_r8 hm | exact mo_a1 hm | exact mo_a2 hm | exact mo_a3 hm | exact mo_a4 hm | exact mo_a5 hm | exact mo_a6 hm) dX8_prices_27 (s_X8_becomes (k := ix a) hm (by rw [z_add]; exact ha) (by omega)) ?_
      refine px_goto (tgt := 35) dX8_prices_30 (by decide) ?_
      refine px_iret dX8_prices_35 ?_
      exact ⟨rfl, rfl⟩
    · have hf : f_price (I (m + 1)) a b = (-2, I (m + 1)) := by clear ha; grind [f_price]
      rw [hf, mem_id]
      refine px_iload_1 dX8_prices_0 ?_
      refine cd_X8_108 rfl ⟨⟨Nat.le_of_ble_eq_true rfl, Nat.le_of_ble_eq_true rfl⟩, Nat.le_of_ble_eq_true rfl, Nat.le_of_ble_eq_true rfl, Nat.le_of_ble_eq_true rfl⟩ dX8_prices_1 (s_X8_isTown) ?_
      refine px_ifb_ne (tgt := 11) dX8_prices_4 (by decide) (fun h4 => ?_) (fun h4 => (by first | exact absurd (hr) h4 | exact absurd h4 (hr)))
      refine px_iload_2 dX8_prices_11 ?_
      refine px_iconst (1) dX8_prices_12 rfl ?_
      refine px_sipush (999) dX8_prices_13 rfl ?_
      refine cd_X8_29 rfl ⟨⟨Nat.le_of_ble_eq_true rfl, Nat.le_of_ble_eq_true rfl⟩, Nat.le_of_ble_eq_true rfl, Nat.le_of_ble_eq_true rfl, Nat.le_of_ble_eq_true rfl⟩ dX8_prices_16 (s_X8_in) ?_
      refine px_ifb_eq (tgt := 33) dX8_prices_19 (by decide) (fun h19 => ?_) (fun h19 => (by first | exact absurd (hb) h19 | exact absurd h19 (hb)))
      refine px_bipush (-2) dX8_prices_33 rfl ?_
      refine px_iret dX8_prices_35 ?_
      exact ⟨rfl, rfl⟩
  · have hf : f_price (I (m + 1)) a b = (-1, I (m + 1)) := by grind [f_price]
    rw [hf, mem_id]
    refine px_iload_1 dX8_prices_0 ?_
    refine cd_X8_108 rfl ⟨⟨Nat.le_of_ble_eq_true rfl, Nat.le_of_ble_eq_true rfl⟩, Nat.le_of_ble_eq_true rfl, Nat.le_of_ble_eq_true rfl, Nat.le_of_ble_eq_true rfl⟩ dX8_prices_1 (s_X8_isTown) ?_
    refine px_ifb_ne (tgt := 11) dX8_prices_4 (by decide) (fun h4 => (by first | exact absurd h4 (hr) | exact absurd (hr) h4)) (fun h4 => ?_)
    refine px_iconst (-1) dX8_prices_7 rfl ?_
    refine px_goto (tgt := 35) dX8_prices_8 (by decide) ?_
    refine px_iret dX8_prices_35 ?_
    exact ⟨rfl, rfl⟩
theorem s_X8_setsGuards {a b : Int32} (hm : px_mo G T R m) (hV : px_V (I (m + 1))) : px_K l G 2 mX8_setsGuards ([.ref m, .int a, .int b]) ((T, I, J, R)) (some (.int (f_guard (I (m + 1)) a b).1)) ((T, px_set I (m + 1) (f_guard (I (m + 1)) a b).2, J, R)) := by
  refine px_met (M := mX8_setsGuards) ([some (.ref m), some (.int a), some (.int b), none]) (by decide +kernel) rfl (Nat.le_of_ble_eq_true rfl) rfl ?_
  by_cases hr : rg a 0 (I (m + 1) 8 - 1)
  · obtain ⟨ha, hl, h14⟩ := rd_lt hV hr
    by_cases hb : rg b 0 40
    · by_cases hp : I (m + 1) 145 < f_gs (I (m + 1)) - I (m + 1) (9 + 6 * ix a + 3) + b
      · have hf : f_guard (I (m + 1)) a b = (-5, I (m + 1)) := by clear ha hV; grind [f_guard]
        rw [hf, mem_id]
        refine px_aload_0 dX8_setsGuards_0 ?_
        refine px_iload_1 dX8_setsGuards_1 ?_
        refine cd_X8_118 rfl ⟨⟨Nat.le_of_ble_eq_true rfl, Nat.le_of_ble_eq_true rfl⟩, Nat.le_of_ble_eq_true rfl, Nat.le_of_ble_eq_true rfl, Nat.le_of_ble_eq_true rfl⟩ (by first | assumption | exact mo_a hm | exact mo_r0 hm | exact mo_r1 hm | exact mo_r2 hm | exact mo_r4 hm | exact mo_r6 hm | exact mo_r8 hm | exact mo_a1 hm | exact mo_a2 hm | exact mo_a3 hm | exact mo_a4 hm | exact mo_a5 hm | exact mo_a6 hm) dX8_setsGuards_2 (s_X8_isRoad hm) ?_
        refine px_ifb_ne (tgt := 10) dX8_setsGuards_5 (by decide) (fun h5 => ?_) (fun h5 => (by first | exact absurd (hr) h5 | exact absurd h5 (hr)))
        refine px_iload_2 dX8_setsGuards_10 ?_
        refine px_iconst (0) dX8_setsGuards_11 rfl ?_
        refine px_bipush (40) dX8_setsGuards_12 rfl ?_
        refine cd_X8_29 rfl ⟨⟨Nat.le_of_ble_eq_true rfl, Nat.le_of_ble_eq_true rfl⟩, Nat.le_of_ble_eq_true rfl, Nat.le_of_ble_eq_true rfl, Nat.le_of_ble_eq_true rfl⟩ dX8_setsGuards_14 (s_X8_in) ?_
        refine px_ifb_ne (tgt := 23) dX8_setsGuards_17 (by decide) (fun h17 => ?_) (fun h17 => (by first | exact absurd (hb) h17 | exact absurd h17 (hb)))
        refine px_aload_0 dX8_setsGuards_23 ?_
        refine cd_X8_99 rfl ⟨⟨Nat.le_of_ble_eq_true rfl, Nat.le_of_ble_eq_true rfl⟩, Nat.le_of_ble_eq_true rfl, Nat.le_of_ble_eq_true rfl, Nat.le_of_ble_eq_true rfl⟩ (by first | assumption | exact mo_a hm | exact mo_r0 hm | exact mo_r1 hm | exact mo_r2 hm | exact mo_r4 hm | exact mo_r6 hm | exact mo_r8 hm | exact mo_a1 hm | exact mo_a2 hm | exact mo_a3 hm | exact mo_a4 hm | exact mo_a5 hm | exact mo_a6 hm) dX8_setsGuards_24 (s_X8_guards hm hV) ?_
        refine px_aload_0 dX8_setsGuards_27 ?_
        refine gf_X8_7 rfl dX8_setsGuards_28 (by first | assumption | exact mo_a hm | exact mo_r0 hm | exact mo_r1 hm | exact mo_r2 hm | exact mo_r4 hm | exact mo_r6 hm | exact mo_r8 hm | exact mo_a1 hm | exact mo_a2 hm | exact mo_a3 hm | exact mo_a4 hm | exact mo_a5 hm | exact mo_a6 hm) (by first | assumption | exact mo_a hm | exact mo_r0 hm | exact mo_r1 hm | exact mo_r2 hm | exact mo_r4 hm | exact mo_r6 hm | exact mo_r8 hm | exact mo_a1 hm | exact mo_a2 hm | exact mo_a3 hm | exact mo_a4 hm | exact mo_a5 hm | exact mo_a6 hm) ?_
        refine px_iload_1 dX8_setsGuards_31 ?_
        refine px_iconst (3) dX8_setsGuards_32 rfl ?_
        refine cd_X8_40 rfl ⟨⟨Nat.le_of_ble_eq_true rfl, Nat.le_of_ble_eq_true rfl⟩, Nat.le_of_ble_eq_true rfl, Nat.le_of_ble_eq_true rfl, Nat.le_of_ble_eq_true rfl⟩ dX8_setsGuards_33 (s_X8_ofOneRoad (j := 3) ha) ?_
        refine px_ialdN dX8_setsGuards_36 (by first | assumption | exact mo_a hm | exact mo_r0 hm | exact mo_r1 hm | exact mo_r2 hm | exact mo_r4 hm | exact mo_r6 hm | exact mo_r8 hm | exact mo_a1 hm | exact mo_a2 hm | exact mo_a3 hm | exact mo_a4 hm | exact mo_a5 hm | exact mo_a6 hm) (by first | rfl | exact ix_eq (by assumption)) (by first | decide | omega) ?_
        refine px_isub dX8_setsGuards_37 ?_
        refine px_istore_3 dX8_setsGuards_38 rfl ?_
        refine px_iload_3 dX8_setsGuards_39 ?_
        refine px_iload_2 dX8_setsGuards_40 ?_
        refine px_iadd dX8_setsGuards_41 ?_
        refine px_aload_0 dX8_setsGuards_42 ?_
        refine gf_X8_7 rfl dX8_setsGuards_43 (by first | assumption | exact mo_a hm | exact mo_r0 hm | exact mo_r1 hm | exact mo_r2 hm | exact mo_r4 hm | exact mo_r6 hm | exact mo_r8 hm | exact mo_a1 hm | exact mo_a2 hm | exact mo_a3 hm | exact mo_a4 hm | exact mo_a5 hm | exact mo_a6 hm) (by first | assumption | exact mo_a hm | exact mo_r0 hm | exact mo_r1 hm | exact mo_r2 hm | exact mo_r4 hm | exact mo_r6 hm | exact mo_r8 hm | exact mo_a1 hm | exact mo_a2 hm | exact mo_a3 hm | exact mo_a4 hm | exact mo_a5 hm | exact mo_a6 hm) ?_
        refine px_sipush (145) dX8_setsGuards_46 rfl ?_
        refine px_ialdN (j := 145) dX8_setsGuards_49 (by first | assumption | exact mo_a hm | exact mo_r0 hm | exact mo_r1 hm | exact mo_r2 hm | exact mo_r4 hm | exact mo_r6 hm | exact mo_r8 hm | exact mo_a1 hm | exact mo_a2 hm | exact mo_a3 hm | exact mo_a4 hm | exact mo_a5 hm | exact mo_a6 hm) (by first | rfl | exact ix_eq (by assumption)) (by first | decide | omega) ?_
        refine px_icmp_le (tgt := 58) dX8_setsGuards_50 (by decide) (fun h50 => (by first | exact absurd h50 ((Int32.not_le.mpr hp)) | exact absurd ((Int32.not_le.mpr hp)) h50)) (fun h50 => ?_)
        refine px_bipush (-5) dX8_setsGuards_53 rfl ?_
        refine px_goto (tgt := 68) dX8_setsGuards_55 (by decide) ?_
        refine px_iret dX8_setsGuards_68 ?_
        exact ⟨rfl, rfl⟩
      · have hf : f_guard (I (m + 1)) a b = (I (m + 1) (9 + 6 * ix a + 3), upd (I (m + 1)) (9 + 6 * ix a + 3) b) := by clear ha hV; grind [f_guard]
        rw [hf]
        refine px_aload_0 dX8_setsGuards_0 ?_
        refine px_iload_1 dX8_setsGuards_1 ?_
        refine cd_X8_118 rfl ⟨⟨Nat.le_of_ble_eq_true rfl, Nat.le_of_ble_eq_true rfl⟩, Nat.le_of_ble_eq_true rfl, Nat.le_of_ble_eq_true rfl, Nat.le_of_ble_eq_true rfl⟩ (by first | assumption | exact mo_a hm | exact mo_r0 hm | exact mo_r1 hm | exact mo_r2 hm | exact mo_r4 hm | exact mo_r6 hm | exact mo_r8 hm | exact mo_a1 hm | exact mo_a2 hm | exact mo_a3 hm | exact mo_a4 hm | exact mo_a5 hm | exact mo_a6 hm) dX8_setsGuards_2 (s_X8_isRoad hm) ?_
        refine px_ifb_ne (tgt := 10) dX8_setsGuards_5 (by decide) (fun h5 => ?_) (fun h5 => (by first | exact absurd (hr) h5 | exact absurd h5 (hr)))
        refine px_iload_2 dX8_setsGuards_10 ?_
        refine px_iconst (0) dX8_setsGuards_11 rfl ?_
        refine px_bipush (40) dX8_setsGuards_12 rfl ?_
        refine cd_X8_29 rfl ⟨⟨Nat.le_of_ble_eq_true rfl, Nat.le_of_ble_eq_true rfl⟩, Nat.le_of_ble_eq_true rfl, Nat.le_of_ble_eq_true rfl, Nat.le_of_ble_eq_true rfl⟩ dX8_setsGuards_14 (s_X8_in) ?_
        refine px_ifb_ne (tgt := 23) dX8_setsGuards_17 (by decide) (fun h17 => ?_) (fun h17 => (by first | exact absurd (hb) h17 | exact absurd h17 (hb)))
        refine px_aload_0 dX8_setsGuards_23 ?_
        refine cd_X8_99 rfl ⟨⟨Nat.le_of_ble_eq_true rfl, Nat.le_of_ble_eq_true rfl⟩, Nat.le_of_ble_eq_true rfl, Nat.le_of_ble_eq_true rfl, Nat.le_of_ble_eq_true rfl⟩ (by first | assumption | exact mo_a hm | exact mo_r0 hm | exact mo_r1 hm | exact mo_r2 hm | exact mo_r4 hm | exact mo_r6 hm | exact mo_r8 hm | exact mo_a1 hm | exact mo_a2 hm | exact mo_a3 hm | exact mo_a4 hm | exact mo_a5 hm | exact mo_a6 hm) dX8_setsGuards_24 (s_X8_guards hm hV) ?_
        refine px_aload_0 dX8_setsGuards_27 ?_
        refine gf_X8_7 rfl dX8_setsGuards_28 (by first | assumption | exact mo_a hm | exact mo_r0 hm | exact mo_r1 hm | exact mo_r2 hm | exact mo_r4 hm | exact mo_r6 hm | exact mo_r8 hm | exact mo_a1 hm | exact mo_a2 hm | exact mo_a3 hm | exact mo_a4 hm | exact mo_a5 hm | exact mo_a6 hm) (by first | assumption | exact mo_a hm | exact mo_r0 hm | exact mo_r1 hm | exact mo_r2 hm | exact mo_r4 hm | exact mo_r6 hm | exact mo_r8 hm | exact mo_a1 hm | exact mo_a2 hm | exact mo_a3 hm | exact mo_a4 hm | exact mo_a5 hm | exact mo_a6 hm) ?_
        refine px_iload_1 dX8_setsGuards_31 ?_
        refine px_iconst (3) dX8_setsGuards_32 rfl ?_
        refine cd_X8_40 rfl ⟨⟨Nat.le_of_ble_eq_true rfl, Nat.le_of_ble_eq_true rfl⟩, Nat.le_of_ble_eq_true rfl, Nat.le_of_ble_eq_true rfl, Nat.le_of_ble_eq_true rfl⟩ dX8_setsGuards_33 (s_X8_ofOneRoad (j := 3) ha) ?_
        refine px_ialdN dX8_setsGuards_36 (by first | assumption | exact mo_a hm | exact mo_r0 hm | exact mo_r1 hm | exact mo_r2 hm | exact mo_r4 hm | exact mo_r6 hm | exact mo_r8 hm | exact mo_a1 hm | exact mo_a2 hm | exact mo_a3 hm | exact mo_a4 hm | exact mo_a5 hm | exact mo_a6 hm) (by first | rfl | exact ix_eq (by assumption)) (by first | decide | omega) ?_
        refine px_isub dX8_setsGuards_37 ?_
        refine px_istore_3 dX8_setsGuards_38 rfl ?_
        refine px_iload_3 dX8_setsGuards_39 ?_
        refine px_iload_2 dX8_setsGuards_40 ?_
        refine px_iadd dX8_setsGuards_41 ?_
        refine px_aload_0 dX8_setsGuards_42 ?_
        refine gf_X8_7 rfl dX8_setsGuards_43 (by first | assumption | exact mo_a hm | exact mo_r0 hm | exact mo_r1 hm | exact mo_r2 hm | exact mo_r4 hm | exact mo_r6 hm | exact mo_r8 hm | exact mo_a1 hm | exact mo_a2 hm | exact mo_a3 hm | exact mo_a4 hm | exact mo_a5 hm | exact mo_a6 hm) (by first | assumption | exact mo_a hm | exact mo_r0 hm | exact mo_r1 hm | exact mo_r2 hm | exact mo_r4 hm | exact mo_r6 hm | exact mo_r8 hm | exact mo_a1 hm | exact mo_a2 hm | exact mo_a3 hm | exact mo_a4 hm | exact mo_a5 hm | exact mo_a6 hm) ?_
        refine px_sipush (145) dX8_setsGuards_46 rfl ?_
        refine px_ialdN (j := 145) dX8_setsGuards_49 (by first | assumption | exact mo_a hm | exact mo_r0 hm | exact mo_r1 hm | exact mo_r2 hm | exact mo_r4 hm | exact mo_r6 hm | exact mo_r8 hm | exact mo_a1 hm | exact mo_a2 hm | exact mo_a3 hm | exact mo_a4 hm | exact mo_a5 hm | exact mo_a6 hm) (by first | rfl | exact ix_eq (by assumption)) (by first | decide | omega) ?_
        refine px_icmp_le (tgt := 58) dX8_setsGuards_50 (by decide) (fun h50 => ?_) (fun h50 => (by first | exact absurd ((Int32.not_lt.mp hp)) h50 | exact absurd h50 ((Int32.not_lt.mp hp))))
        refine px_aload_0 dX8_setsGuards_58 ?_
        refine px_iload_1 dX8_setsGuards_59 ?_
        refine px_iconst (3) dX8_setsGuards_60 rfl ?_
        refine cd_X8_40 rfl ⟨⟨Nat.le_of_ble_eq_true rfl, Nat.le_of_ble_eq_true rfl⟩, Nat.le_of_ble_eq_true rfl, Nat.le_of_ble_eq_true rfl, Nat.le_of_ble_eq_true rfl⟩ dX8_setsGuards_61 (s_X8_ofOneRoad (j := 3) ha) ?_
        refine px_iload_2 dX8_setsGuards_64 ?_
        refine cd_X8_102 rfl ⟨⟨Nat.le_of_ble_eq_true rfl, Nat.le_of_ble_eq_true rfl⟩, Nat.le_of_ble_eq_true rfl, Nat.le_of_ble_eq_true rfl, Nat.le_of_ble_eq_true rfl⟩ (by first | assumption | exact mo_a hm | exact mo_r0 hm | exact mo_r1 hm | exact mo_r2 hm | exact mo_r4 hm | exact mo_r6 hm | exact mo_r8 hm | exact mo_a1 hm | exact mo_a2 hm | exact mo_a3 hm | exact mo_a4 hm | exact mo_a5 hm | exact mo_a6 hm) dX8_setsGuards_65 (s_X8_becomes hm rfl (by omega)) ?_
        refine px_iret dX8_setsGuards_68 ?_
        exact ⟨rfl, rfl⟩
    · have hf : f_guard (I (m + 1)) a b = (-2, I (m + 1)) := by clear ha hV; grind [f_guard]
      rw [hf, mem_id]
      refine px_aload_0 dX8_setsGuards_0 ?_
      refine px_iload_1 dX8_setsGuards_1 ?_
      refine cd_X8_118 rfl ⟨⟨Nat.le_of_ble_eq_true rfl, Nat.le_of_ble_eq_true rfl⟩, Nat.le_of_ble_eq_true rfl, Nat.le_of_ble_eq_true rfl, Nat.le_of_ble_eq_true rfl⟩ (by first | assumption | exact mo_a hm | exact mo_r0 hm | exact mo_r1 hm | exact mo_r2 hm | exact mo_r4 hm | exact mo_r6 hm | exact mo_r8 hm | exact mo_a1 hm | exact mo_a2 hm | exact mo_a3 hm | exact mo_a4 hm | exact mo_a5 hm | exact mo_a6 hm) dX8_setsGuards_2 (s_X8_isRoad hm) ?_
      refine px_ifb_ne (tgt := 10) dX8_setsGuards_5 (by decide) (fun h5 => ?_) (fun h5 => (by first | exact absurd (hr) h5 | exact absurd h5 (hr)))
      refine px_iload_2 dX8_setsGuards_10 ?_
      refine px_iconst (0) dX8_setsGuards_11 rfl ?_
      refine px_bipush (40) dX8_setsGuards_12 rfl ?_
      refine cd_X8_29 rfl ⟨⟨Nat.le_of_ble_eq_true rfl, Nat.le_of_ble_eq_true rfl⟩, Nat.le_of_ble_eq_true rfl, Nat.le_of_ble_eq_true rfl, Nat.le_of_ble_eq_true rfl⟩ dX8_setsGuards_14 (s_X8_in) ?_
      refine px_ifb_ne (tgt := 23) dX8_setsGuards_17 (by decide) (fun h17 => (by first | exact absurd h17 (hb) | exact absurd (hb) h17)) (fun h17 => ?_)
      refine px_bipush (-2) dX8_setsGuards_20 rfl ?_
      refine px_iret dX8_setsGuards_22 ?_
      exact ⟨rfl, rfl⟩
  · have hf : f_guard (I (m + 1)) a b = (-1, I (m + 1)) := by clear hV; grind [f_guard]
    rw [hf, mem_id]
    refine px_aload_0 dX8_setsGuards_0 ?_
    refine px_iload_1 dX8_setsGuards_1 ?_
    refine cd_X8_118 rfl ⟨⟨Nat.le_of_ble_eq_true rfl, Nat.le_of_ble_eq_true rfl⟩, Nat.le_of_ble_eq_true rfl, Nat.le_of_ble_eq_true rfl, Nat.le_of_ble_eq_true rfl⟩ (by first | assumption | exact mo_a hm | exact mo_r0 hm | exact mo_r1 hm | exact mo_r2 hm | exact mo_r4 hm | exact mo_r6 hm | exact mo_r8 hm | exact mo_a1 hm | exact mo_a2 hm | exact mo_a3 hm | exact mo_a4 hm | exact mo_a5 hm | exact mo_a6 hm) dX8_setsGuards_2 (s_X8_isRoad hm) ?_
    refine px_ifb_ne (tgt := 10) dX8_setsGuards_5 (by decide) (fun h5 => (by first | exact absurd h5 (hr) | exact absurd (hr) h5)) (fun h5 => ?_)
    refine px_iconst (-1) dX8_setsGuards_8 rfl ?_
    refine px_iret dX8_setsGuards_9 ?_
    exact ⟨rfl, rfl⟩
end ML

