/-! THE PURE LAYER. A state of a frame is: the place, the locals as a list, the stack, the cells made, and the memory as plain functions. px_W says that the machine from there comes to its end. Each row below is one of the kit's, told of such states. -/
def px_ws : List Cond := lw_tbl.filter goodWord
theorem px_ws_in {w : Cond} (h : w ∈ px_ws) : w ∈ lw_tbl := (List.mem_filter.mp h).1
theorem px_ws_mk {w : Cond} (h : w ∈ lw_tbl) (g : goodWord w = true) : w ∈ px_ws := List.mem_filter.mpr ⟨h, g⟩
theorem px_wk {w : Cond} (i : Nat) (h : tables_1[i]? = some w) (g : goodWord w = true) : w ∈ px_ws := px_ws_mk (List.mem_append_right _ (List.mem_of_getElem? h)) g
theorem px_wp {w : Cond} (i : Nat) (h : (k2_sels lw_privs)[i]? = some w) (g : goodWord w = true) : w ∈ px_ws := px_ws_mk (List.mem_append_left _ (List.mem_of_getElem? h)) g
theorem px_gi : GoodIn px_ws px_ws := fun _ h => ⟨h, good_of_word (List.mem_filter.mp h).2⟩
def px_nw : List Cond := [Cond.methodLinkNest RX6 61 yX4_init "SaltPrices", Cond.methodLinkNest RX6 62 yX0_init "SaltPrices", Cond.methodLinkNest RX7 33 yX2_init "SaltPrices", Cond.methodLinkNest RX6 70 yX7_isOutside "SaltPrices", Cond.methodLinkNest RX6 135 yX7_isTown "SaltPrices", Cond.fieldLinkNest RX6 52 "SaltPrices" "FIRST_SETTINGS" "[I" "SaltPrices", Cond.fieldLinkNest RX6 125 "SaltPrices" "LEAST_SETTINGS" "[I" "SaltPrices", Cond.fieldLinkNest RX6 128 "SaltPrices" "MOST_SETTINGS" "[I" "SaltPrices", Cond.fieldLinkNest RX5 91 "SaltPrices" "UNITS" "[J" "SaltPrices", Cond.arrayOver (.object "SaltPrices$Cart"), Cond.arrayOver (.object "SaltPrices$Road"), Cond.arrayOver (.object "SaltPrices$World"), Cond.arrayOver (.array .long)]
theorem px_AOl_moved {u U : State} (hvm : u.vm.Alike U.vm) (h : va_Nw (Cond.arrayOver (.array .long)) u) : va_Nw (Cond.arrayOver (.array .long)) U := by
  unfold va_Nw Cond.before Cond.holds at h
  simp only [Cond.value, beq_iff_eq] at h
  obtain ⟨comp, h1, h⟩ := Option.bind_eq_some_iff.mp h
  obtain ⟨c, h2, h⟩ := Option.bind_eq_some_iff.mp h
  obtain ⟨k, h3, h4⟩ := Option.map_eq_some_iff.mp h
  obtain ⟨k', hk', he⟩ := hvm.2.2 _ _ h3
  have hi := ((va_idx_bare U.vm comp).symm.trans (by first | rw [hvm.bare_eq] | rw [← hvm.bare_eq])).trans ((va_idx_bare u.vm comp).trans h2)
  have hkind : k'.kind = k.kind := by rw [he]
  unfold va_Nw Cond.before Cond.holds
  simp only [Cond.value, beq_iff_eq]
  refine Option.bind_eq_some_iff.mpr ⟨comp, by rw [hvm.findClass]; exact h1, Option.bind_eq_some_iff.mpr ⟨c, hi, Option.map_eq_some_iff.mpr ⟨k', hk', ?_⟩⟩⟩
  rw [hkind, hvm.findClass]
  exact h4
theorem px_AO_moved {C : String} {u U : State} (hvm : u.vm.Alike U.vm) (h : va_Nw (Cond.arrayOver (.object C)) u) : va_Nw (Cond.arrayOver (.object C)) U := va_AO.moved hvm h
theorem px_nw_warm {w : Cond} (hw : w ∈ px_nw) {s U : State} (hW : s.WarmedH U.vm) (hZ : va_Nw w s) : va_Nw w U := by
  simp only [px_nw, List.mem_cons, List.not_mem_nil, or_false] at hw
  rcases hw with rfl | rfl | rfl | rfl | rfl | rfl | rfl | rfl | rfl | rfl | rfl | rfl | rfl <;> first | exact va_Nw.warmM hW hZ | exact va_Nw.warmF hW hZ | exact px_AO_moved hW.alike hZ | exact px_AOl_moved hW.alike hZ
theorem px_nw_same {w : Cond} (hw : w ∈ px_nw) {u U : State} (h : u.vm = U.vm) (hZ : va_Nw w u) : va_Nw w U := by
  have ha : u.vm.Alike U.vm := by rw [h]; exact Vm.Alike.refl _
  simp only [px_nw, List.mem_cons, List.not_mem_nil, or_false] at hw
  rcases hw with rfl | rfl | rfl | rfl | rfl | rfl | rfl | rfl | rfl | rfl | rfl | rfl | rfl <;> first | exact va_Nw.same rfl h hZ | exact px_AO_moved ha hZ | exact px_AOl_moved ha hZ
theorem px_nw_tbl : ∀ w ∈ px_nw, w ∈ lw_tbl := by decide +kernel
abbrev px_I : Type := Nat → Nat → Int32
abbrev px_J : Type := Nat → Nat → Int64
abbrev px_R : Type := Nat → Nat → Option Nat
/-- how many cells, and the kind and the length of each -/
abbrev px_T : Type := Nat × (Nat → Nat × Nat)
abbrev px_M : Type := px_T × px_I × px_J × px_R
abbrev px_B : Type := FieldType × Nat × Nat × (Nat → Value)
/-- what stays the same: the classes' numbers and slots, the array classes, the first new address, tables, the scripts, statics -/
abbrev px_G : Type := va_G × (Nat → ClassId) × Nat × List px_B × List (Nat × Nat × (Nat → Int32)) × List (String × String × String × Value)
abbrev px_D : Type := MethodName × ByteArray × Nat × Option FieldType
def px_cy (G : px_G) : Nat → ClassId := G.2.1
def px_h (G : px_G) : Nat := G.2.2.1
def px_A (G : px_G) : Nat → Prop := fun q => px_h G ≤ q
def px_tys (cy : Nat → ClassId) : List (ClassId × FieldType) := [(cy 9, .int), (cy 10, .long), (cy 11, .boolean), (cy 12, .object "SaltPrices$Cart"), (cy 13, .object "SaltPrices$Road"), (cy 14, .object "SaltPrices$World"), (cy 15, .array .long)]
def px_o (c : Nat) (i : Nat → Int32) (j : Nat → Int64) (r : Nat → Option Nat) : List Value := match c with
  | 0 => [.int (i 0), .int (i 1), .int (i 2), .int (i 3), .int (i 4), .int (i 5), .int (i 6), .int (i 7)]
  | 1 => [va_rf (r 0), .int (i 1), .int (i 2)]
  | 2 => [va_rf (r 0), .int (i 1)]
  | 3 => [va_rf (r 0), .int (i 1), .int (i 2), .int (i 3), .int (i 4), .int (i 5), .int (i 6)]
  | 4 => [.int (i 0), .int (i 1), .int (i 2), .int (i 3), .int (i 4), .int (i 5)]
  | 5 => [.int (i 0), va_rf (r 1), va_rf (r 2), .long (j 3)]
  | 6 => [va_rf (r 0), va_rf (r 1), va_rf (r 2), va_rf (r 3), .int (i 4), .int (i 5), .int (i 6), .int (i 7), .int (i 8), .int (i 9), .int (i 10)]
  | 7 => [va_rf (r 0), va_rf (r 1), va_rf (r 2), va_rf (r 3), va_rf (r 4), va_rf (r 5), va_rf (r 6), va_rf (r 7), va_rf (r 8)]
  | _ => []
def px_e (cy : Nat → ClassId) (c n : Nat) (i : Nat → Int32) (j : Nat → Int64) (r : Nat → Option Nat) : va_E := match c with
  | 9 => .inl (cy 9, n, .inl i)
  | 10 => .inl (cy 10, n, .inr (.inl j))
  | 11 => .inl (cy 11, n, .inl i)
  | 12 => .inl (cy 12, n, .inr (.inr (.inr (.inr r))))
  | 13 => .inl (cy 13, n, .inr (.inr (.inr (.inr r))))
  | 14 => .inl (cy 14, n, .inr (.inr (.inr (.inr r))))
  | 15 => .inl (cy 15, n, .inr (.inr (.inr (.inr r))))
  | c => .inr (c, px_o c i j r)
def px_E (G : px_G) (μ : px_M) (a : Nat) : va_E := px_e (px_cy G) (μ.1.2 a).1 (μ.1.2 a).2 (μ.2.1 a) (μ.2.2.1 a) (μ.2.2.2 a)
def px_L (G : px_G) (T : px_T) : List Nat := (List.range T.1).map (fun i => px_h G + i)
theorem px_L_mem {G : px_G} {T : px_T} {a : Nat} : a ∈ px_L G T ↔ px_h G ≤ a ∧ a < px_h G + T.1 := by
  simp only [px_L, List.mem_map, List.mem_range]
  exact ⟨fun ⟨i, h, e⟩ => by omega, fun h => ⟨a - px_h G, by omega, by omega⟩⟩
def px_w (G : px_G) (μ : px_M) : va_W := va_pl (px_L G μ.1) (px_E G μ)
/-- the cell a is of kind c and length n -/
def px_at (G : px_G) (T : px_T) (a c n : Nat) : Prop := px_h G ≤ a ∧ a < px_h G + T.1 ∧ T.2 a = (c, n)
theorem px_at_get {G : px_G} {T : px_T} {I : px_I} {J : px_J} {R : px_R} {a c n : Nat} (h : px_at G T a c n) : ∃ k : Nat, (px_w G (T, I, J, R))[k]? = some (a, px_e (px_cy G) c n (I a) (J a) (R a)) := by
  obtain ⟨h1, h2, h3⟩ := h
  obtain ⟨k, hk⟩ := va_pl_get (X := []) (f := px_E G (T, I, J, R)) (px_L_mem.mpr ⟨h1, h2⟩)
  refine ⟨k, hk.trans ?_⟩
  show some (a, px_e _ (T.2 a).1 (T.2 a).2 _ _ _) = _
  rw [h3]
def px_up {α : Type} (f : Nat → Nat → α) (a k : Nat) (v : α) : Nat → Nat → α := fun b => if b = a then fun j => if j = k then v else f a j else f b
theorem px_up_row {α : Type} (f : Nat → Nat → α) (a k : Nat) (v : α) : px_up f a k v a = fun j => if j = k then v else f a j := if_pos rfl
theorem px_up_ne {α : Type} {f : Nat → Nat → α} {a k : Nat} {v : α} {b : Nat} (h : b ≠ a) : px_up f a k v b = f b := if_neg h
theorem px_up_self {α : Type} (f : Nat → Nat → α) (a k : Nat) (v : α) : px_up f a k v a k = v := by simp [px_up]
theorem px_up_at {α : Type} (f : Nat → Nat → α) (a k : Nat) (v : α) (b j : Nat) : px_up f a k v b j = if b = a ∧ j = k then v else f b j := by
  by_cases h : b = a
  · subst h
    by_cases h2 : j = k <;> simp [px_up, h2]
  · simp [px_up, h]
/-- one cell's contents are others: the list of cells -/
theorem px_set_w {G : px_G} {T : px_T} {I I' : px_I} {J J' : px_J} {R R' : px_R} {a c n k : Nat} (hD : va_D (px_A G) (px_w G (T, I, J, R))) (h : px_at G T a c n) (hk : (px_w G (T, I, J, R))[k]? = some (a, px_e (px_cy G) c n (I a) (J a) (R a)))
    (hI : ∀ b, b ≠ a → I' b = I b) (hJ : ∀ b, b ≠ a → J' b = J b) (hR : ∀ b, b ≠ a → R' b = R b) : (px_w G (T, I, J, R)).set k (a, px_e (px_cy G) c n (I' a) (J' a) (R' a)) = px_w G (T, I', J', R') := by
  obtain ⟨h1, h2, h3⟩ := h
  have hE : px_E G (T, I, J, R) a = px_e (px_cy G) c n (I a) (J a) (R a) := by
    show px_e _ (T.2 a).1 (T.2 a).2 _ _ _ = _
    rw [h3]
  have := va_pl_set (X := []) (f := px_E G (T, I, J, R)) (e := px_e (px_cy G) c n (I' a) (J' a) (R' a)) hD (px_L_mem.mpr ⟨h1, h2⟩) (hk.trans (by rw [hE]))
  refine this.trans (congrArg (fun l => [] ++ l) (va_pl_congr fun b => ?_))
  by_cases hb : b = a
  · subst hb
    show va_up _ b _ b = px_e _ (T.2 b).1 (T.2 b).2 _ _ _
    rw [h3]
    simp [va_up]
  · show va_up _ a _ b = px_e _ (T.2 b).1 (T.2 b).2 _ _ _
    simp only [va_up, if_neg hb]
    show px_e _ (T.2 b).1 (T.2 b).2 _ _ _ = _
    rw [hI b hb, hJ b hb, hR b hb]
/-- the world of a state: what holds at a method's start and end -/
def px_S (G : px_G) (μ : px_M) (U : State) : Prop :=
  va_K G.1 vwCl (px_tys (px_cy G)) U ∧ va_P G.1 vwCl (px_w G μ) U.heap ∧ va_D (px_A G) (px_w G μ) ∧ U.heap.size = px_h G + μ.1.1 ∧
  (∀ (k : Nat) (b : px_B), G.2.2.2.1[k]? = some b → va_T b.1 b.2.1 b.2.2.1 b.2.2.2 (px_A G) U U.heap) ∧
  (∀ (k : Nat) (b : Nat × Nat × (Nat → Int32)), G.2.2.2.2.1[k]? = some b → va_X b.1 b.2.1 b.2.2 U U.heap ∧ b.1 < px_h G) ∧
  (∀ (k : Nat) (z : String × String × String × Value), G.2.2.2.2.2[k]? = some z → va_Z z.1 z.2.1 z.2.2.1 z.2.2.2 (px_A G) U U.heap) ∧ (∀ w ∈ px_nw, va_Nw w U)
theorem px_S.moved {G : px_G} {μ : px_M} {u U : State} (hv : u.vm = U.vm) (hh : U.heap = u.heap) (h : px_S G μ u) : px_S G μ U := by
  have hvm : u.vm.Alike U.vm := by rw [hv]; exact Vm.Alike.refl _
  obtain ⟨h1, h2, h3, h4, h5, h6, h7, h8⟩ := h
  refine ⟨h1.moved hvm, by rw [hh]; exact h2, h3, by rw [hh]; exact h4, fun k b hb => ?_, fun k b hb => ?_, fun k z hz => ?_, fun w hw => px_nw_same hw hv (h8 w hw)⟩
  · rw [hh]; exact (h5 k b hb).moved hvm
  · rw [hh]; exact ⟨(h6 k b hb).1.moved hvm, (h6 k b hb).2⟩
  · rw [hh]; exact (h7 k z hz).moved hvm
/-- the world within a frame that began at s -/
def px_F (G : px_G) (μ : px_M) (s : State) (H : Heap) (locs : List Loc) : Prop :=
  va_P G.1 vwCl (px_w G μ) H ∧ va_D (px_A G) (px_w G μ) ∧ H.size = px_h G + μ.1.1 ∧ va_S (px_A G) s.heap H locs
/-- what a frame knows of its start -/
def px_X (G : px_G) (y : MethodName) (cc : ByteArray) (nL : Nat) (ret : Option FieldType) (p : Program) (s : State) (m : MethodId) (args : Array Value) (meth : Method) (c : Code) : Prop :=
  p.tables.exec = Jvm.exec ∧ c.code = cc ∧ meth.sig.returnType = ret ∧ s.vm.findClass y.cls = some m.cls ∧ (∀ w ∈ px_ws, w.before args s = true) ∧ c.maxLocals = nL ∧ meth.locks = false ∧ meth.name = y.name ∧ px_h G ≤ s.heap.size ∧
  va_K G.1 vwCl (px_tys (px_cy G)) s ∧
  (∀ (k : Nat) (b : px_B), G.2.2.2.1[k]? = some b → va_T b.1 b.2.1 b.2.2.1 b.2.2.2 (px_A G) s s.heap) ∧
  (∀ (k : Nat) (b : Nat × Nat × (Nat → Int32)), G.2.2.2.2.1[k]? = some b → va_X b.1 b.2.1 b.2.2 s s.heap ∧ b.1 < px_h G) ∧
  (∀ (k : Nat) (z : String × String × String × Value), G.2.2.2.2.2[k]? = some z → va_Z z.1 z.2.1 z.2.2.1 z.2.2.2 (px_A G) s s.heap) ∧ (∀ w ∈ px_nw, va_Nw w s)
/-- at the frame's end (or at a call): the world of a state -/
theorem px_end {G : px_G} {μ : px_M} {y : MethodName} {cc : ByteArray} {nL : Nat} {ret : Option FieldType} {p : Program} {s : State} {m : MethodId} {args : Array Value} {meth : Method} {c : Code} {H : Heap} {locs : List Loc} (X : px_X G y cc nL ret p s m args meth c) (hF : px_F G μ s H locs) {U : State} (hU : U.heap = H) (hW : s.WarmedH U.vm) : px_S G μ U := by
  have hvm := hW.alike
  obtain ⟨-, -, -, -, -, -, -, -, hle, hK, hT, hX, hZ, hN⟩ := X
  obtain ⟨hP, hD, hz, hS⟩ := hF
  have old : ∀ a : Nat, a < s.heap.size → ¬ px_A G a → H[a]? = s.heap[a]? := hS.2.1
  refine ⟨hK.moved hvm, by rw [hU]; exact hP, hD, by rw [hU]; exact hz, fun k b hb => ?_, fun k b hb => ?_, fun k z hz => ?_, fun w hw => px_nw_warm hw hW (hN w hw)⟩
  · rw [hU]; exact ((hT k b hb).kept old).moved hvm
  · obtain ⟨g1, g2⟩ := hX k b hb
    rw [hU]; exact ⟨(g1.kept (old b.1 (by omega) (fun q => by unfold px_A at q; omega))).moved hvm, g2⟩
  · rw [hU]; exact ((hZ k z hz).kept old).moved hvm
def px_lv : Nat → List (Option Value) → List (Nat × Value)
  | _, [] => []
  | i, none :: r => px_lv (i + 1) r
  | i, some v :: r => (i, v) :: px_lv (i + 1) r
theorem px_lv_mem : ∀ (ls : List (Option Value)) (b i : Nat) (v : Value), (i, v) ∈ px_lv b ls ↔ ∃ j, i = b + j ∧ ls[j]? = some (some v)
  | [], b, i, v => by simp [px_lv]
  | none :: r, b, i, v => by
    rw [px_lv, px_lv_mem r]
    constructor
    · rintro ⟨j, h1, h2⟩
      exact ⟨j + 1, by omega, by simpa using h2⟩
    · rintro ⟨j, h1, h2⟩
      cases j with
      | zero => simp at h2
      | succ j => exact ⟨j, by omega, by simpa using h2⟩
  | some w :: r, b, i, v => by
    rw [px_lv, List.mem_cons, px_lv_mem r]
    constructor
    · rintro (h | ⟨j, h1, h2⟩)
      · cases h
        exact ⟨0, by omega, rfl⟩
      · exact ⟨j + 1, by omega, by simpa using h2⟩
    · rintro ⟨j, h1, h2⟩
      cases j with
      | zero =>
        simp at h2
        subst h2
        exact Or.inl (by rw [h1]; rfl)
      | succ j => exact Or.inr ⟨j, by omega, by simpa using h2⟩
def px_ls (la : Array Slot) (nL : Nat) (ls : List (Option Value)) : Prop := lv_has la nL (px_lv 0 ls) ∧ ls.length = nL
theorem px_ls.at {la : Array Slot} {nL : Nat} {ls : List (Option Value)} (h : px_ls la nL ls) {i : Nat} {v : Value} (hi : ls[i]? = some (some v)) : la[i]? = some (.val v) := h.1.2.2 (i, v) ((px_lv_mem ls 0 i v).mpr ⟨i, by omega, hi⟩)
/-- a local that is not the first half of a long -/
def px_nl (o : Option Value) : Bool := match o with
  | some v => v.category == 1
  | none => true
theorem px_ls.set {la la' : Array Slot} {nL : Nat} {ls : List (Option Value)} {i : Nat} {v : Value} (h : px_ls la nL ls) (hp : ∀ j w, i = j + 1 → ls[j]? = some (some w) → ¬ w.category = 2) (h' : lv_has la' nL ((i, v) :: (px_lv 0 ls).filter (fun q => !(q.1 == i) && !(q.1 + 1 == i && q.2.category == 2)))) : px_ls la' nL (ls.set i (some v)) := by
  refine ⟨⟨h'.1, h'.2.1, fun q hq => ?_⟩, by rw [List.length_set]; exact h.2⟩
  obtain ⟨j, h1, h2⟩ := (px_lv_mem _ 0 q.1 q.2).mp hq
  have hj : q.1 = j := by omega
  rw [List.getElem?_set] at h2
  by_cases hij : i = j
  · rw [if_pos hij] at h2
    by_cases hl : i < ls.length
    · rw [if_pos hl] at h2
      have e : q.2 = v := by simpa using h2.symm
      refine h'.2.2 q (List.mem_cons.mpr (Or.inl ?_))
      obtain ⟨q1, q2⟩ := q
      simp only at hj e
      rw [hj, e, hij]
    · rw [if_neg hl] at h2
      cases h2
  · rw [if_neg hij] at h2
    refine h'.2.2 q (List.mem_cons_of_mem _ (List.mem_filter.mpr ⟨(px_lv_mem _ 0 q.1 q.2).mpr ⟨j, h1, h2⟩, ?_⟩))
    have n1 : ¬ q.1 = i := by omega
    by_cases n2 : q.1 + 1 = i
    · have := hp j q.2 (by omega) h2
      simp [n1, this]
    · simp [n1, n2]
theorem px_ls.set2 {la la' : Array Slot} {nL : Nat} {ls : List (Option Value)} {i : Nat} {v : Value} (h : px_ls la nL ls) (hp : ∀ j w, i = j + 1 → ls[j]? = some (some w) → ¬ w.category = 2) (h' : lv_has la' nL ((i, v) :: (px_lv 0 ls).filter (fun q => !(q.1 == i) && (!(q.1 == i + 1) && !(q.1 + 1 == i && q.2.category == 2))))) : px_ls la' nL ((ls.set i (some v)).set (i + 1) none) := by
  refine ⟨⟨h'.1, h'.2.1, fun q hq => ?_⟩, by rw [List.length_set, List.length_set]; exact h.2⟩
  obtain ⟨j, h1, h2⟩ := (px_lv_mem _ 0 q.1 q.2).mp hq
  have hj : q.1 = j := by omega
  rw [List.getElem?_set] at h2
  by_cases hij1 : i + 1 = j
  · rw [if_pos hij1] at h2
    split at h2 <;> cases h2
  rw [if_neg hij1] at h2
  rw [List.getElem?_set] at h2
  by_cases hij : i = j
  · rw [if_pos hij] at h2
    by_cases hl : i < ls.length
    · rw [if_pos hl] at h2
      have e : q.2 = v := by simpa using h2.symm
      refine h'.2.2 q (List.mem_cons.mpr (Or.inl ?_))
      obtain ⟨q1, q2⟩ := q
      simp only at hj e
      rw [hj, e, hij]
    · rw [if_neg hl] at h2
      cases h2
  · rw [if_neg hij] at h2
    refine h'.2.2 q (List.mem_cons_of_mem _ (List.mem_filter.mpr ⟨(px_lv_mem _ 0 q.1 q.2).mpr ⟨j, h1, h2⟩, ?_⟩))
    have n1 : ¬ q.1 = i := by omega
    have n3 : ¬ q.1 = i + 1 := by omega
    by_cases n2 : q.1 + 1 = i
    · have := hp j q.2 (by omega) h2
      simp [n1, n3, this]
    · simp [n1, n2, n3]
theorem px_nl2 {o : Option Value} (h : px_nl o = true) {w : Value} (hw : o = some w) : ¬ w.category = 2 := by
  subst hw
  simp only [px_nl, beq_iff_eq] at h
  omega
def px_W (l : Launch) (G : px_G) (y : MethodName) (cc : ByteArray) (nL : Nat) (ret : Option FieldType) (Rm : Room) (Fn : List Frame → Array Value → State → State → Prop) (pc : Nat) (ls : List (Option Value)) (st : List Value) (k n : Nat) (μ : px_M) : Prop :=
  ∀ (p : Program) (e : Env) (s : State) (m : MethodId) (args : Array Value) (below : List Frame) (meth : Method) (c : Code) (H : Heap) (locs : List Loc) (la : Array Slot),
    px_X G y cc nL ret p s m args meth c → px_ls la nL ls → px_F G μ s H locs → W p l e Rm s m args below meth c H locs k n (Fn below args s) (F0 m pc la st)
def px_rm (lv mc ms : Nat) : Room := { frames := lv, cells := mc, slots := ms, locals := 33 * lv }
def px_Qc (G : px_G) (Q : Option Value → px_M → Prop) : Array Value → State → Outcome → State → Prop := fun _ st o t => (∃ (v : Option Value) (μ' : px_M), o = .returned v ∧ Q v μ' ∧ px_S G μ' t) ∧ va_F (px_A G) st t
def px_C (l : Launch) (G : px_G) (lv mc ms : Nat) (M : px_D) (As : List Value) (μ : px_M) (Q : Option Value → px_M → Prop) : Prop :=
  Met l M.1 (.code M.1 M.2.1 M.2.2.1 M.2.2.2 :: px_ws) (px_rm lv mc ms) (va_Pc As (fun U => px_S G μ U)) (px_Qc G Q) mc ms (px_A G)
def px_Fn (G : px_G) (Q : Option Value → px_M → Prop) (mc ms : Nat) : List Frame → Array Value → State → State → Prop := fun below args s => MQ below (px_Qc G Q) args s mc ms (px_A G)
def px_in (As : List Value) : List (Option Value) := As.flatMap (fun v => if v.category = 2 then [some v, none] else [some v])
theorem px_in_lv : ∀ (As : List Value) (b : Nat), px_lv b (px_in As) = lv_args b As
  | [], b => rfl
  | v :: As, b => by
    by_cases h : v.category = 2
    · have e : px_in (v :: As) = some v :: none :: px_in As := by simp [px_in, h]
      rw [e, px_lv, px_lv, px_in_lv As, lv_args, if_pos h]
    · have e : px_in (v :: As) = some v :: px_in As := by simp [px_in, h]
      rw [e, px_lv, px_in_lv As, lv_args, if_neg h]
theorem px_lv_none : ∀ (k b : Nat), px_lv b (List.replicate k none) = []
  | 0, _ => rfl
  | k + 1, b => by rw [List.replicate_succ, px_lv, px_lv_none k]
theorem px_lv_app : ∀ (a r : List (Option Value)) (b : Nat), px_lv b (a ++ r) = px_lv b a ++ px_lv (b + a.length) r
  | [], r, b => by simp [px_lv]
  | none :: a, r, b => by
    rw [List.cons_append, px_lv, px_lv, px_lv_app a r, List.length_cons, show b + 1 + a.length = b + (a.length + 1) by omega]
  | some v :: a, r, b => by
    rw [List.cons_append, px_lv, px_lv, px_lv_app a r, List.length_cons, show b + 1 + a.length = b + (a.length + 1) by omega, List.cons_append]
theorem px_met {l : Launch} {G : px_G} {lv mc ms : Nat} {M : px_D} {As : List Value} {μ : px_M} {Q : Option Value → px_M → Prop} (ls : List (Option Value)) (hy : plainName M.1.cls = true) (hls : px_in As ++ List.replicate (M.2.2.1 - (lg_sl As).length) none = ls) (hn : (lg_sl As).length ≤ M.2.2.1) (hn2 : ls.length = M.2.2.1)
    (h : px_W l G M.1 M.2.1 M.2.2.1 M.2.2.2 (px_rm lv mc ms) (px_Fn G Q mc ms) 0 ls [] 0 0 μ) : px_C l G lv mc ms M As μ Q := by
  refine Met.ofW (cc := M.2.1) (maxL := M.2.2.1) (ret := M.2.2.2) hy rfl ?_
  intro p e s m args below meth c s₁ B hml hv
  obtain ⟨rfl, hS⟩ := hv
  have hts := atoms_spec (ws := Cond.code M.1 M.2.1 M.2.2.1 M.2.2.2 :: px_ws) B.pre
  obtain ⟨h1, h2, h3, h4, h5, h6, h7, h8⟩ := hS
  have hl := lv_entry As (n := M.2.2.1) hn
  rw [lg_entry_eq]
  refine h p e s m As.toArray below meth c s.heap [] _ ⟨B.exec, B.bytes, B.returns, findClass_of_methodNamed B.named, fun w hw => hts w (List.mem_cons_of_mem _ hw), hml, B.notSynchronized, (name_of_methodNamed B.named B.method).1, by omega, h1, h5, h6, h7, h8⟩ ⟨?_, hn2⟩ ⟨h2, h3, h4, va_S.rf⟩
  rw [← hls, px_lv_app, px_lv_none, List.append_nil, px_in_lv]
  exact hl
section PX
variable {l : Launch} {G : px_G} {y : MethodName} {cc : ByteArray} {nL : Nat} {ret : Option FieldType} {Rm : Room} {Fn : List Frame → Array Value → State → State → Prop} {pc : Nat} {ls : List (Option Value)} {st : List Value} {k n : Nat} {μ : px_M}

theorem px_iconst {z : Int} (v : Int32) (d : decode cc pc = .ok (.iconst z, 1)) (hv : Int32.ofInt z = v) (h : px_W l G y cc nL ret Rm Fn (pc + 1) ls (.int v :: st) k n μ) : px_W l G y cc nL ret Rm Fn (pc) ls (st) k n μ := fun p e s m args below meth c H locs la X hl hF => lv_iconst X.1 X.2.1 d hv (h p e s m args below meth c H locs la X hl hF)
theorem px_bipush {z : Int} (v : Int32) (d : decode cc pc = .ok (.bipush z, 2)) (hv : (Int8.ofInt z).toInt32 = v) (h : px_W l G y cc nL ret Rm Fn (pc + 2) ls (.int v :: st) k n μ) : px_W l G y cc nL ret Rm Fn (pc) ls (st) k n μ := fun p e s m args below meth c H locs la X hl hF => lv_bipush X.1 X.2.1 d hv (h p e s m args below meth c H locs la X hl hF)
theorem px_sipush {z : Int} (v : Int32) (d : decode cc pc = .ok (.sipush z, 3)) (hv : (Int16.ofInt z).toInt32 = v) (h : px_W l G y cc nL ret Rm Fn (pc + 3) ls (.int v :: st) k n μ) : px_W l G y cc nL ret Rm Fn (pc) ls (st) k n μ := fun p e s m args below meth c H locs la X hl hF => lv_sipush X.1 X.2.1 d hv (h p e s m args below meth c H locs la X hl hF)
theorem px_lconst {z : Fin 2} (v : Int64) (d : decode cc pc = .ok (.lconst z, 1)) (hv : Int64.ofNat (z : Nat) = v) (h : px_W l G y cc nL ret Rm Fn (pc + 1) ls (.long v :: st) k n μ) : px_W l G y cc nL ret Rm Fn (pc) ls (st) k n μ := fun p e s m args below meth c H locs la X hl hF => lv_lconst X.1 X.2.1 d hv (h p e s m args below meth c H locs la X hl hF)
theorem px_ldc {idx : Nat} {v : Int32} (hc : Cond.constant y.cls idx v ∈ px_ws) (d : decode cc pc = .ok (.ldc idx, 2)) (h : px_W l G y cc nL ret Rm Fn (pc + 2) ls (.int v :: st) k n μ) : px_W l G y cc nL ret Rm Fn (pc) ls (st) k n μ := fun p e s m args below meth c H locs la X hl hF => lv_ldc X.1 X.2.1 X.2.2.2.1 (X.2.2.2.2.1 _ hc) d (h p e s m args below meth c H locs la X hl hF)
theorem px_ldc2 {idx : Nat} {v : Int64} (hc : Cond.constantLong y.cls idx v ∈ px_ws) (d : decode cc pc = .ok (.ldc2_w idx, 3)) (h : px_W l G y cc nL ret Rm Fn (pc + 3) ls (.long v :: st) k n μ) : px_W l G y cc nL ret Rm Fn (pc) ls (st) k n μ := fun p e s m args below meth c H locs la X hl hF => lv_ldc2 X.1 X.2.1 X.2.2.2.1 (X.2.2.2.2.1 _ hc) d (h p e s m args below meth c H locs la X hl hF)
theorem px_iadd {a b : Int32} (d : decode cc pc = .ok (.iadd, 1))  (h : px_W l G y cc nL ret Rm Fn (pc + 1) ls (.int (a + b) :: st) k n μ) : px_W l G y cc nL ret Rm Fn (pc) ls (.int b :: .int a :: st) k n μ := fun p e s m args below meth c H locs la X hl hF => lv_iadd X.1 X.2.1 d  (h p e s m args below meth c H locs la X hl hF)
theorem px_isub {a b : Int32} (d : decode cc pc = .ok (.isub, 1))  (h : px_W l G y cc nL ret Rm Fn (pc + 1) ls (.int (a - b) :: st) k n μ) : px_W l G y cc nL ret Rm Fn (pc) ls (.int b :: .int a :: st) k n μ := fun p e s m args below meth c H locs la X hl hF => lv_isub X.1 X.2.1 d  (h p e s m args below meth c H locs la X hl hF)
theorem px_imul {a b : Int32} (d : decode cc pc = .ok (.imul, 1))  (h : px_W l G y cc nL ret Rm Fn (pc + 1) ls (.int (a * b) :: st) k n μ) : px_W l G y cc nL ret Rm Fn (pc) ls (.int b :: .int a :: st) k n μ := fun p e s m args below meth c H locs la X hl hF => lv_imul X.1 X.2.1 d  (h p e s m args below meth c H locs la X hl hF)
theorem px_iand {a b : Int32} (d : decode cc pc = .ok (.iand, 1))  (h : px_W l G y cc nL ret Rm Fn (pc + 1) ls (.int (a &&& b) :: st) k n μ) : px_W l G y cc nL ret Rm Fn (pc) ls (.int b :: .int a :: st) k n μ := fun p e s m args below meth c H locs la X hl hF => lv_iand X.1 X.2.1 d  (h p e s m args below meth c H locs la X hl hF)
theorem px_ior {a b : Int32} (d : decode cc pc = .ok (.ior, 1))  (h : px_W l G y cc nL ret Rm Fn (pc + 1) ls (.int (a ||| b) :: st) k n μ) : px_W l G y cc nL ret Rm Fn (pc) ls (.int b :: .int a :: st) k n μ := fun p e s m args below meth c H locs la X hl hF => lv_ior X.1 X.2.1 d  (h p e s m args below meth c H locs la X hl hF)
theorem px_ishl {a b : Int32} (d : decode cc pc = .ok (.ishl, 1))  (h : px_W l G y cc nL ret Rm Fn (pc + 1) ls (.int (a <<< (b &&& 31)) :: st) k n μ) : px_W l G y cc nL ret Rm Fn (pc) ls (.int b :: .int a :: st) k n μ := fun p e s m args below meth c H locs la X hl hF => lv_ishl X.1 X.2.1 d  (h p e s m args below meth c H locs la X hl hF)
theorem px_ishr {a b : Int32} (d : decode cc pc = .ok (.ishr, 1))  (h : px_W l G y cc nL ret Rm Fn (pc + 1) ls (.int (a >>> (b &&& 31)) :: st) k n μ) : px_W l G y cc nL ret Rm Fn (pc) ls (.int b :: .int a :: st) k n μ := fun p e s m args below meth c H locs la X hl hF => lv_ishr X.1 X.2.1 d  (h p e s m args below meth c H locs la X hl hF)
theorem px_idiv {a b : Int32} (d : decode cc pc = .ok (.idiv, 1)) (hb : ¬ b = 0) (h : px_W l G y cc nL ret Rm Fn (pc + 1) ls (.int (a / b) :: st) k n μ) : px_W l G y cc nL ret Rm Fn (pc) ls (.int b :: .int a :: st) k n μ := fun p e s m args below meth c H locs la X hl hF => lv_idiv X.1 X.2.1 d hb (h p e s m args below meth c H locs la X hl hF)
theorem px_irem {a b : Int32} (d : decode cc pc = .ok (.irem, 1)) (hb : ¬ b = 0) (h : px_W l G y cc nL ret Rm Fn (pc + 1) ls (.int (a - a / b * b) :: st) k n μ) : px_W l G y cc nL ret Rm Fn (pc) ls (.int b :: .int a :: st) k n μ := fun p e s m args below meth c H locs la X hl hF => lv_irem X.1 X.2.1 d hb (h p e s m args below meth c H locs la X hl hF)
theorem px_ladd {a b : Int64} (d : decode cc pc = .ok (.ladd, 1))  (h : px_W l G y cc nL ret Rm Fn (pc + 1) ls (.long (a + b) :: st) k n μ) : px_W l G y cc nL ret Rm Fn (pc) ls (.long b :: .long a :: st) k n μ := fun p e s m args below meth c H locs la X hl hF => lv_ladd X.1 X.2.1 d  (h p e s m args below meth c H locs la X hl hF)
theorem px_lsub {a b : Int64} (d : decode cc pc = .ok (.lsub, 1))  (h : px_W l G y cc nL ret Rm Fn (pc + 1) ls (.long (a - b) :: st) k n μ) : px_W l G y cc nL ret Rm Fn (pc) ls (.long b :: .long a :: st) k n μ := fun p e s m args below meth c H locs la X hl hF => lv_lsub X.1 X.2.1 d  (h p e s m args below meth c H locs la X hl hF)
theorem px_lmul {a b : Int64} (d : decode cc pc = .ok (.lmul, 1))  (h : px_W l G y cc nL ret Rm Fn (pc + 1) ls (.long (a * b) :: st) k n μ) : px_W l G y cc nL ret Rm Fn (pc) ls (.long b :: .long a :: st) k n μ := fun p e s m args below meth c H locs la X hl hF => lv_lmul X.1 X.2.1 d  (h p e s m args below meth c H locs la X hl hF)
theorem px_land {a b : Int64} (d : decode cc pc = .ok (.land, 1))  (h : px_W l G y cc nL ret Rm Fn (pc + 1) ls (.long (a &&& b) :: st) k n μ) : px_W l G y cc nL ret Rm Fn (pc) ls (.long b :: .long a :: st) k n μ := fun p e s m args below meth c H locs la X hl hF => lv_land X.1 X.2.1 d  (h p e s m args below meth c H locs la X hl hF)
theorem px_lor {a b : Int64} (d : decode cc pc = .ok (.lor, 1))  (h : px_W l G y cc nL ret Rm Fn (pc + 1) ls (.long (a ||| b) :: st) k n μ) : px_W l G y cc nL ret Rm Fn (pc) ls (.long b :: .long a :: st) k n μ := fun p e s m args below meth c H locs la X hl hF => lv_lor X.1 X.2.1 d  (h p e s m args below meth c H locs la X hl hF)
theorem px_lcmp {a b : Int64} (d : decode cc pc = .ok (.lcmp, 1))  (h : px_W l G y cc nL ret Rm Fn (pc + 1) ls (.int (lg_cmp a b) :: st) k n μ) : px_W l G y cc nL ret Rm Fn (pc) ls (.long b :: .long a :: st) k n μ := fun p e s m args below meth c H locs la X hl hF => W.lcmp X.1 X.2.1 d  (h p e s m args below meth c H locs la X hl hF)
theorem px_i2l {a : Int32} (d : decode cc pc = .ok (.i2l, 1))  (h : px_W l G y cc nL ret Rm Fn (pc + 1) ls (.long a.toInt64 :: st) k n μ) : px_W l G y cc nL ret Rm Fn (pc) ls (.int a :: st) k n μ := fun p e s m args below meth c H locs la X hl hF => lv_i2l X.1 X.2.1 d rfl (h p e s m args below meth c H locs la X hl hF)
theorem px_l2i {a : Int64} (d : decode cc pc = .ok (.l2i, 1))  (h : px_W l G y cc nL ret Rm Fn (pc + 1) ls (.int a.toInt32 :: st) k n μ) : px_W l G y cc nL ret Rm Fn (pc) ls (.long a :: st) k n μ := fun p e s m args below meth c H locs la X hl hF => lv_l2i X.1 X.2.1 d rfl (h p e s m args below meth c H locs la X hl hF)
theorem px_lshl {a : Int64} {b : Int32} (d : decode cc pc = .ok (.lshl, 1))  (h : px_W l G y cc nL ret Rm Fn (pc + 1) ls (.long (a <<< (b.toInt64 &&& 63)) :: st) k n μ) : px_W l G y cc nL ret Rm Fn (pc) ls (.int b :: .long a :: st) k n μ := fun p e s m args below meth c H locs la X hl hF => lv_lshl X.1 X.2.1 d rfl (h p e s m args below meth c H locs la X hl hF)
theorem px_lshr {a : Int64} {b : Int32} (d : decode cc pc = .ok (.lshr, 1))  (h : px_W l G y cc nL ret Rm Fn (pc + 1) ls (.long (a >>> (b.toInt64 &&& 63)) :: st) k n μ) : px_W l G y cc nL ret Rm Fn (pc) ls (.int b :: .long a :: st) k n μ := fun p e s m args below meth c H locs la X hl hF => lv_lshr X.1 X.2.1 d rfl (h p e s m args below meth c H locs la X hl hF)
theorem px_lushr {a : Int64} {b : Int32} (d : decode cc pc = .ok (.lushr, 1))  (h : px_W l G y cc nL ret Rm Fn (pc + 1) ls (.long (a.toUInt64 >>> (b.toInt64.toUInt64 &&& Int64.toUInt64 63)).toInt64 :: st) k n μ) : px_W l G y cc nL ret Rm Fn (pc) ls (.int b :: .long a :: st) k n μ := fun p e s m args below meth c H locs la X hl hF => lv_lushr X.1 X.2.1 d rfl (h p e s m args below meth c H locs la X hl hF)
theorem px_dup {a : Value} (d : decode cc pc = .ok (.dup, 1)) (ha : a.category = 1) (h : px_W l G y cc nL ret Rm Fn (pc + 1) ls (a :: a :: st) k n μ) : px_W l G y cc nL ret Rm Fn (pc) ls (a :: st) k n μ := fun p e s m args below meth c H locs la X hl hF => lv_dup X.1 X.2.1 d ha (h p e s m args below meth c H locs la X hl hF)
theorem px_pop {a : Value} (d : decode cc pc = .ok (.pop, 1)) (ha : a.category = 1) (h : px_W l G y cc nL ret Rm Fn (pc + 1) ls (st) k n μ) : px_W l G y cc nL ret Rm Fn (pc) ls (a :: st) k n μ := fun p e s m args below meth c H locs la X hl hF => lv_pop X.1 X.2.1 d ha (h p e s m args below meth c H locs la X hl hF)
theorem px_dup2 {a b : Value} (d : decode cc pc = .ok (.dup2, 1)) (ha : a.category = 1) (hb : b.category = 1) (h : px_W l G y cc nL ret Rm Fn (pc + 1) ls (a :: b :: a :: b :: st) k n μ) : px_W l G y cc nL ret Rm Fn (pc) ls (a :: b :: st) k n μ := fun p e s m args below meth c H locs la X hl hF => lv_dup2_11 X.1 X.2.1 d ha hb (h p e s m args below meth c H locs la X hl hF)
theorem px_dup2l {a : Int64} (d : decode cc pc = .ok (.dup2, 1))  (h : px_W l G y cc nL ret Rm Fn (pc + 1) ls (.long a :: .long a :: st) k n μ) : px_W l G y cc nL ret Rm Fn (pc) ls (.long a :: st) k n μ := fun p e s m args below meth c H locs la X hl hF => lv_dup2_2 X.1 X.2.1 d rfl (h p e s m args below meth c H locs la X hl hF)
theorem px_goto {off : Int} {tgt : Nat} (d : decode cc pc = .ok (.goto off, 3)) (ht : (pc : Int) + off = (tgt : Int)) (h : px_W l G y cc nL ret Rm Fn (tgt) ls (st) k n μ) : px_W l G y cc nL ret Rm Fn (pc) ls (st) k n μ := fun p e s m args below meth c H locs la X hl hF => lv_goto X.1 X.2.1 d ht (h p e s m args below meth c H locs la X hl hF)
theorem px_if_eq {a : Int32} {off : Int} {tgt : Nat} (d : decode cc pc = .ok (.ifCond .eq off, 3)) (ht : (pc : Int) + off = (tgt : Int)) (kt : a = 0 → px_W l G y cc nL ret Rm Fn (tgt) ls (st) k n μ) (kf : ¬ a = 0 → px_W l G y cc nL ret Rm Fn (pc + 3) ls (st) k n μ) : px_W l G y cc nL ret Rm Fn (pc) ls (.int a :: st) k n μ := fun p e s m args below meth c H locs la X hl hF => lv_if_eq X.1 X.2.1 d ht (fun q => kt q p e s m args below meth c H locs la X hl hF) (fun q => kf q p e s m args below meth c H locs la X hl hF)
theorem px_if_lt {a : Int32} {off : Int} {tgt : Nat} (d : decode cc pc = .ok (.ifCond .lt off, 3)) (ht : (pc : Int) + off = (tgt : Int)) (kt : a < 0 → px_W l G y cc nL ret Rm Fn (tgt) ls (st) k n μ) (kf : ¬ a < 0 → px_W l G y cc nL ret Rm Fn (pc + 3) ls (st) k n μ) : px_W l G y cc nL ret Rm Fn (pc) ls (.int a :: st) k n μ := fun p e s m args below meth c H locs la X hl hF => lv_if_lt X.1 X.2.1 d ht (fun q => kt q p e s m args below meth c H locs la X hl hF) (fun q => kf q p e s m args below meth c H locs la X hl hF)
theorem px_if_ge {a : Int32} {off : Int} {tgt : Nat} (d : decode cc pc = .ok (.ifCond .ge off, 3)) (ht : (pc : Int) + off = (tgt : Int)) (kt : 0 ≤ a → px_W l G y cc nL ret Rm Fn (tgt) ls (st) k n μ) (kf : ¬ 0 ≤ a → px_W l G y cc nL ret Rm Fn (pc + 3) ls (st) k n μ) : px_W l G y cc nL ret Rm Fn (pc) ls (.int a :: st) k n μ := fun p e s m args below meth c H locs la X hl hF => lv_if_ge X.1 X.2.1 d ht (fun q => kt q p e s m args below meth c H locs la X hl hF) (fun q => kf q p e s m args below meth c H locs la X hl hF)
theorem px_if_gt {a : Int32} {off : Int} {tgt : Nat} (d : decode cc pc = .ok (.ifCond .gt off, 3)) (ht : (pc : Int) + off = (tgt : Int)) (kt : 0 < a → px_W l G y cc nL ret Rm Fn (tgt) ls (st) k n μ) (kf : ¬ 0 < a → px_W l G y cc nL ret Rm Fn (pc + 3) ls (st) k n μ) : px_W l G y cc nL ret Rm Fn (pc) ls (.int a :: st) k n μ := fun p e s m args below meth c H locs la X hl hF => lv_if_gt X.1 X.2.1 d ht (fun q => kt q p e s m args below meth c H locs la X hl hF) (fun q => kf q p e s m args below meth c H locs la X hl hF)
theorem px_if_le {a : Int32} {off : Int} {tgt : Nat} (d : decode cc pc = .ok (.ifCond .le off, 3)) (ht : (pc : Int) + off = (tgt : Int)) (kt : a ≤ 0 → px_W l G y cc nL ret Rm Fn (tgt) ls (st) k n μ) (kf : ¬ a ≤ 0 → px_W l G y cc nL ret Rm Fn (pc + 3) ls (st) k n μ) : px_W l G y cc nL ret Rm Fn (pc) ls (.int a :: st) k n μ := fun p e s m args below meth c H locs la X hl hF => lv_if_le X.1 X.2.1 d ht (fun q => kt q p e s m args below meth c H locs la X hl hF) (fun q => kf q p e s m args below meth c H locs la X hl hF)
theorem px_if_ne {a : Int32} {off : Int} {tgt : Nat} (d : decode cc pc = .ok (.ifCond .ne off, 3)) (ht : (pc : Int) + off = (tgt : Int)) (kt : ¬ a = 0 → px_W l G y cc nL ret Rm Fn (tgt) ls (st) k n μ) (kf : a = 0 → px_W l G y cc nL ret Rm Fn (pc + 3) ls (st) k n μ) : px_W l G y cc nL ret Rm Fn (pc) ls (.int a :: st) k n μ := fun p e s m args below meth c H locs la X hl hF => lv_if_ne X.1 X.2.1 d ht (fun q => kt q p e s m args below meth c H locs la X hl hF) (fun q => kf q p e s m args below meth c H locs la X hl hF)
theorem px_icmp_eq {a b : Int32} {off : Int} {tgt : Nat} (d : decode cc pc = .ok (.if_icmp .eq off, 3)) (ht : (pc : Int) + off = (tgt : Int)) (kt : a = b → px_W l G y cc nL ret Rm Fn (tgt) ls (st) k n μ) (kf : ¬ a = b → px_W l G y cc nL ret Rm Fn (pc + 3) ls (st) k n μ) : px_W l G y cc nL ret Rm Fn (pc) ls (.int b :: .int a :: st) k n μ := fun p e s m args below meth c H locs la X hl hF => lv_icmp_eq X.1 X.2.1 d ht (fun q => kt q p e s m args below meth c H locs la X hl hF) (fun q => kf q p e s m args below meth c H locs la X hl hF)
theorem px_icmp_lt {a b : Int32} {off : Int} {tgt : Nat} (d : decode cc pc = .ok (.if_icmp .lt off, 3)) (ht : (pc : Int) + off = (tgt : Int)) (kt : a < b → px_W l G y cc nL ret Rm Fn (tgt) ls (st) k n μ) (kf : ¬ a < b → px_W l G y cc nL ret Rm Fn (pc + 3) ls (st) k n μ) : px_W l G y cc nL ret Rm Fn (pc) ls (.int b :: .int a :: st) k n μ := fun p e s m args below meth c H locs la X hl hF => lv_icmp_lt X.1 X.2.1 d ht (fun q => kt q p e s m args below meth c H locs la X hl hF) (fun q => kf q p e s m args below meth c H locs la X hl hF)
theorem px_icmp_ge {a b : Int32} {off : Int} {tgt : Nat} (d : decode cc pc = .ok (.if_icmp .ge off, 3)) (ht : (pc : Int) + off = (tgt : Int)) (kt : b ≤ a → px_W l G y cc nL ret Rm Fn (tgt) ls (st) k n μ) (kf : ¬ b ≤ a → px_W l G y cc nL ret Rm Fn (pc + 3) ls (st) k n μ) : px_W l G y cc nL ret Rm Fn (pc) ls (.int b :: .int a :: st) k n μ := fun p e s m args below meth c H locs la X hl hF => lv_icmp_ge X.1 X.2.1 d ht (fun q => kt q p e s m args below meth c H locs la X hl hF) (fun q => kf q p e s m args below meth c H locs la X hl hF)
theorem px_icmp_gt {a b : Int32} {off : Int} {tgt : Nat} (d : decode cc pc = .ok (.if_icmp .gt off, 3)) (ht : (pc : Int) + off = (tgt : Int)) (kt : b < a → px_W l G y cc nL ret Rm Fn (tgt) ls (st) k n μ) (kf : ¬ b < a → px_W l G y cc nL ret Rm Fn (pc + 3) ls (st) k n μ) : px_W l G y cc nL ret Rm Fn (pc) ls (.int b :: .int a :: st) k n μ := fun p e s m args below meth c H locs la X hl hF => lv_icmp_gt X.1 X.2.1 d ht (fun q => kt q p e s m args below meth c H locs la X hl hF) (fun q => kf q p e s m args below meth c H locs la X hl hF)
theorem px_icmp_le {a b : Int32} {off : Int} {tgt : Nat} (d : decode cc pc = .ok (.if_icmp .le off, 3)) (ht : (pc : Int) + off = (tgt : Int)) (kt : a ≤ b → px_W l G y cc nL ret Rm Fn (tgt) ls (st) k n μ) (kf : ¬ a ≤ b → px_W l G y cc nL ret Rm Fn (pc + 3) ls (st) k n μ) : px_W l G y cc nL ret Rm Fn (pc) ls (.int b :: .int a :: st) k n μ := fun p e s m args below meth c H locs la X hl hF => lv_icmp_le X.1 X.2.1 d ht (fun q => kt q p e s m args below meth c H locs la X hl hF) (fun q => kf q p e s m args below meth c H locs la X hl hF)
theorem px_icmp_ne {a b : Int32} {off : Int} {tgt : Nat} (d : decode cc pc = .ok (.if_icmp .ne off, 3)) (ht : (pc : Int) + off = (tgt : Int)) (kt : ¬ a = b → px_W l G y cc nL ret Rm Fn (tgt) ls (st) k n μ) (kf : a = b → px_W l G y cc nL ret Rm Fn (pc + 3) ls (st) k n μ) : px_W l G y cc nL ret Rm Fn (pc) ls (.int b :: .int a :: st) k n μ := fun p e s m args below meth c H locs la X hl hF => lv_icmp_ne X.1 X.2.1 d ht (fun q => kt q p e s m args below meth c H locs la X hl hF) (fun q => kf q p e s m args below meth c H locs la X hl hF)
theorem px_tableOut {dflt lo hi : Int} {offs : Array Int} {len : Nat} {x : Int32} {tgt : Nat} (d : decode cc pc = .ok (.tableswitch dflt lo hi offs, len)) (hx : x.toInt < lo ∨ hi < x.toInt) (ht : (pc : Int) + dflt = (tgt : Int)) (h : px_W l G y cc nL ret Rm Fn (tgt) ls (st) k n μ) : px_W l G y cc nL ret Rm Fn (pc) ls (.int x :: st) k n μ := fun p e s m args below meth c H locs la X hl hF => lv_tableOut X.1 X.2.1 d hx ht (h p e s m args below meth c H locs la X hl hF)
theorem px_tableIn {dflt lo hi : Int} {offs : Array Int} {len : Nat} {x : Int32} {off : Int} {tgt : Nat} (d : decode cc pc = .ok (.tableswitch dflt lo hi offs, len)) (h1 : ¬ x.toInt < lo) (h2 : ¬ hi < x.toInt) (ho : offs[(x.toInt - lo).toNat]? = some off) (ht : (pc : Int) + off = (tgt : Int)) (h : px_W l G y cc nL ret Rm Fn (tgt) ls (st) k n μ) : px_W l G y cc nL ret Rm Fn (pc) ls (.int x :: st) k n μ := fun p e s m args below meth c H locs la X hl hF => lv_tableIn X.1 X.2.1 d h1 h2 ho ht (h p e s m args below meth c H locs la X hl hF)
theorem px_lookup {dflt : Int} {ps : Array (Int × Int)} {len : Nat} {x : Int32} {off : Int} {tgt : Nat} (d : decode cc pc = .ok (.lookupswitch dflt ps, len)) (hp : (ps.toList.zip (ps.toList.drop 1)).all (fun (a, next) => a.1 < next.1) = true) (ho : Op.lookupswitch.offset ps.toList dflt x.toInt = off) (ht : (pc : Int) + off = (tgt : Int)) (h : px_W l G y cc nL ret Rm Fn (tgt) ls (st) k n μ) : px_W l G y cc nL ret Rm Fn (pc) ls (.int x :: st) k n μ := fun p e s m args below meth c H locs la X hl hF => lv_lookup X.1 X.2.1 d hp ho ht (h p e s m args below meth c H locs la X hl hF)
theorem px_iload_0 {r : List (Option Value)} {x : Int32} (d : decode cc pc = .ok (.iload_n 0, 1)) (h : px_W l G y cc nL ret Rm Fn (pc + 1) (some (.int x) :: r) (.int x :: st) k n μ) : px_W l G y cc nL ret Rm Fn (pc) (some (.int x) :: r) (st) k n μ := fun p e s m args below meth c H locs la X hl hF => lv_iload_n X.1 X.2.1 d rfl (hl.at rfl) (h p e s m args below meth c H locs la X hl hF)
theorem px_aload_0 {r : List (Option Value)} {x : Nat} (d : decode cc pc = .ok (.aload_n 0, 1)) (h : px_W l G y cc nL ret Rm Fn (pc + 1) (some (.ref x) :: r) (.ref x :: st) k n μ) : px_W l G y cc nL ret Rm Fn (pc) (some (.ref x) :: r) (st) k n μ := fun p e s m args below meth c H locs la X hl hF => lv_aload_n X.1 X.2.1 d rfl (hl.at rfl) (h p e s m args below meth c H locs la X hl hF)
theorem px_lload_0 {r : List (Option Value)} {x : Int64} (d : decode cc pc = .ok (.lload_n 0, 1)) (h : px_W l G y cc nL ret Rm Fn (pc + 1) (some (.long x) :: r) (.long x :: st) k n μ) : px_W l G y cc nL ret Rm Fn (pc) (some (.long x) :: r) (st) k n μ := fun p e s m args below meth c H locs la X hl hF => lv_lload_n X.1 X.2.1 d rfl (hl.at rfl) (h p e s m args below meth c H locs la X hl hF)
theorem px_istore_0 {r : List (Option Value)} {o : Option Value} {x : Int32} (d : decode cc pc = .ok (.istore_n 0, 1)) (h : px_W l G y cc nL ret Rm Fn (pc + 1) (some (.int x) :: r) (st) k n μ) : px_W l G y cc nL ret Rm Fn (pc) (o :: r) (.int x :: st) k n μ := by
  intro p e s m args below meth c H locs la X hl hF
  refine lv_istore_n X.1 X.2.1 d rfl hl.1 (by have := hl.2; simp only [List.length_cons] at this; omega) rfl (fun la' h' => h p e s m args below meth c H locs la' X ?_ hF)
  exact hl.set (i := 0) (fun j w e _ => by omega) h'
theorem px_astore_0 {r : List (Option Value)} {o : Option Value} {x : Nat} (d : decode cc pc = .ok (.astore_n 0, 1)) (h : px_W l G y cc nL ret Rm Fn (pc + 1) (some (.ref x) :: r) (st) k n μ) : px_W l G y cc nL ret Rm Fn (pc) (o :: r) (.ref x :: st) k n μ := by
  intro p e s m args below meth c H locs la X hl hF
  refine lv_astore_n X.1 X.2.1 d rfl hl.1 (by have := hl.2; simp only [List.length_cons] at this; omega) rfl (fun la' h' => h p e s m args below meth c H locs la' X ?_ hF)
  exact hl.set (i := 0) (fun j w e _ => by omega) h'
theorem px_lstore_0 {r : List (Option Value)} {o o2 : Option Value} {x : Int64} (d : decode cc pc = .ok (.lstore_n 0, 1)) (h : px_W l G y cc nL ret Rm Fn (pc + 1) (some (.long x) :: none :: r) (st) k n μ) : px_W l G y cc nL ret Rm Fn (pc) (o :: o2 :: r) (.long x :: st) k n μ := by
  intro p e s m args below meth c H locs la X hl hF
  refine lv_lstore_n X.1 X.2.1 d rfl hl.1 (by have := hl.2; simp only [List.length_cons] at this; omega) rfl (fun la' h' => h p e s m args below meth c H locs la' X ?_ hF)
  exact hl.set2 (i := 0) (fun j w e _ => by omega) h'
theorem px_iinc_0 {r : List (Option Value)} {x : Int32} {z : Int} (d : decode cc pc = .ok (.iinc 0 z, 3)) (h : px_W l G y cc nL ret Rm Fn (pc + 3) (some (.int (x + Int32.ofInt z)) :: r) (st) k n μ) : px_W l G y cc nL ret Rm Fn (pc) (some (.int x) :: r) (st) k n μ := by
  intro p e s m args below meth c H locs la X hl hF
  obtain ⟨q, hq⟩ := List.getElem?_of_mem ((px_lv_mem (some (.int x) :: r) 0 0 (.int x)).mpr ⟨0, by omega, rfl⟩)
  refine lv_iinc X.1 X.2.1 d hl.1 hq rfl (by have := hl.2; simp only [List.length_cons] at this; omega) rfl (fun la' h' => h p e s m args below meth c H locs la' X ?_ hF)
  exact hl.set (i := 0) (fun j w e _ => by omega) h'
theorem px_iload_1 {a0 : Option Value} {r : List (Option Value)} {x : Int32} (d : decode cc pc = .ok (.iload_n 1, 1)) (h : px_W l G y cc nL ret Rm Fn (pc + 1) (a0 :: some (.int x) :: r) (.int x :: st) k n μ) : px_W l G y cc nL ret Rm Fn (pc) (a0 :: some (.int x) :: r) (st) k n μ := fun p e s m args below meth c H locs la X hl hF => lv_iload_n X.1 X.2.1 d rfl (hl.at rfl) (h p e s m args below meth c H locs la X hl hF)
theorem px_aload_1 {a0 : Option Value} {r : List (Option Value)} {x : Nat} (d : decode cc pc = .ok (.aload_n 1, 1)) (h : px_W l G y cc nL ret Rm Fn (pc + 1) (a0 :: some (.ref x) :: r) (.ref x :: st) k n μ) : px_W l G y cc nL ret Rm Fn (pc) (a0 :: some (.ref x) :: r) (st) k n μ := fun p e s m args below meth c H locs la X hl hF => lv_aload_n X.1 X.2.1 d rfl (hl.at rfl) (h p e s m args below meth c H locs la X hl hF)
theorem px_lload_1 {a0 : Option Value} {r : List (Option Value)} {x : Int64} (d : decode cc pc = .ok (.lload_n 1, 1)) (h : px_W l G y cc nL ret Rm Fn (pc + 1) (a0 :: some (.long x) :: r) (.long x :: st) k n μ) : px_W l G y cc nL ret Rm Fn (pc) (a0 :: some (.long x) :: r) (st) k n μ := fun p e s m args below meth c H locs la X hl hF => lv_lload_n X.1 X.2.1 d rfl (hl.at rfl) (h p e s m args below meth c H locs la X hl hF)
theorem px_istore_1 {a0 : Option Value} {r : List (Option Value)} {o : Option Value} {x : Int32} (d : decode cc pc = .ok (.istore_n 1, 1)) (hp : px_nl a0 = true) (h : px_W l G y cc nL ret Rm Fn (pc + 1) (a0 :: some (.int x) :: r) (st) k n μ) : px_W l G y cc nL ret Rm Fn (pc) (a0 :: o :: r) (.int x :: st) k n μ := by
  intro p e s m args below meth c H locs la X hl hF
  refine lv_istore_n X.1 X.2.1 d rfl hl.1 (by have := hl.2; simp only [List.length_cons] at this; omega) rfl (fun la' h' => h p e s m args below meth c H locs la' X ?_ hF)
  exact hl.set (i := 1) (fun j w e q => by obtain rfl : j = 0 := (by omega); exact px_nl2 hp (Option.some.inj q)) h'
theorem px_astore_1 {a0 : Option Value} {r : List (Option Value)} {o : Option Value} {x : Nat} (d : decode cc pc = .ok (.astore_n 1, 1)) (hp : px_nl a0 = true) (h : px_W l G y cc nL ret Rm Fn (pc + 1) (a0 :: some (.ref x) :: r) (st) k n μ) : px_W l G y cc nL ret Rm Fn (pc) (a0 :: o :: r) (.ref x :: st) k n μ := by
  intro p e s m args below meth c H locs la X hl hF
  refine lv_astore_n X.1 X.2.1 d rfl hl.1 (by have := hl.2; simp only [List.length_cons] at this; omega) rfl (fun la' h' => h p e s m args below meth c H locs la' X ?_ hF)
  exact hl.set (i := 1) (fun j w e q => by obtain rfl : j = 0 := (by omega); exact px_nl2 hp (Option.some.inj q)) h'
theorem px_lstore_1 {a0 : Option Value} {r : List (Option Value)} {o o2 : Option Value} {x : Int64} (d : decode cc pc = .ok (.lstore_n 1, 1)) (hp : px_nl a0 = true) (h : px_W l G y cc nL ret Rm Fn (pc + 1) (a0 :: some (.long x) :: none :: r) (st) k n μ) : px_W l G y cc nL ret Rm Fn (pc) (a0 :: o :: o2 :: r) (.long x :: st) k n μ := by
  intro p e s m args below meth c H locs la X hl hF
  refine lv_lstore_n X.1 X.2.1 d rfl hl.1 (by have := hl.2; simp only [List.length_cons] at this; omega) rfl (fun la' h' => h p e s m args below meth c H locs la' X ?_ hF)
  exact hl.set2 (i := 1) (fun j w e q => by obtain rfl : j = 0 := (by omega); exact px_nl2 hp (Option.some.inj q)) h'
theorem px_iinc_1 {a0 : Option Value} {r : List (Option Value)} {x : Int32} {z : Int} (d : decode cc pc = .ok (.iinc 1 z, 3)) (hp : px_nl a0 = true) (h : px_W l G y cc nL ret Rm Fn (pc + 3) (a0 :: some (.int (x + Int32.ofInt z)) :: r) (st) k n μ) : px_W l G y cc nL ret Rm Fn (pc) (a0 :: some (.int x) :: r) (st) k n μ := by
  intro p e s m args below meth c H locs la X hl hF
  obtain ⟨q, hq⟩ := List.getElem?_of_mem ((px_lv_mem (a0 :: some (.int x) :: r) 0 1 (.int x)).mpr ⟨1, by omega, rfl⟩)
  refine lv_iinc X.1 X.2.1 d hl.1 hq rfl (by have := hl.2; simp only [List.length_cons] at this; omega) rfl (fun la' h' => h p e s m args below meth c H locs la' X ?_ hF)
  exact hl.set (i := 1) (fun j w e q => by obtain rfl : j = 0 := (by omega); exact px_nl2 hp (Option.some.inj q)) h'
theorem px_iload_2 {a0 a1 : Option Value} {r : List (Option Value)} {x : Int32} (d : decode cc pc = .ok (.iload_n 2, 1)) (h : px_W l G y cc nL ret Rm Fn (pc + 1) (a0 :: a1 :: some (.int x) :: r) (.int x :: st) k n μ) : px_W l G y cc nL ret Rm Fn (pc) (a0 :: a1 :: some (.int x) :: r) (st) k n μ := fun p e s m args below meth c H locs la X hl hF => lv_iload_n X.1 X.2.1 d rfl (hl.at rfl) (h p e s m args below meth c H locs la X hl hF)
theorem px_aload_2 {a0 a1 : Option Value} {r : List (Option Value)} {x : Nat} (d : decode cc pc = .ok (.aload_n 2, 1)) (h : px_W l G y cc nL ret Rm Fn (pc + 1) (a0 :: a1 :: some (.ref x) :: r) (.ref x :: st) k n μ) : px_W l G y cc nL ret Rm Fn (pc) (a0 :: a1 :: some (.ref x) :: r) (st) k n μ := fun p e s m args below meth c H locs la X hl hF => lv_aload_n X.1 X.2.1 d rfl (hl.at rfl) (h p e s m args below meth c H locs la X hl hF)
theorem px_lload_2 {a0 a1 : Option Value} {r : List (Option Value)} {x : Int64} (d : decode cc pc = .ok (.lload_n 2, 1)) (h : px_W l G y cc nL ret Rm Fn (pc + 1) (a0 :: a1 :: some (.long x) :: r) (.long x :: st) k n μ) : px_W l G y cc nL ret Rm Fn (pc) (a0 :: a1 :: some (.long x) :: r) (st) k n μ := fun p e s m args below meth c H locs la X hl hF => lv_lload_n X.1 X.2.1 d rfl (hl.at rfl) (h p e s m args below meth c H locs la X hl hF)
theorem px_istore_2 {a0 a1 : Option Value} {r : List (Option Value)} {o : Option Value} {x : Int32} (d : decode cc pc = .ok (.istore_n 2, 1)) (hp : px_nl a1 = true) (h : px_W l G y cc nL ret Rm Fn (pc + 1) (a0 :: a1 :: some (.int x) :: r) (st) k n μ) : px_W l G y cc nL ret Rm Fn (pc) (a0 :: a1 :: o :: r) (.int x :: st) k n μ := by
  intro p e s m args below meth c H locs la X hl hF
  refine lv_istore_n X.1 X.2.1 d rfl hl.1 (by have := hl.2; simp only [List.length_cons] at this; omega) rfl (fun la' h' => h p e s m args below meth c H locs la' X ?_ hF)
  exact hl.set (i := 2) (fun j w e q => by obtain rfl : j = 1 := (by omega); exact px_nl2 hp (Option.some.inj q)) h'
theorem px_astore_2 {a0 a1 : Option Value} {r : List (Option Value)} {o : Option Value} {x : Nat} (d : decode cc pc = .ok (.astore_n 2, 1)) (hp : px_nl a1 = true) (h : px_W l G y cc nL ret Rm Fn (pc + 1) (a0 :: a1 :: some (.ref x) :: r) (st) k n μ) : px_W l G y cc nL ret Rm Fn (pc) (a0 :: a1 :: o :: r) (.ref x :: st) k n μ := by
  intro p e s m args below meth c H locs la X hl hF
  refine lv_astore_n X.1 X.2.1 d rfl hl.1 (by have := hl.2; simp only [List.length_cons] at this; omega) rfl (fun la' h' => h p e s m args below meth c H locs la' X ?_ hF)
  exact hl.set (i := 2) (fun j w e q => by obtain rfl : j = 1 := (by omega); exact px_nl2 hp (Option.some.inj q)) h'
theorem px_lstore_2 {a0 a1 : Option Value} {r : List (Option Value)} {o o2 : Option Value} {x : Int64} (d : decode cc pc = .ok (.lstore_n 2, 1)) (hp : px_nl a1 = true) (h : px_W l G y cc nL ret Rm Fn (pc + 1) (a0 :: a1 :: some (.long x) :: none :: r) (st) k n μ) : px_W l G y cc nL ret Rm Fn (pc) (a0 :: a1 :: o :: o2 :: r) (.long x :: st) k n μ := by
  intro p e s m args below meth c H locs la X hl hF
  refine lv_lstore_n X.1 X.2.1 d rfl hl.1 (by have := hl.2; simp only [List.length_cons] at this; omega) rfl (fun la' h' => h p e s m args below meth c H locs la' X ?_ hF)
  exact hl.set2 (i := 2) (fun j w e q => by obtain rfl : j = 1 := (by omega); exact px_nl2 hp (Option.some.inj q)) h'
theorem px_iinc_2 {a0 a1 : Option Value} {r : List (Option Value)} {x : Int32} {z : Int} (d : decode cc pc = .ok (.iinc 2 z, 3)) (hp : px_nl a1 = true) (h : px_W l G y cc nL ret Rm Fn (pc + 3) (a0 :: a1 :: some (.int (x + Int32.ofInt z)) :: r) (st) k n μ) : px_W l G y cc nL ret Rm Fn (pc) (a0 :: a1 :: some (.int x) :: r) (st) k n μ := by
  intro p e s m args below meth c H locs la X hl hF
  obtain ⟨q, hq⟩ := List.getElem?_of_mem ((px_lv_mem (a0 :: a1 :: some (.int x) :: r) 0 2 (.int x)).mpr ⟨2, by omega, rfl⟩)
  refine lv_iinc X.1 X.2.1 d hl.1 hq rfl (by have := hl.2; simp only [List.length_cons] at this; omega) rfl (fun la' h' => h p e s m args below meth c H locs la' X ?_ hF)
  exact hl.set (i := 2) (fun j w e q => by obtain rfl : j = 1 := (by omega); exact px_nl2 hp (Option.some.inj q)) h'
theorem px_iload_3 {a0 a1 a2 : Option Value} {r : List (Option Value)} {x : Int32} (d : decode cc pc = .ok (.iload_n 3, 1)) (h : px_W l G y cc nL ret Rm Fn (pc + 1) (a0 :: a1 :: a2 :: some (.int x) :: r) (.int x :: st) k n μ) : px_W l G y cc nL ret Rm Fn (pc) (a0 :: a1 :: a2 :: some (.int x) :: r) (st) k n μ := fun p e s m args below meth c H locs la X hl hF => lv_iload_n X.1 X.2.1 d rfl (hl.at rfl) (h p e s m args below meth c H locs la X hl hF)
theorem px_aload_3 {a0 a1 a2 : Option Value} {r : List (Option Value)} {x : Nat} (d : decode cc pc = .ok (.aload_n 3, 1)) (h : px_W l G y cc nL ret Rm Fn (pc + 1) (a0 :: a1 :: a2 :: some (.ref x) :: r) (.ref x :: st) k n μ) : px_W l G y cc nL ret Rm Fn (pc) (a0 :: a1 :: a2 :: some (.ref x) :: r) (st) k n μ := fun p e s m args below meth c H locs la X hl hF => lv_aload_n X.1 X.2.1 d rfl (hl.at rfl) (h p e s m args below meth c H locs la X hl hF)
theorem px_lload_3 {a0 a1 a2 : Option Value} {r : List (Option Value)} {x : Int64} (d : decode cc pc = .ok (.lload_n 3, 1)) (h : px_W l G y cc nL ret Rm Fn (pc + 1) (a0 :: a1 :: a2 :: some (.long x) :: r) (.long x :: st) k n μ) : px_W l G y cc nL ret Rm Fn (pc) (a0 :: a1 :: a2 :: some (.long x) :: r) (st) k n μ := fun p e s m args below meth c H locs la X hl hF => lv_lload_n X.1 X.2.1 d rfl (hl.at rfl) (h p e s m args below meth c H locs la X hl hF)
theorem px_istore_3 {a0 a1 a2 : Option Value} {r : List (Option Value)} {o : Option Value} {x : Int32} (d : decode cc pc = .ok (.istore_n 3, 1)) (hp : px_nl a2 = true) (h : px_W l G y cc nL ret Rm Fn (pc + 1) (a0 :: a1 :: a2 :: some (.int x) :: r) (st) k n μ) : px_W l G y cc nL ret Rm Fn (pc) (a0 :: a1 :: a2 :: o :: r) (.int x :: st) k n μ := by
  intro p e s m args below meth c H locs la X hl hF
  refine lv_istore_n X.1 X.2.1 d rfl hl.1 (by have := hl.2; simp only [List.length_cons] at this; omega) rfl (fun la' h' => h p e s m args below meth c H locs la' X ?_ hF)
  exact hl.set (i := 3) (fun j w e q => by obtain rfl : j = 2 := (by omega); exact px_nl2 hp (Option.some.inj q)) h'
theorem px_astore_3 {a0 a1 a2 : Option Value} {r : List (Option Value)} {o : Option Value} {x : Nat} (d : decode cc pc = .ok (.astore_n 3, 1)) (hp : px_nl a2 = true) (h : px_W l G y cc nL ret Rm Fn (pc + 1) (a0 :: a1 :: a2 :: some (.ref x) :: r) (st) k n μ) : px_W l G y cc nL ret Rm Fn (pc) (a0 :: a1 :: a2 :: o :: r) (.ref x :: st) k n μ := by
  intro p e s m args below meth c H locs la X hl hF
  refine lv_astore_n X.1 X.2.1 d rfl hl.1 (by have := hl.2; simp only [List.length_cons] at this; omega) rfl (fun la' h' => h p e s m args below meth c H locs la' X ?_ hF)
  exact hl.set (i := 3) (fun j w e q => by obtain rfl : j = 2 := (by omega); exact px_nl2 hp (Option.some.inj q)) h'
theorem px_lstore_3 {a0 a1 a2 : Option Value} {r : List (Option Value)} {o o2 : Option Value} {x : Int64} (d : decode cc pc = .ok (.lstore_n 3, 1)) (hp : px_nl a2 = true) (h : px_W l G y cc nL ret Rm Fn (pc + 1) (a0 :: a1 :: a2 :: some (.long x) :: none :: r) (st) k n μ) : px_W l G y cc nL ret Rm Fn (pc) (a0 :: a1 :: a2 :: o :: o2 :: r) (.long x :: st) k n μ := by
  intro p e s m args below meth c H locs la X hl hF
  refine lv_lstore_n X.1 X.2.1 d rfl hl.1 (by have := hl.2; simp only [List.length_cons] at this; omega) rfl (fun la' h' => h p e s m args below meth c H locs la' X ?_ hF)
  exact hl.set2 (i := 3) (fun j w e q => by obtain rfl : j = 2 := (by omega); exact px_nl2 hp (Option.some.inj q)) h'
theorem px_iinc_3 {a0 a1 a2 : Option Value} {r : List (Option Value)} {x : Int32} {z : Int} (d : decode cc pc = .ok (.iinc 3 z, 3)) (hp : px_nl a2 = true) (h : px_W l G y cc nL ret Rm Fn (pc + 3) (a0 :: a1 :: a2 :: some (.int (x + Int32.ofInt z)) :: r) (st) k n μ) : px_W l G y cc nL ret Rm Fn (pc) (a0 :: a1 :: a2 :: some (.int x) :: r) (st) k n μ := by
  intro p e s m args below meth c H locs la X hl hF
  obtain ⟨q, hq⟩ := List.getElem?_of_mem ((px_lv_mem (a0 :: a1 :: a2 :: some (.int x) :: r) 0 3 (.int x)).mpr ⟨3, by omega, rfl⟩)
  refine lv_iinc X.1 X.2.1 d hl.1 hq rfl (by have := hl.2; simp only [List.length_cons] at this; omega) rfl (fun la' h' => h p e s m args below meth c H locs la' X ?_ hF)
  exact hl.set (i := 3) (fun j w e q => by obtain rfl : j = 2 := (by omega); exact px_nl2 hp (Option.some.inj q)) h'
theorem px_iload_4 {a0 a1 a2 a3 : Option Value} {r : List (Option Value)} {x : Int32} (d : decode cc pc = .ok (.iload 4, 2)) (h : px_W l G y cc nL ret Rm Fn (pc + 2) (a0 :: a1 :: a2 :: a3 :: some (.int x) :: r) (.int x :: st) k n μ) : px_W l G y cc nL ret Rm Fn (pc) (a0 :: a1 :: a2 :: a3 :: some (.int x) :: r) (st) k n μ := fun p e s m args below meth c H locs la X hl hF => lv_iload X.1 X.2.1 d (hl.at rfl) (h p e s m args below meth c H locs la X hl hF)
theorem px_aload_4 {a0 a1 a2 a3 : Option Value} {r : List (Option Value)} {x : Nat} (d : decode cc pc = .ok (.aload 4, 2)) (h : px_W l G y cc nL ret Rm Fn (pc + 2) (a0 :: a1 :: a2 :: a3 :: some (.ref x) :: r) (.ref x :: st) k n μ) : px_W l G y cc nL ret Rm Fn (pc) (a0 :: a1 :: a2 :: a3 :: some (.ref x) :: r) (st) k n μ := fun p e s m args below meth c H locs la X hl hF => lv_aload X.1 X.2.1 d (hl.at rfl) (h p e s m args below meth c H locs la X hl hF)
theorem px_lload_4 {a0 a1 a2 a3 : Option Value} {r : List (Option Value)} {x : Int64} (d : decode cc pc = .ok (.lload 4, 2)) (h : px_W l G y cc nL ret Rm Fn (pc + 2) (a0 :: a1 :: a2 :: a3 :: some (.long x) :: r) (.long x :: st) k n μ) : px_W l G y cc nL ret Rm Fn (pc) (a0 :: a1 :: a2 :: a3 :: some (.long x) :: r) (st) k n μ := fun p e s m args below meth c H locs la X hl hF => lv_lload X.1 X.2.1 d (hl.at rfl) (h p e s m args below meth c H locs la X hl hF)
theorem px_istore_4 {a0 a1 a2 a3 : Option Value} {r : List (Option Value)} {o : Option Value} {x : Int32} (d : decode cc pc = .ok (.istore 4, 2)) (hp : px_nl a3 = true) (h : px_W l G y cc nL ret Rm Fn (pc + 2) (a0 :: a1 :: a2 :: a3 :: some (.int x) :: r) (st) k n μ) : px_W l G y cc nL ret Rm Fn (pc) (a0 :: a1 :: a2 :: a3 :: o :: r) (.int x :: st) k n μ := by
  intro p e s m args below meth c H locs la X hl hF
  refine lv_istore X.1 X.2.1 d hl.1 (by have := hl.2; simp only [List.length_cons] at this; omega) rfl (fun la' h' => h p e s m args below meth c H locs la' X ?_ hF)
  exact hl.set (i := 4) (fun j w e q => by obtain rfl : j = 3 := (by omega); exact px_nl2 hp (Option.some.inj q)) h'
theorem px_astore_4 {a0 a1 a2 a3 : Option Value} {r : List (Option Value)} {o : Option Value} {x : Nat} (d : decode cc pc = .ok (.astore 4, 2)) (hp : px_nl a3 = true) (h : px_W l G y cc nL ret Rm Fn (pc + 2) (a0 :: a1 :: a2 :: a3 :: some (.ref x) :: r) (st) k n μ) : px_W l G y cc nL ret Rm Fn (pc) (a0 :: a1 :: a2 :: a3 :: o :: r) (.ref x :: st) k n μ := by
  intro p e s m args below meth c H locs la X hl hF
  refine lv_astore X.1 X.2.1 d hl.1 (by have := hl.2; simp only [List.length_cons] at this; omega) rfl (fun la' h' => h p e s m args below meth c H locs la' X ?_ hF)
  exact hl.set (i := 4) (fun j w e q => by obtain rfl : j = 3 := (by omega); exact px_nl2 hp (Option.some.inj q)) h'
theorem px_lstore_4 {a0 a1 a2 a3 : Option Value} {r : List (Option Value)} {o o2 : Option Value} {x : Int64} (d : decode cc pc = .ok (.lstore 4, 2)) (hp : px_nl a3 = true) (h : px_W l G y cc nL ret Rm Fn (pc + 2) (a0 :: a1 :: a2 :: a3 :: some (.long x) :: none :: r) (st) k n μ) : px_W l G y cc nL ret Rm Fn (pc) (a0 :: a1 :: a2 :: a3 :: o :: o2 :: r) (.long x :: st) k n μ := by
  intro p e s m args below meth c H locs la X hl hF
  refine lv_lstore X.1 X.2.1 d hl.1 (by have := hl.2; simp only [List.length_cons] at this; omega) rfl (fun la' h' => h p e s m args below meth c H locs la' X ?_ hF)
  exact hl.set2 (i := 4) (fun j w e q => by obtain rfl : j = 3 := (by omega); exact px_nl2 hp (Option.some.inj q)) h'
theorem px_iinc_4 {a0 a1 a2 a3 : Option Value} {r : List (Option Value)} {x : Int32} {z : Int} (d : decode cc pc = .ok (.iinc 4 z, 3)) (hp : px_nl a3 = true) (h : px_W l G y cc nL ret Rm Fn (pc + 3) (a0 :: a1 :: a2 :: a3 :: some (.int (x + Int32.ofInt z)) :: r) (st) k n μ) : px_W l G y cc nL ret Rm Fn (pc) (a0 :: a1 :: a2 :: a3 :: some (.int x) :: r) (st) k n μ := by
  intro p e s m args below meth c H locs la X hl hF
  obtain ⟨q, hq⟩ := List.getElem?_of_mem ((px_lv_mem (a0 :: a1 :: a2 :: a3 :: some (.int x) :: r) 0 4 (.int x)).mpr ⟨4, by omega, rfl⟩)
  refine lv_iinc X.1 X.2.1 d hl.1 hq rfl (by have := hl.2; simp only [List.length_cons] at this; omega) rfl (fun la' h' => h p e s m args below meth c H locs la' X ?_ hF)
  exact hl.set (i := 4) (fun j w e q => by obtain rfl : j = 3 := (by omega); exact px_nl2 hp (Option.some.inj q)) h'
theorem px_iload_5 {a0 a1 a2 a3 a4 : Option Value} {r : List (Option Value)} {x : Int32} (d : decode cc pc = .ok (.iload 5, 2)) (h : px_W l G y cc nL ret Rm Fn (pc + 2) (a0 :: a1 :: a2 :: a3 :: a4 :: some (.int x) :: r) (.int x :: st) k n μ) : px_W l G y cc nL ret Rm Fn (pc) (a0 :: a1 :: a2 :: a3 :: a4 :: some (.int x) :: r) (st) k n μ := fun p e s m args below meth c H locs la X hl hF => lv_iload X.1 X.2.1 d (hl.at rfl) (h p e s m args below meth c H locs la X hl hF)
theorem px_aload_5 {a0 a1 a2 a3 a4 : Option Value} {r : List (Option Value)} {x : Nat} (d : decode cc pc = .ok (.aload 5, 2)) (h : px_W l G y cc nL ret Rm Fn (pc + 2) (a0 :: a1 :: a2 :: a3 :: a4 :: some (.ref x) :: r) (.ref x :: st) k n μ) : px_W l G y cc nL ret Rm Fn (pc) (a0 :: a1 :: a2 :: a3 :: a4 :: some (.ref x) :: r) (st) k n μ := fun p e s m args below meth c H locs la X hl hF => lv_aload X.1 X.2.1 d (hl.at rfl) (h p e s m args below meth c H locs la X hl hF)
theorem px_lload_5 {a0 a1 a2 a3 a4 : Option Value} {r : List (Option Value)} {x : Int64} (d : decode cc pc = .ok (.lload 5, 2)) (h : px_W l G y cc nL ret Rm Fn (pc + 2) (a0 :: a1 :: a2 :: a3 :: a4 :: some (.long x) :: r) (.long x :: st) k n μ) : px_W l G y cc nL ret Rm Fn (pc) (a0 :: a1 :: a2 :: a3 :: a4 :: some (.long x) :: r) (st) k n μ := fun p e s m args below meth c H locs la X hl hF => lv_lload X.1 X.2.1 d (hl.at rfl) (h p e s m args below meth c H locs la X hl hF)
theorem px_istore_5 {a0 a1 a2 a3 a4 : Option Value} {r : List (Option Value)} {o : Option Value} {x : Int32} (d : decode cc pc = .ok (.istore 5, 2)) (hp : px_nl a4 = true) (h : px_W l G y cc nL ret Rm Fn (pc + 2) (a0 :: a1 :: a2 :: a3 :: a4 :: some (.int x) :: r) (st) k n μ) : px_W l G y cc nL ret Rm Fn (pc) (a0 :: a1 :: a2 :: a3 :: a4 :: o :: r) (.int x :: st) k n μ := by
  intro p e s m args below meth c H locs la X hl hF
  refine lv_istore X.1 X.2.1 d hl.1 (by have := hl.2; simp only [List.length_cons] at this; omega) rfl (fun la' h' => h p e s m args below meth c H locs la' X ?_ hF)
  exact hl.set (i := 5) (fun j w e q => by obtain rfl : j = 4 := (by omega); exact px_nl2 hp (Option.some.inj q)) h'
theorem px_astore_5 {a0 a1 a2 a3 a4 : Option Value} {r : List (Option Value)} {o : Option Value} {x : Nat} (d : decode cc pc = .ok (.astore 5, 2)) (hp : px_nl a4 = true) (h : px_W l G y cc nL ret Rm Fn (pc + 2) (a0 :: a1 :: a2 :: a3 :: a4 :: some (.ref x) :: r) (st) k n μ) : px_W l G y cc nL ret Rm Fn (pc) (a0 :: a1 :: a2 :: a3 :: a4 :: o :: r) (.ref x :: st) k n μ := by
  intro p e s m args below meth c H locs la X hl hF
  refine lv_astore X.1 X.2.1 d hl.1 (by have := hl.2; simp only [List.length_cons] at this; omega) rfl (fun la' h' => h p e s m args below meth c H locs la' X ?_ hF)
  exact hl.set (i := 5) (fun j w e q => by obtain rfl : j = 4 := (by omega); exact px_nl2 hp (Option.some.inj q)) h'
theorem px_lstore_5 {a0 a1 a2 a3 a4 : Option Value} {r : List (Option Value)} {o o2 : Option Value} {x : Int64} (d : decode cc pc = .ok (.lstore 5, 2)) (hp : px_nl a4 = true) (h : px_W l G y cc nL ret Rm Fn (pc + 2) (a0 :: a1 :: a2 :: a3 :: a4 :: some (.long x) :: none :: r) (st) k n μ) : px_W l G y cc nL ret Rm Fn (pc) (a0 :: a1 :: a2 :: a3 :: a4 :: o :: o2 :: r) (.long x :: st) k n μ := by
  intro p e s m args below meth c H locs la X hl hF
  refine lv_lstore X.1 X.2.1 d hl.1 (by have := hl.2; simp only [List.length_cons] at this; omega) rfl (fun la' h' => h p e s m args below meth c H locs la' X ?_ hF)
  exact hl.set2 (i := 5) (fun j w e q => by obtain rfl : j = 4 := (by omega); exact px_nl2 hp (Option.some.inj q)) h'
theorem px_iinc_5 {a0 a1 a2 a3 a4 : Option Value} {r : List (Option Value)} {x : Int32} {z : Int} (d : decode cc pc = .ok (.iinc 5 z, 3)) (hp : px_nl a4 = true) (h : px_W l G y cc nL ret Rm Fn (pc + 3) (a0 :: a1 :: a2 :: a3 :: a4 :: some (.int (x + Int32.ofInt z)) :: r) (st) k n μ) : px_W l G y cc nL ret Rm Fn (pc) (a0 :: a1 :: a2 :: a3 :: a4 :: some (.int x) :: r) (st) k n μ := by
  intro p e s m args below meth c H locs la X hl hF
  obtain ⟨q, hq⟩ := List.getElem?_of_mem ((px_lv_mem (a0 :: a1 :: a2 :: a3 :: a4 :: some (.int x) :: r) 0 5 (.int x)).mpr ⟨5, by omega, rfl⟩)
  refine lv_iinc X.1 X.2.1 d hl.1 hq rfl (by have := hl.2; simp only [List.length_cons] at this; omega) rfl (fun la' h' => h p e s m args below meth c H locs la' X ?_ hF)
  exact hl.set (i := 5) (fun j w e q => by obtain rfl : j = 4 := (by omega); exact px_nl2 hp (Option.some.inj q)) h'
theorem px_iload_6 {a0 a1 a2 a3 a4 a5 : Option Value} {r : List (Option Value)} {x : Int32} (d : decode cc pc = .ok (.iload 6, 2)) (h : px_W l G y cc nL ret Rm Fn (pc + 2) (a0 :: a1 :: a2 :: a3 :: a4 :: a5 :: some (.int x) :: r) (.int x :: st) k n μ) : px_W l G y cc nL ret Rm Fn (pc) (a0 :: a1 :: a2 :: a3 :: a4 :: a5 :: some (.int x) :: r) (st) k n μ := fun p e s m args below meth c H locs la X hl hF => lv_iload X.1 X.2.1 d (hl.at rfl) (h p e s m args below meth c H locs la X hl hF)
theorem px_aload_6 {a0 a1 a2 a3 a4 a5 : Option Value} {r : List (Option Value)} {x : Nat} (d : decode cc pc = .ok (.aload 6, 2)) (h : px_W l G y cc nL ret Rm Fn (pc + 2) (a0 :: a1 :: a2 :: a3 :: a4 :: a5 :: some (.ref x) :: r) (.ref x :: st) k n μ) : px_W l G y cc nL ret Rm Fn (pc) (a0 :: a1 :: a2 :: a3 :: a4 :: a5 :: some (.ref x) :: r) (st) k n μ := fun p e s m args below meth c H locs la X hl hF => lv_aload X.1 X.2.1 d (hl.at rfl) (h p e s m args below meth c H locs la X hl hF)
theorem px_lload_6 {a0 a1 a2 a3 a4 a5 : Option Value} {r : List (Option Value)} {x : Int64} (d : decode cc pc = .ok (.lload 6, 2)) (h : px_W l G y cc nL ret Rm Fn (pc + 2) (a0 :: a1 :: a2 :: a3 :: a4 :: a5 :: some (.long x) :: r) (.long x :: st) k n μ) : px_W l G y cc nL ret Rm Fn (pc) (a0 :: a1 :: a2 :: a3 :: a4 :: a5 :: some (.long x) :: r) (st) k n μ := fun p e s m args below meth c H locs la X hl hF => lv_lload X.1 X.2.1 d (hl.at rfl) (h p e s m args below meth c H locs la X hl hF)
theorem px_istore_6 {a0 a1 a2 a3 a4 a5 : Option Value} {r : List (Option Value)} {o : Option Value} {x : Int32} (d : decode cc pc = .ok (.istore 6, 2)) (hp : px_nl a5 = true) (h : px_W l G y cc nL ret Rm Fn (pc + 2) (a0 :: a1 :: a2 :: a3 :: a4 :: a5 :: some (.int x) :: r) (st) k n μ) : px_W l G y cc nL ret Rm Fn (pc) (a0 :: a1 :: a2 :: a3 :: a4 :: a5 :: o :: r) (.int x :: st) k n μ := by
  intro p e s m args below meth c H locs la X hl hF
  refine lv_istore X.1 X.2.1 d hl.1 (by have := hl.2; simp only [List.length_cons] at this; omega) rfl (fun la' h' => h p e s m args below meth c H locs la' X ?_ hF)
  exact hl.set (i := 6) (fun j w e q => by obtain rfl : j = 5 := (by omega); exact px_nl2 hp (Option.some.inj q)) h'
theorem px_astore_6 {a0 a1 a2 a3 a4 a5 : Option Value} {r : List (Option Value)} {o : Option Value} {x : Nat} (d : decode cc pc = .ok (.astore 6, 2)) (hp : px_nl a5 = true) (h : px_W l G y cc nL ret Rm Fn (pc + 2) (a0 :: a1 :: a2 :: a3 :: a4 :: a5 :: some (.ref x) :: r) (st) k n μ) : px_W l G y cc nL ret Rm Fn (pc) (a0 :: a1 :: a2 :: a3 :: a4 :: a5 :: o :: r) (.ref x :: st) k n μ := by
  intro p e s m args below meth c H locs la X hl hF
  refine lv_astore X.1 X.2.1 d hl.1 (by have := hl.2; simp only [List.length_cons] at this; omega) rfl (fun la' h' => h p e s m args below meth c H locs la' X ?_ hF)
  exact hl.set (i := 6) (fun j w e q => by obtain rfl : j = 5 := (by omega); exact px_nl2 hp (Option.some.inj q)) h'
theorem px_lstore_6 {a0 a1 a2 a3 a4 a5 : Option Value} {r : List (Option Value)} {o o2 : Option Value} {x : Int64} (d : decode cc pc = .ok (.lstore 6, 2)) (hp : px_nl a5 = true) (h : px_W l G y cc nL ret Rm Fn (pc + 2) (a0 :: a1 :: a2 :: a3 :: a4 :: a5 :: some (.long x) :: none :: r) (st) k n μ) : px_W l G y cc nL ret Rm Fn (pc) (a0 :: a1 :: a2 :: a3 :: a4 :: a5 :: o :: o2 :: r) (.long x :: st) k n μ := by
  intro p e s m args below meth c H locs la X hl hF
  refine lv_lstore X.1 X.2.1 d hl.1 (by have := hl.2; simp only [List.length_cons] at this; omega) rfl (fun la' h' => h p e s m args below meth c H locs la' X ?_ hF)
  exact hl.set2 (i := 6) (fun j w e q => by obtain rfl : j = 5 := (by omega); exact px_nl2 hp (Option.some.inj q)) h'
theorem px_iinc_6 {a0 a1 a2 a3 a4 a5 : Option Value} {r : List (Option Value)} {x : Int32} {z : Int} (d : decode cc pc = .ok (.iinc 6 z, 3)) (hp : px_nl a5 = true) (h : px_W l G y cc nL ret Rm Fn (pc + 3) (a0 :: a1 :: a2 :: a3 :: a4 :: a5 :: some (.int (x + Int32.ofInt z)) :: r) (st) k n μ) : px_W l G y cc nL ret Rm Fn (pc) (a0 :: a1 :: a2 :: a3 :: a4 :: a5 :: some (.int x) :: r) (st) k n μ := by
  intro p e s m args below meth c H locs la X hl hF
  obtain ⟨q, hq⟩ := List.getElem?_of_mem ((px_lv_mem (a0 :: a1 :: a2 :: a3 :: a4 :: a5 :: some (.int x) :: r) 0 6 (.int x)).mpr ⟨6, by omega, rfl⟩)
  refine lv_iinc X.1 X.2.1 d hl.1 hq rfl (by have := hl.2; simp only [List.length_cons] at this; omega) rfl (fun la' h' => h p e s m args below meth c H locs la' X ?_ hF)
  exact hl.set (i := 6) (fun j w e q => by obtain rfl : j = 5 := (by omega); exact px_nl2 hp (Option.some.inj q)) h'
theorem px_iload_7 {a0 a1 a2 a3 a4 a5 a6 : Option Value} {r : List (Option Value)} {x : Int32} (d : decode cc pc = .ok (.iload 7, 2)) (h : px_W l G y cc nL ret Rm Fn (pc + 2) (a0 :: a1 :: a2 :: a3 :: a4 :: a5 :: a6 :: some (.int x) :: r) (.int x :: st) k n μ) : px_W l G y cc nL ret Rm Fn (pc) (a0 :: a1 :: a2 :: a3 :: a4 :: a5 :: a6 :: some (.int x) :: r) (st) k n μ := fun p e s m args below meth c H locs la X hl hF => lv_iload X.1 X.2.1 d (hl.at rfl) (h p e s m args below meth c H locs la X hl hF)
theorem px_aload_7 {a0 a1 a2 a3 a4 a5 a6 : Option Value} {r : List (Option Value)} {x : Nat} (d : decode cc pc = .ok (.aload 7, 2)) (h : px_W l G y cc nL ret Rm Fn (pc + 2) (a0 :: a1 :: a2 :: a3 :: a4 :: a5 :: a6 :: some (.ref x) :: r) (.ref x :: st) k n μ) : px_W l G y cc nL ret Rm Fn (pc) (a0 :: a1 :: a2 :: a3 :: a4 :: a5 :: a6 :: some (.ref x) :: r) (st) k n μ := fun p e s m args below meth c H locs la X hl hF => lv_aload X.1 X.2.1 d (hl.at rfl) (h p e s m args below meth c H locs la X hl hF)
theorem px_lload_7 {a0 a1 a2 a3 a4 a5 a6 : Option Value} {r : List (Option Value)} {x : Int64} (d : decode cc pc = .ok (.lload 7, 2)) (h : px_W l G y cc nL ret Rm Fn (pc + 2) (a0 :: a1 :: a2 :: a3 :: a4 :: a5 :: a6 :: some (.long x) :: r) (.long x :: st) k n μ) : px_W l G y cc nL ret Rm Fn (pc) (a0 :: a1 :: a2 :: a3 :: a4 :: a5 :: a6 :: some (.long x) :: r) (st) k n μ := fun p e s m args below meth c H locs la X hl hF => lv_lload X.1 X.2.1 d (hl.at rfl) (h p e s m args below meth c H locs la X hl hF)
theorem px_istore_7 {a0 a1 a2 a3 a4 a5 a6 : Option Value} {r : List (Option Value)} {o : Option Value} {x : Int32} (d : decode cc pc = .ok (.istore 7, 2)) (hp : px_nl a6 = true) (h : px_W l G y cc nL ret Rm Fn (pc + 2) (a0 :: a1 :: a2 :: a3 :: a4 :: a5 :: a6 :: some (.int x) :: r) (st) k n μ) : px_W l G y cc nL ret Rm Fn (pc) (a0 :: a1 :: a2 :: a3 :: a4 :: a5 :: a6 :: o :: r) (.int x :: st) k n μ := by
  intro p e s m args below meth c H locs la X hl hF
  refine lv_istore X.1 X.2.1 d hl.1 (by have := hl.2; simp only [List.length_cons] at this; omega) rfl (fun la' h' => h p e s m args below meth c H locs la' X ?_ hF)
  exact hl.set (i := 7) (fun j w e q => by obtain rfl : j = 6 := (by omega); exact px_nl2 hp (Option.some.inj q)) h'
theorem px_astore_7 {a0 a1 a2 a3 a4 a5 a6 : Option Value} {r : List (Option Value)} {o : Option Value} {x : Nat} (d : decode cc pc = .ok (.astore 7, 2)) (hp : px_nl a6 = true) (h : px_W l G y cc nL ret Rm Fn (pc + 2) (a0 :: a1 :: a2 :: a3 :: a4 :: a5 :: a6 :: some (.ref x) :: r) (st) k n μ) : px_W l G y cc nL ret Rm Fn (pc) (a0 :: a1 :: a2 :: a3 :: a4 :: a5 :: a6 :: o :: r) (.ref x :: st) k n μ := by
  intro p e s m args below meth c H locs la X hl hF
  refine lv_astore X.1 X.2.1 d hl.1 (by have := hl.2; simp only [List.length_cons] at this; omega) rfl (fun la' h' => h p e s m args below meth c H locs la' X ?_ hF)
  exact hl.set (i := 7) (fun j w e q => by obtain rfl : j = 6 := (by omega); exact px_nl2 hp (Option.some.inj q)) h'
theorem px_lstore_7 {a0 a1 a2 a3 a4 a5 a6 : Option Value} {r : List (Option Value)} {o o2 : Option Value} {x : Int64} (d : decode cc pc = .ok (.lstore 7, 2)) (hp : px_nl a6 = true) (h : px_W l G y cc nL ret Rm Fn (pc + 2) (a0 :: a1 :: a2 :: a3 :: a4 :: a5 :: a6 :: some (.long x) :: none :: r) (st) k n μ) : px_W l G y cc nL ret Rm Fn (pc) (a0 :: a1 :: a2 :: a3 :: a4 :: a5 :: a6 :: o :: o2 :: r) (.long x :: st) k n μ := by
  intro p e s m args below meth c H locs la X hl hF
  refine lv_lstore X.1 X.2.1 d hl.1 (by have := hl.2; simp only [List.length_cons] at this; omega) rfl (fun la' h' => h p e s m args below meth c H locs la' X ?_ hF)
  exact hl.set2 (i := 7) (fun j w e q => by obtain rfl : j = 6 := (by omega); exact px_nl2 hp (Option.some.inj q)) h'
theorem px_iinc_7 {a0 a1 a2 a3 a4 a5 a6 : Option Value} {r : List (Option Value)} {x : Int32} {z : Int} (d : decode cc pc = .ok (.iinc 7 z, 3)) (hp : px_nl a6 = true) (h : px_W l G y cc nL ret Rm Fn (pc + 3) (a0 :: a1 :: a2 :: a3 :: a4 :: a5 :: a6 :: some (.int (x + Int32.ofInt z)) :: r) (st) k n μ) : px_W l G y cc nL ret Rm Fn (pc) (a0 :: a1 :: a2 :: a3 :: a4 :: a5 :: a6 :: some (.int x) :: r) (st) k n μ := by
  intro p e s m args below meth c H locs la X hl hF
  obtain ⟨q, hq⟩ := List.getElem?_of_mem ((px_lv_mem (a0 :: a1 :: a2 :: a3 :: a4 :: a5 :: a6 :: some (.int x) :: r) 0 7 (.int x)).mpr ⟨7, by omega, rfl⟩)
  refine lv_iinc X.1 X.2.1 d hl.1 hq rfl (by have := hl.2; simp only [List.length_cons] at this; omega) rfl (fun la' h' => h p e s m args below meth c H locs la' X ?_ hF)
  exact hl.set (i := 7) (fun j w e q => by obtain rfl : j = 6 := (by omega); exact px_nl2 hp (Option.some.inj q)) h'
theorem px_iload_8 {a0 a1 a2 a3 a4 a5 a6 a7 : Option Value} {r : List (Option Value)} {x : Int32} (d : decode cc pc = .ok (.iload 8, 2)) (h : px_W l G y cc nL ret Rm Fn (pc + 2) (a0 :: a1 :: a2 :: a3 :: a4 :: a5 :: a6 :: a7 :: some (.int x) :: r) (.int x :: st) k n μ) : px_W l G y cc nL ret Rm Fn (pc) (a0 :: a1 :: a2 :: a3 :: a4 :: a5 :: a6 :: a7 :: some (.int x) :: r) (st) k n μ := fun p e s m args below meth c H locs la X hl hF => lv_iload X.1 X.2.1 d (hl.at rfl) (h p e s m args below meth c H locs la X hl hF)
theorem px_aload_8 {a0 a1 a2 a3 a4 a5 a6 a7 : Option Value} {r : List (Option Value)} {x : Nat} (d : decode cc pc = .ok (.aload 8, 2)) (h : px_W l G y cc nL ret Rm Fn (pc + 2) (a0 :: a1 :: a2 :: a3 :: a4 :: a5 :: a6 :: a7 :: some (.ref x) :: r) (.ref x :: st) k n μ) : px_W l G y cc nL ret Rm Fn (pc) (a0 :: a1 :: a2 :: a3 :: a4 :: a5 :: a6 :: a7 :: some (.ref x) :: r) (st) k n μ := fun p e s m args below meth c H locs la X hl hF => lv_aload X.1 X.2.1 d (hl.at rfl) (h p e s m args below meth c H locs la X hl hF)
theorem px_lload_8 {a0 a1 a2 a3 a4 a5 a6 a7 : Option Value} {r : List (Option Value)} {x : Int64} (d : decode cc pc = .ok (.lload 8, 2)) (h : px_W l G y cc nL ret Rm Fn (pc + 2) (a0 :: a1 :: a2 :: a3 :: a4 :: a5 :: a6 :: a7 :: some (.long x) :: r) (.long x :: st) k n μ) : px_W l G y cc nL ret Rm Fn (pc) (a0 :: a1 :: a2 :: a3 :: a4 :: a5 :: a6 :: a7 :: some (.long x) :: r) (st) k n μ := fun p e s m args below meth c H locs la X hl hF => lv_lload X.1 X.2.1 d (hl.at rfl) (h p e s m args below meth c H locs la X hl hF)
theorem px_istore_8 {a0 a1 a2 a3 a4 a5 a6 a7 : Option Value} {r : List (Option Value)} {o : Option Value} {x : Int32} (d : decode cc pc = .ok (.istore 8, 2)) (hp : px_nl a7 = true) (h : px_W l G y cc nL ret Rm Fn (pc + 2) (a0 :: a1 :: a2 :: a3 :: a4 :: a5 :: a6 :: a7 :: some (.int x) :: r) (st) k n μ) : px_W l G y cc nL ret Rm Fn (pc) (a0 :: a1 :: a2 :: a3 :: a4 :: a5 :: a6 :: a7 :: o :: r) (.int x :: st) k n μ := by
  intro p e s m args below meth c H locs la X hl hF
  refine lv_istore X.1 X.2.1 d hl.1 (by have := hl.2; simp only [List.length_cons] at this; omega) rfl (fun la' h' => h p e s m args below meth c H locs la' X ?_ hF)
  exact hl.set (i := 8) (fun j w e q => by obtain rfl : j = 7 := (by omega); exact px_nl2 hp (Option.some.inj q)) h'
theorem px_astore_8 {a0 a1 a2 a3 a4 a5 a6 a7 : Option Value} {r : List (Option Value)} {o : Option Value} {x : Nat} (d : decode cc pc = .ok (.astore 8, 2)) (hp : px_nl a7 = true) (h : px_W l G y cc nL ret Rm Fn (pc + 2) (a0 :: a1 :: a2 :: a3 :: a4 :: a5 :: a6 :: a7 :: some (.ref x) :: r) (st) k n μ) : px_W l G y cc nL ret Rm Fn (pc) (a0 :: a1 :: a2 :: a3 :: a4 :: a5 :: a6 :: a7 :: o :: r) (.ref x :: st) k n μ := by
  intro p e s m args below meth c H locs la X hl hF
  refine lv_astore X.1 X.2.1 d hl.1 (by have := hl.2; simp only [List.length_cons] at this; omega) rfl (fun la' h' => h p e s m args below meth c H locs la' X ?_ hF)
  exact hl.set (i := 8) (fun j w e q => by obtain rfl : j = 7 := (by omega); exact px_nl2 hp (Option.some.inj q)) h'
theorem px_lstore_8 {a0 a1 a2 a3 a4 a5 a6 a7 : Option Value} {r : List (Option Value)} {o o2 : Option Value} {x : Int64} (d : decode cc pc = .ok (.lstore 8, 2)) (hp : px_nl a7 = true) (h : px_W l G y cc nL ret Rm Fn (pc + 2) (a0 :: a1 :: a2 :: a3 :: a4 :: a5 :: a6 :: a7 :: some (.long x) :: none :: r) (st) k n μ) : px_W l G y cc nL ret Rm Fn (pc) (a0 :: a1 :: a2 :: a3 :: a4 :: a5 :: a6 :: a7 :: o :: o2 :: r) (.long x :: st) k n μ := by
  intro p e s m args below meth c H locs la X hl hF
  refine lv_lstore X.1 X.2.1 d hl.1 (by have := hl.2; simp only [List.length_cons] at this; omega) rfl (fun la' h' => h p e s m args below meth c H locs la' X ?_ hF)
  exact hl.set2 (i := 8) (fun j w e q => by obtain rfl : j = 7 := (by omega); exact px_nl2 hp (Option.some.inj q)) h'
theorem px_iinc_8 {a0 a1 a2 a3 a4 a5 a6 a7 : Option Value} {r : List (Option Value)} {x : Int32} {z : Int} (d : decode cc pc = .ok (.iinc 8 z, 3)) (hp : px_nl a7 = true) (h : px_W l G y cc nL ret Rm Fn (pc + 3) (a0 :: a1 :: a2 :: a3 :: a4 :: a5 :: a6 :: a7 :: some (.int (x + Int32.ofInt z)) :: r) (st) k n μ) : px_W l G y cc nL ret Rm Fn (pc) (a0 :: a1 :: a2 :: a3 :: a4 :: a5 :: a6 :: a7 :: some (.int x) :: r) (st) k n μ := by
  intro p e s m args below meth c H locs la X hl hF
  obtain ⟨q, hq⟩ := List.getElem?_of_mem ((px_lv_mem (a0 :: a1 :: a2 :: a3 :: a4 :: a5 :: a6 :: a7 :: some (.int x) :: r) 0 8 (.int x)).mpr ⟨8, by omega, rfl⟩)
  refine lv_iinc X.1 X.2.1 d hl.1 hq rfl (by have := hl.2; simp only [List.length_cons] at this; omega) rfl (fun la' h' => h p e s m args below meth c H locs la' X ?_ hF)
  exact hl.set (i := 8) (fun j w e q => by obtain rfl : j = 7 := (by omega); exact px_nl2 hp (Option.some.inj q)) h'
theorem px_iload_9 {a0 a1 a2 a3 a4 a5 a6 a7 a8 : Option Value} {r : List (Option Value)} {x : Int32} (d : decode cc pc = .ok (.iload 9, 2)) (h : px_W l G y cc nL ret Rm Fn (pc + 2) (a0 :: a1 :: a2 :: a3 :: a4 :: a5 :: a6 :: a7 :: a8 :: some (.int x) :: r) (.int x :: st) k n μ) : px_W l G y cc nL ret Rm Fn (pc) (a0 :: a1 :: a2 :: a3 :: a4 :: a5 :: a6 :: a7 :: a8 :: some (.int x) :: r) (st) k n μ := fun p e s m args below meth c H locs la X hl hF => lv_iload X.1 X.2.1 d (hl.at rfl) (h p e s m args below meth c H locs la X hl hF)
theorem px_aload_9 {a0 a1 a2 a3 a4 a5 a6 a7 a8 : Option Value} {r : List (Option Value)} {x : Nat} (d : decode cc pc = .ok (.aload 9, 2)) (h : px_W l G y cc nL ret Rm Fn (pc + 2) (a0 :: a1 :: a2 :: a3 :: a4 :: a5 :: a6 :: a7 :: a8 :: some (.ref x) :: r) (.ref x :: st) k n μ) : px_W l G y cc nL ret Rm Fn (pc) (a0 :: a1 :: a2 :: a3 :: a4 :: a5 :: a6 :: a7 :: a8 :: some (.ref x) :: r) (st) k n μ := fun p e s m args below meth c H locs la X hl hF => lv_aload X.1 X.2.1 d (hl.at rfl) (h p e s m args below meth c H locs la X hl hF)
theorem px_lload_9 {a0 a1 a2 a3 a4 a5 a6 a7 a8 : Option Value} {r : List (Option Value)} {x : Int64} (d : decode cc pc = .ok (.lload 9, 2)) (h : px_W l G y cc nL ret Rm Fn (pc + 2) (a0 :: a1 :: a2 :: a3 :: a4 :: a5 :: a6 :: a7 :: a8 :: some (.long x) :: r) (.long x :: st) k n μ) : px_W l G y cc nL ret Rm Fn (pc) (a0 :: a1 :: a2 :: a3 :: a4 :: a5 :: a6 :: a7 :: a8 :: some (.long x) :: r) (st) k n μ := fun p e s m args below meth c H locs la X hl hF => lv_lload X.1 X.2.1 d (hl.at rfl) (h p e s m args below meth c H locs la X hl hF)
theorem px_istore_9 {a0 a1 a2 a3 a4 a5 a6 a7 a8 : Option Value} {r : List (Option Value)} {o : Option Value} {x : Int32} (d : decode cc pc = .ok (.istore 9, 2)) (hp : px_nl a8 = true) (h : px_W l G y cc nL ret Rm Fn (pc + 2) (a0 :: a1 :: a2 :: a3 :: a4 :: a5 :: a6 :: a7 :: a8 :: some (.int x) :: r) (st) k n μ) : px_W l G y cc nL ret Rm Fn (pc) (a0 :: a1 :: a2 :: a3 :: a4 :: a5 :: a6 :: a7 :: a8 :: o :: r) (.int x :: st) k n μ := by
  intro p e s m args below meth c H locs la X hl hF
  refine lv_istore X.1 X.2.1 d hl.1 (by have := hl.2; simp only [List.length_cons] at this; omega) rfl (fun la' h' => h p e s m args below meth c H locs la' X ?_ hF)
  exact hl.set (i := 9) (fun j w e q => by obtain rfl : j = 8 := (by omega); exact px_nl2 hp (Option.some.inj q)) h'
theorem px_astore_9 {a0 a1 a2 a3 a4 a5 a6 a7 a8 : Option Value} {r : List (Option Value)} {o : Option Value} {x : Nat} (d : decode cc pc = .ok (.astore 9, 2)) (hp : px_nl a8 = true) (h : px_W l G y cc nL ret Rm Fn (pc + 2) (a0 :: a1 :: a2 :: a3 :: a4 :: a5 :: a6 :: a7 :: a8 :: some (.ref x) :: r) (st) k n μ) : px_W l G y cc nL ret Rm Fn (pc) (a0 :: a1 :: a2 :: a3 :: a4 :: a5 :: a6 :: a7 :: a8 :: o :: r) (.ref x :: st) k n μ := by
  intro p e s m args below meth c H locs la X hl hF
  refine lv_astore X.1 X.2.1 d hl.1 (by have := hl.2; simp only [List.length_cons] at this; omega) rfl (fun la' h' => h p e s m args below meth c H locs la' X ?_ hF)
  exact hl.set (i := 9) (fun j w e q => by obtain rfl : j = 8 := (by omega); exact px_nl2 hp (Option.some.inj q)) h'
theorem px_lstore_9 {a0 a1 a2 a3 a4 a5 a6 a7 a8 : Option Value} {r : List (Option Value)} {o o2 : Option Value} {x : Int64} (d : decode cc pc = .ok (.lstore 9, 2)) (hp : px_nl a8 = true) (h : px_W l G y cc nL ret Rm Fn (pc + 2) (a0 :: a1 :: a2 :: a3 :: a4 :: a5 :: a6 :: a7 :: a8 :: some (.long x) :: none :: r) (st) k n μ) : px_W l G y cc nL ret Rm Fn (pc) (a0 :: a1 :: a2 :: a3 :: a4 :: a5 :: a6 :: a7 :: a8 :: o :: o2 :: r) (.long x :: st) k n μ := by
  intro p e s m args below meth c H locs la X hl hF
  refine lv_lstore X.1 X.2.1 d hl.1 (by have := hl.2; simp only [List.length_cons] at this; omega) rfl (fun la' h' => h p e s m args below meth c H locs la' X ?_ hF)
  exact hl.set2 (i := 9) (fun j w e q => by obtain rfl : j = 8 := (by omega); exact px_nl2 hp (Option.some.inj q)) h'
theorem px_iinc_9 {a0 a1 a2 a3 a4 a5 a6 a7 a8 : Option Value} {r : List (Option Value)} {x : Int32} {z : Int} (d : decode cc pc = .ok (.iinc 9 z, 3)) (hp : px_nl a8 = true) (h : px_W l G y cc nL ret Rm Fn (pc + 3) (a0 :: a1 :: a2 :: a3 :: a4 :: a5 :: a6 :: a7 :: a8 :: some (.int (x + Int32.ofInt z)) :: r) (st) k n μ) : px_W l G y cc nL ret Rm Fn (pc) (a0 :: a1 :: a2 :: a3 :: a4 :: a5 :: a6 :: a7 :: a8 :: some (.int x) :: r) (st) k n μ := by
  intro p e s m args below meth c H locs la X hl hF
  obtain ⟨q, hq⟩ := List.getElem?_of_mem ((px_lv_mem (a0 :: a1 :: a2 :: a3 :: a4 :: a5 :: a6 :: a7 :: a8 :: some (.int x) :: r) 0 9 (.int x)).mpr ⟨9, by omega, rfl⟩)
  refine lv_iinc X.1 X.2.1 d hl.1 hq rfl (by have := hl.2; simp only [List.length_cons] at this; omega) rfl (fun la' h' => h p e s m args below meth c H locs la' X ?_ hF)
  exact hl.set (i := 9) (fun j w e q => by obtain rfl : j = 8 := (by omega); exact px_nl2 hp (Option.some.inj q)) h'
theorem px_iload_10 {a0 a1 a2 a3 a4 a5 a6 a7 a8 a9 : Option Value} {r : List (Option Value)} {x : Int32} (d : decode cc pc = .ok (.iload 10, 2)) (h : px_W l G y cc nL ret Rm Fn (pc + 2) (a0 :: a1 :: a2 :: a3 :: a4 :: a5 :: a6 :: a7 :: a8 :: a9 :: some (.int x) :: r) (.int x :: st) k n μ) : px_W l G y cc nL ret Rm Fn (pc) (a0 :: a1 :: a2 :: a3 :: a4 :: a5 :: a6 :: a7 :: a8 :: a9 :: some (.int x) :: r) (st) k n μ := fun p e s m args below meth c H locs la X hl hF => lv_iload X.1 X.2.1 d (hl.at rfl) (h p e s m args below meth c H locs la X hl hF)
theorem px_aload_10 {a0 a1 a2 a3 a4 a5 a6 a7 a8 a9 : Option Value} {r : List (Option Value)} {x : Nat} (d : decode cc pc = .ok (.aload 10, 2)) (h : px_W l G y cc nL ret Rm Fn (pc + 2) (a0 :: a1 :: a2 :: a3 :: a4 :: a5 :: a6 :: a7 :: a8 :: a9 :: some (.ref x) :: r) (.ref x :: st) k n μ) : px_W l G y cc nL ret Rm Fn (pc) (a0 :: a1 :: a2 :: a3 :: a4 :: a5 :: a6 :: a7 :: a8 :: a9 :: some (.ref x) :: r) (st) k n μ := fun p e s m args below meth c H locs la X hl hF => lv_aload X.1 X.2.1 d (hl.at rfl) (h p e s m args below meth c H locs la X hl hF)
theorem px_lload_10 {a0 a1 a2 a3 a4 a5 a6 a7 a8 a9 : Option Value} {r : List (Option Value)} {x : Int64} (d : decode cc pc = .ok (.lload 10, 2)) (h : px_W l G y cc nL ret Rm Fn (pc + 2) (a0 :: a1 :: a2 :: a3 :: a4 :: a5 :: a6 :: a7 :: a8 :: a9 :: some (.long x) :: r) (.long x :: st) k n μ) : px_W l G y cc nL ret Rm Fn (pc) (a0 :: a1 :: a2 :: a3 :: a4 :: a5 :: a6 :: a7 :: a8 :: a9 :: some (.long x) :: r) (st) k n μ := fun p e s m args below meth c H locs la X hl hF => lv_lload X.1 X.2.1 d (hl.at rfl) (h p e s m args below meth c H locs la X hl hF)
theorem px_istore_10 {a0 a1 a2 a3 a4 a5 a6 a7 a8 a9 : Option Value} {r : List (Option Value)} {o : Option Value} {x : Int32} (d : decode cc pc = .ok (.istore 10, 2)) (hp : px_nl a9 = true) (h : px_W l G y cc nL ret Rm Fn (pc + 2) (a0 :: a1 :: a2 :: a3 :: a4 :: a5 :: a6 :: a7 :: a8 :: a9 :: some (.int x) :: r) (st) k n μ) : px_W l G y cc nL ret Rm Fn (pc) (a0 :: a1 :: a2 :: a3 :: a4 :: a5 :: a6 :: a7 :: a8 :: a9 :: o :: r) (.int x :: st) k n μ := by
  intro p e s m args below meth c H locs la X hl hF
  refine lv_istore X.1 X.2.1 d hl.1 (by have := hl.2; simp only [List.length_cons] at this; omega) rfl (fun la' h' => h p e s m args below meth c H locs la' X ?_ hF)
  exact hl.set (i := 10) (fun j w e q => by obtain rfl : j = 9 := (by omega); exact px_nl2 hp (Option.some.inj q)) h'
theorem px_astore_10 {a0 a1 a2 a3 a4 a5 a6 a7 a8 a9 : Option Value} {r : List (Option Value)} {o : Option Value} {x : Nat} (d : decode cc pc = .ok (.astore 10, 2)) (hp : px_nl a9 = true) (h : px_W l G y cc nL ret Rm Fn (pc + 2) (a0 :: a1 :: a2 :: a3 :: a4 :: a5 :: a6 :: a7 :: a8 :: a9 :: some (.ref x) :: r) (st) k n μ) : px_W l G y cc nL ret Rm Fn (pc) (a0 :: a1 :: a2 :: a3 :: a4 :: a5 :: a6 :: a7 :: a8 :: a9 :: o :: r) (.ref x :: st) k n μ := by
  intro p e s m args below meth c H locs la X hl hF
  refine lv_astore X.1 X.2.1 d hl.1 (by have := hl.2; simp only [List.length_cons] at this; omega) rfl (fun la' h' => h p e s m args below meth c H locs la' X ?_ hF)
  exact hl.set (i := 10) (fun j w e q => by obtain rfl : j = 9 := (by omega); exact px_nl2 hp (Option.some.inj q)) h'
theorem px_lstore_10 {a0 a1 a2 a3 a4 a5 a6 a7 a8 a9 : Option Value} {r : List (Option Value)} {o o2 : Option Value} {x : Int64} (d : decode cc pc = .ok (.lstore 10, 2)) (hp : px_nl a9 = true) (h : px_W l G y cc nL ret Rm Fn (pc + 2) (a0 :: a1 :: a2 :: a3 :: a4 :: a5 :: a6 :: a7 :: a8 :: a9 :: some (.long x) :: none :: r) (st) k n μ) : px_W l G y cc nL ret Rm Fn (pc) (a0 :: a1 :: a2 :: a3 :: a4 :: a5 :: a6 :: a7 :: a8 :: a9 :: o :: o2 :: r) (.long x :: st) k n μ := by
  intro p e s m args below meth c H locs la X hl hF
  refine lv_lstore X.1 X.2.1 d hl.1 (by have := hl.2; simp only [List.length_cons] at this; omega) rfl (fun la' h' => h p e s m args below meth c H locs la' X ?_ hF)
  exact hl.set2 (i := 10) (fun j w e q => by obtain rfl : j = 9 := (by omega); exact px_nl2 hp (Option.some.inj q)) h'
theorem px_iinc_10 {a0 a1 a2 a3 a4 a5 a6 a7 a8 a9 : Option Value} {r : List (Option Value)} {x : Int32} {z : Int} (d : decode cc pc = .ok (.iinc 10 z, 3)) (hp : px_nl a9 = true) (h : px_W l G y cc nL ret Rm Fn (pc + 3) (a0 :: a1 :: a2 :: a3 :: a4 :: a5 :: a6 :: a7 :: a8 :: a9 :: some (.int (x + Int32.ofInt z)) :: r) (st) k n μ) : px_W l G y cc nL ret Rm Fn (pc) (a0 :: a1 :: a2 :: a3 :: a4 :: a5 :: a6 :: a7 :: a8 :: a9 :: some (.int x) :: r) (st) k n μ := by
  intro p e s m args below meth c H locs la X hl hF
  obtain ⟨q, hq⟩ := List.getElem?_of_mem ((px_lv_mem (a0 :: a1 :: a2 :: a3 :: a4 :: a5 :: a6 :: a7 :: a8 :: a9 :: some (.int x) :: r) 0 10 (.int x)).mpr ⟨10, by omega, rfl⟩)
  refine lv_iinc X.1 X.2.1 d hl.1 hq rfl (by have := hl.2; simp only [List.length_cons] at this; omega) rfl (fun la' h' => h p e s m args below meth c H locs la' X ?_ hF)
  exact hl.set (i := 10) (fun j w e q => by obtain rfl : j = 9 := (by omega); exact px_nl2 hp (Option.some.inj q)) h'
theorem px_iload_11 {a0 a1 a2 a3 a4 a5 a6 a7 a8 a9 a10 : Option Value} {r : List (Option Value)} {x : Int32} (d : decode cc pc = .ok (.iload 11, 2)) (h : px_W l G y cc nL ret Rm Fn (pc + 2) (a0 :: a1 :: a2 :: a3 :: a4 :: a5 :: a6 :: a7 :: a8 :: a9 :: a10 :: some (.int x) :: r) (.int x :: st) k n μ) : px_W l G y cc nL ret Rm Fn (pc) (a0 :: a1 :: a2 :: a3 :: a4 :: a5 :: a6 :: a7 :: a8 :: a9 :: a10 :: some (.int x) :: r) (st) k n μ := fun p e s m args below meth c H locs la X hl hF => lv_iload X.1 X.2.1 d (hl.at rfl) (h p e s m args below meth c H locs la X hl hF)
theorem px_aload_11 {a0 a1 a2 a3 a4 a5 a6 a7 a8 a9 a10 : Option Value} {r : List (Option Value)} {x : Nat} (d : decode cc pc = .ok (.aload 11, 2)) (h : px_W l G y cc nL ret Rm Fn (pc + 2) (a0 :: a1 :: a2 :: a3 :: a4 :: a5 :: a6 :: a7 :: a8 :: a9 :: a10 :: some (.ref x) :: r) (.ref x :: st) k n μ) : px_W l G y cc nL ret Rm Fn (pc) (a0 :: a1 :: a2 :: a3 :: a4 :: a5 :: a6 :: a7 :: a8 :: a9 :: a10 :: some (.ref x) :: r) (st) k n μ := fun p e s m args below meth c H locs la X hl hF => lv_aload X.1 X.2.1 d (hl.at rfl) (h p e s m args below meth c H locs la X hl hF)
theorem px_lload_11 {a0 a1 a2 a3 a4 a5 a6 a7 a8 a9 a10 : Option Value} {r : List (Option Value)} {x : Int64} (d : decode cc pc = .ok (.lload 11, 2)) (h : px_W l G y cc nL ret Rm Fn (pc + 2) (a0 :: a1 :: a2 :: a3 :: a4 :: a5 :: a6 :: a7 :: a8 :: a9 :: a10 :: some (.long x) :: r) (.long x :: st) k n μ) : px_W l G y cc nL ret Rm Fn (pc) (a0 :: a1 :: a2 :: a3 :: a4 :: a5 :: a6 :: a7 :: a8 :: a9 :: a10 :: some (.long x) :: r) (st) k n μ := fun p e s m args below meth c H locs la X hl hF => lv_lload X.1 X.2.1 d (hl.at rfl) (h p e s m args below meth c H locs la X hl hF)
theorem px_istore_11 {a0 a1 a2 a3 a4 a5 a6 a7 a8 a9 a10 : Option Value} {r : List (Option Value)} {o : Option Value} {x : Int32} (d : decode cc pc = .ok (.istore 11, 2)) (hp : px_nl a10 = true) (h : px_W l G y cc nL ret Rm Fn (pc + 2) (a0 :: a1 :: a2 :: a3 :: a4 :: a5 :: a6 :: a7 :: a8 :: a9 :: a10 :: some (.int x) :: r) (st) k n μ) : px_W l G y cc nL ret Rm Fn (pc) (a0 :: a1 :: a2 :: a3 :: a4 :: a5 :: a6 :: a7 :: a8 :: a9 :: a10 :: o :: r) (.int x :: st) k n μ := by
  intro p e s m args below meth c H locs la X hl hF
  refine lv_istore X.1 X.2.1 d hl.1 (by have := hl.2; simp only [List.length_cons] at this; omega) rfl (fun la' h' => h p e s m args below meth c H locs la' X ?_ hF)
  exact hl.set (i := 11) (fun j w e q => by obtain rfl : j = 10 := (by omega); exact px_nl2 hp (Option.some.inj q)) h'
theorem px_astore_11 {a0 a1 a2 a3 a4 a5 a6 a7 a8 a9 a10 : Option Value} {r : List (Option Value)} {o : Option Value} {x : Nat} (d : decode cc pc = .ok (.astore 11, 2)) (hp : px_nl a10 = true) (h : px_W l G y cc nL ret Rm Fn (pc + 2) (a0 :: a1 :: a2 :: a3 :: a4 :: a5 :: a6 :: a7 :: a8 :: a9 :: a10 :: some (.ref x) :: r) (st) k n μ) : px_W l G y cc nL ret Rm Fn (pc) (a0 :: a1 :: a2 :: a3 :: a4 :: a5 :: a6 :: a7 :: a8 :: a9 :: a10 :: o :: r) (.ref x :: st) k n μ := by
  intro p e s m args below meth c H locs la X hl hF
  refine lv_astore X.1 X.2.1 d hl.1 (by have := hl.2; simp only [List.length_cons] at this; omega) rfl (fun la' h' => h p e s m args below meth c H locs la' X ?_ hF)
  exact hl.set (i := 11) (fun j w e q => by obtain rfl : j = 10 := (by omega); exact px_nl2 hp (Option.some.inj q)) h'
theorem px_lstore_11 {a0 a1 a2 a3 a4 a5 a6 a7 a8 a9 a10 : Option Value} {r : List (Option Value)} {o o2 : Option Value} {x : Int64} (d : decode cc pc = .ok (.lstore 11, 2)) (hp : px_nl a10 = true) (h : px_W l G y cc nL ret Rm Fn (pc + 2) (a0 :: a1 :: a2 :: a3 :: a4 :: a5 :: a6 :: a7 :: a8 :: a9 :: a10 :: some (.long x) :: none :: r) (st) k n μ) : px_W l G y cc nL ret Rm Fn (pc) (a0 :: a1 :: a2 :: a3 :: a4 :: a5 :: a6 :: a7 :: a8 :: a9 :: a10 :: o :: o2 :: r) (.long x :: st) k n μ := by
  intro p e s m args below meth c H locs la X hl hF
  refine lv_lstore X.1 X.2.1 d hl.1 (by have := hl.2; simp only [List.length_cons] at this; omega) rfl (fun la' h' => h p e s m args below meth c H locs la' X ?_ hF)
  exact hl.set2 (i := 11) (fun j w e q => by obtain rfl : j = 10 := (by omega); exact px_nl2 hp (Option.some.inj q)) h'
theorem px_iinc_11 {a0 a1 a2 a3 a4 a5 a6 a7 a8 a9 a10 : Option Value} {r : List (Option Value)} {x : Int32} {z : Int} (d : decode cc pc = .ok (.iinc 11 z, 3)) (hp : px_nl a10 = true) (h : px_W l G y cc nL ret Rm Fn (pc + 3) (a0 :: a1 :: a2 :: a3 :: a4 :: a5 :: a6 :: a7 :: a8 :: a9 :: a10 :: some (.int (x + Int32.ofInt z)) :: r) (st) k n μ) : px_W l G y cc nL ret Rm Fn (pc) (a0 :: a1 :: a2 :: a3 :: a4 :: a5 :: a6 :: a7 :: a8 :: a9 :: a10 :: some (.int x) :: r) (st) k n μ := by
  intro p e s m args below meth c H locs la X hl hF
  obtain ⟨q, hq⟩ := List.getElem?_of_mem ((px_lv_mem (a0 :: a1 :: a2 :: a3 :: a4 :: a5 :: a6 :: a7 :: a8 :: a9 :: a10 :: some (.int x) :: r) 0 11 (.int x)).mpr ⟨11, by omega, rfl⟩)
  refine lv_iinc X.1 X.2.1 d hl.1 hq rfl (by have := hl.2; simp only [List.length_cons] at this; omega) rfl (fun la' h' => h p e s m args below meth c H locs la' X ?_ hF)
  exact hl.set (i := 11) (fun j w e q => by obtain rfl : j = 10 := (by omega); exact px_nl2 hp (Option.some.inj q)) h'
theorem px_iload_12 {a0 a1 a2 a3 a4 a5 a6 a7 a8 a9 a10 a11 : Option Value} {r : List (Option Value)} {x : Int32} (d : decode cc pc = .ok (.iload 12, 2)) (h : px_W l G y cc nL ret Rm Fn (pc + 2) (a0 :: a1 :: a2 :: a3 :: a4 :: a5 :: a6 :: a7 :: a8 :: a9 :: a10 :: a11 :: some (.int x) :: r) (.int x :: st) k n μ) : px_W l G y cc nL ret Rm Fn (pc) (a0 :: a1 :: a2 :: a3 :: a4 :: a5 :: a6 :: a7 :: a8 :: a9 :: a10 :: a11 :: some (.int x) :: r) (st) k n μ := fun p e s m args below meth c H locs la X hl hF => lv_iload X.1 X.2.1 d (hl.at rfl) (h p e s m args below meth c H locs la X hl hF)
theorem px_aload_12 {a0 a1 a2 a3 a4 a5 a6 a7 a8 a9 a10 a11 : Option Value} {r : List (Option Value)} {x : Nat} (d : decode cc pc = .ok (.aload 12, 2)) (h : px_W l G y cc nL ret Rm Fn (pc + 2) (a0 :: a1 :: a2 :: a3 :: a4 :: a5 :: a6 :: a7 :: a8 :: a9 :: a10 :: a11 :: some (.ref x) :: r) (.ref x :: st) k n μ) : px_W l G y cc nL ret Rm Fn (pc) (a0 :: a1 :: a2 :: a3 :: a4 :: a5 :: a6 :: a7 :: a8 :: a9 :: a10 :: a11 :: some (.ref x) :: r) (st) k n μ := fun p e s m args below meth c H locs la X hl hF => lv_aload X.1 X.2.1 d (hl.at rfl) (h p e s m args below meth c H locs la X hl hF)
theorem px_lload_12 {a0 a1 a2 a3 a4 a5 a6 a7 a8 a9 a10 a11 : Option Value} {r : List (Option Value)} {x : Int64} (d : decode cc pc = .ok (.lload 12, 2)) (h : px_W l G y cc nL ret Rm Fn (pc + 2) (a0 :: a1 :: a2 :: a3 :: a4 :: a5 :: a6 :: a7 :: a8 :: a9 :: a10 :: a11 :: some (.long x) :: r) (.long x :: st) k n μ) : px_W l G y cc nL ret Rm Fn (pc) (a0 :: a1 :: a2 :: a3 :: a4 :: a5 :: a6 :: a7 :: a8 :: a9 :: a10 :: a11 :: some (.long x) :: r) (st) k n μ := fun p e s m args below meth c H locs la X hl hF => lv_lload X.1 X.2.1 d (hl.at rfl) (h p e s m args below meth c H locs la X hl hF)
theorem px_istore_12 {a0 a1 a2 a3 a4 a5 a6 a7 a8 a9 a10 a11 : Option Value} {r : List (Option Value)} {o : Option Value} {x : Int32} (d : decode cc pc = .ok (.istore 12, 2)) (hp : px_nl a11 = true) (h : px_W l G y cc nL ret Rm Fn (pc + 2) (a0 :: a1 :: a2 :: a3 :: a4 :: a5 :: a6 :: a7 :: a8 :: a9 :: a10 :: a11 :: some (.int x) :: r) (st) k n μ) : px_W l G y cc nL ret Rm Fn (pc) (a0 :: a1 :: a2 :: a3 :: a4 :: a5 :: a6 :: a7 :: a8 :: a9 :: a10 :: a11 :: o :: r) (.int x :: st) k n μ := by
  intro p e s m args below meth c H locs la X hl hF
  refine lv_istore X.1 X.2.1 d hl.1 (by have := hl.2; simp only [List.length_cons] at this; omega) rfl (fun la' h' => h p e s m args below meth c H locs la' X ?_ hF)
  exact hl.set (i := 12) (fun j w e q => by obtain rfl : j = 11 := (by omega); exact px_nl2 hp (Option.some.inj q)) h'
theorem px_astore_12 {a0 a1 a2 a3 a4 a5 a6 a7 a8 a9 a10 a11 : Option Value} {r : List (Option Value)} {o : Option Value} {x : Nat} (d : decode cc pc = .ok (.astore 12, 2)) (hp : px_nl a11 = true) (h : px_W l G y cc nL ret Rm Fn (pc + 2) (a0 :: a1 :: a2 :: a3 :: a4 :: a5 :: a6 :: a7 :: a8 :: a9 :: a10 :: a11 :: some (.ref x) :: r) (st) k n μ) : px_W l G y cc nL ret Rm Fn (pc) (a0 :: a1 :: a2 :: a3 :: a4 :: a5 :: a6 :: a7 :: a8 :: a9 :: a10 :: a11 :: o :: r) (.ref x :: st) k n μ := by
  intro p e s m args below meth c H locs la X hl hF
  refine lv_astore X.1 X.2.1 d hl.1 (by have := hl.2; simp only [List.length_cons] at this; omega) rfl (fun la' h' => h p e s m args below meth c H locs la' X ?_ hF)
  exact hl.set (i := 12) (fun j w e q => by obtain rfl : j = 11 := (by omega); exact px_nl2 hp (Option.some.inj q)) h'
theorem px_lstore_12 {a0 a1 a2 a3 a4 a5 a6 a7 a8 a9 a10 a11 : Option Value} {r : List (Option Value)} {o o2 : Option Value} {x : Int64} (d : decode cc pc = .ok (.lstore 12, 2)) (hp : px_nl a11 = true) (h : px_W l G y cc nL ret Rm Fn (pc + 2) (a0 :: a1 :: a2 :: a3 :: a4 :: a5 :: a6 :: a7 :: a8 :: a9 :: a10 :: a11 :: some (.long x) :: none :: r) (st) k n μ) : px_W l G y cc nL ret Rm Fn (pc) (a0 :: a1 :: a2 :: a3 :: a4 :: a5 :: a6 :: a7 :: a8 :: a9 :: a10 :: a11 :: o :: o2 :: r) (.long x :: st) k n μ := by
  intro p e s m args below meth c H locs la X hl hF
  refine lv_lstore X.1 X.2.1 d hl.1 (by have := hl.2; simp only [List.length_cons] at this; omega) rfl (fun la' h' => h p e s m args below meth c H locs la' X ?_ hF)
  exact hl.set2 (i := 12) (fun j w e q => by obtain rfl : j = 11 := (by omega); exact px_nl2 hp (Option.some.inj q)) h'
theorem px_iinc_12 {a0 a1 a2 a3 a4 a5 a6 a7 a8 a9 a10 a11 : Option Value} {r : List (Option Value)} {x : Int32} {z : Int} (d : decode cc pc = .ok (.iinc 12 z, 3)) (hp : px_nl a11 = true) (h : px_W l G y cc nL ret Rm Fn (pc + 3) (a0 :: a1 :: a2 :: a3 :: a4 :: a5 :: a6 :: a7 :: a8 :: a9 :: a10 :: a11 :: some (.int (x + Int32.ofInt z)) :: r) (st) k n μ) : px_W l G y cc nL ret Rm Fn (pc) (a0 :: a1 :: a2 :: a3 :: a4 :: a5 :: a6 :: a7 :: a8 :: a9 :: a10 :: a11 :: some (.int x) :: r) (st) k n μ := by
  intro p e s m args below meth c H locs la X hl hF
  obtain ⟨q, hq⟩ := List.getElem?_of_mem ((px_lv_mem (a0 :: a1 :: a2 :: a3 :: a4 :: a5 :: a6 :: a7 :: a8 :: a9 :: a10 :: a11 :: some (.int x) :: r) 0 12 (.int x)).mpr ⟨12, by omega, rfl⟩)
  refine lv_iinc X.1 X.2.1 d hl.1 hq rfl (by have := hl.2; simp only [List.length_cons] at this; omega) rfl (fun la' h' => h p e s m args below meth c H locs la' X ?_ hF)
  exact hl.set (i := 12) (fun j w e q => by obtain rfl : j = 11 := (by omega); exact px_nl2 hp (Option.some.inj q)) h'
theorem px_iload_13 {a0 a1 a2 a3 a4 a5 a6 a7 a8 a9 a10 a11 a12 : Option Value} {r : List (Option Value)} {x : Int32} (d : decode cc pc = .ok (.iload 13, 2)) (h : px_W l G y cc nL ret Rm Fn (pc + 2) (a0 :: a1 :: a2 :: a3 :: a4 :: a5 :: a6 :: a7 :: a8 :: a9 :: a10 :: a11 :: a12 :: some (.int x) :: r) (.int x :: st) k n μ) : px_W l G y cc nL ret Rm Fn (pc) (a0 :: a1 :: a2 :: a3 :: a4 :: a5 :: a6 :: a7 :: a8 :: a9 :: a10 :: a11 :: a12 :: some (.int x) :: r) (st) k n μ := fun p e s m args below meth c H locs la X hl hF => lv_iload X.1 X.2.1 d (hl.at rfl) (h p e s m args below meth c H locs la X hl hF)
theorem px_aload_13 {a0 a1 a2 a3 a4 a5 a6 a7 a8 a9 a10 a11 a12 : Option Value} {r : List (Option Value)} {x : Nat} (d : decode cc pc = .ok (.aload 13, 2)) (h : px_W l G y cc nL ret Rm Fn (pc + 2) (a0 :: a1 :: a2 :: a3 :: a4 :: a5 :: a6 :: a7 :: a8 :: a9 :: a10 :: a11 :: a12 :: some (.ref x) :: r) (.ref x :: st) k n μ) : px_W l G y cc nL ret Rm Fn (pc) (a0 :: a1 :: a2 :: a3 :: a4 :: a5 :: a6 :: a7 :: a8 :: a9 :: a10 :: a11 :: a12 :: some (.ref x) :: r) (st) k n μ := fun p e s m args below meth c H locs la X hl hF => lv_aload X.1 X.2.1 d (hl.at rfl) (h p e s m args below meth c H locs la X hl hF)
theorem px_lload_13 {a0 a1 a2 a3 a4 a5 a6 a7 a8 a9 a10 a11 a12 : Option Value} {r : List (Option Value)} {x : Int64} (d : decode cc pc = .ok (.lload 13, 2)) (h : px_W l G y cc nL ret Rm Fn (pc + 2) (a0 :: a1 :: a2 :: a3 :: a4 :: a5 :: a6 :: a7 :: a8 :: a9 :: a10 :: a11 :: a12 :: some (.long x) :: r) (.long x :: st) k n μ) : px_W l G y cc nL ret Rm Fn (pc) (a0 :: a1 :: a2 :: a3 :: a4 :: a5 :: a6 :: a7 :: a8 :: a9 :: a10 :: a11 :: a12 :: some (.long x) :: r) (st) k n μ := fun p e s m args below meth c H locs la X hl hF => lv_lload X.1 X.2.1 d (hl.at rfl) (h p e s m args below meth c H locs la X hl hF)
theorem px_istore_13 {a0 a1 a2 a3 a4 a5 a6 a7 a8 a9 a10 a11 a12 : Option Value} {r : List (Option Value)} {o : Option Value} {x : Int32} (d : decode cc pc = .ok (.istore 13, 2)) (hp : px_nl a12 = true) (h : px_W l G y cc nL ret Rm Fn (pc + 2) (a0 :: a1 :: a2 :: a3 :: a4 :: a5 :: a6 :: a7 :: a8 :: a9 :: a10 :: a11 :: a12 :: some (.int x) :: r) (st) k n μ) : px_W l G y cc nL ret Rm Fn (pc) (a0 :: a1 :: a2 :: a3 :: a4 :: a5 :: a6 :: a7 :: a8 :: a9 :: a10 :: a11 :: a12 :: o :: r) (.int x :: st) k n μ := by
  intro p e s m args below meth c H locs la X hl hF
  refine lv_istore X.1 X.2.1 d hl.1 (by have := hl.2; simp only [List.length_cons] at this; omega) rfl (fun la' h' => h p e s m args below meth c H locs la' X ?_ hF)
  exact hl.set (i := 13) (fun j w e q => by obtain rfl : j = 12 := (by omega); exact px_nl2 hp (Option.some.inj q)) h'
theorem px_astore_13 {a0 a1 a2 a3 a4 a5 a6 a7 a8 a9 a10 a11 a12 : Option Value} {r : List (Option Value)} {o : Option Value} {x : Nat} (d : decode cc pc = .ok (.astore 13, 2)) (hp : px_nl a12 = true) (h : px_W l G y cc nL ret Rm Fn (pc + 2) (a0 :: a1 :: a2 :: a3 :: a4 :: a5 :: a6 :: a7 :: a8 :: a9 :: a10 :: a11 :: a12 :: some (.ref x) :: r) (st) k n μ) : px_W l G y cc nL ret Rm Fn (pc) (a0 :: a1 :: a2 :: a3 :: a4 :: a5 :: a6 :: a7 :: a8 :: a9 :: a10 :: a11 :: a12 :: o :: r) (.ref x :: st) k n μ := by
  intro p e s m args below meth c H locs la X hl hF
  refine lv_astore X.1 X.2.1 d hl.1 (by have := hl.2; simp only [List.length_cons] at this; omega) rfl (fun la' h' => h p e s m args below meth c H locs la' X ?_ hF)
  exact hl.set (i := 13) (fun j w e q => by obtain rfl : j = 12 := (by omega); exact px_nl2 hp (Option.some.inj q)) h'
theorem px_iinc_13 {a0 a1 a2 a3 a4 a5 a6 a7 a8 a9 a10 a11 a12 : Option Value} {r : List (Option Value)} {x : Int32} {z : Int} (d : decode cc pc = .ok (.iinc 13 z, 3)) (hp : px_nl a12 = true) (h : px_W l G y cc nL ret Rm Fn (pc + 3) (a0 :: a1 :: a2 :: a3 :: a4 :: a5 :: a6 :: a7 :: a8 :: a9 :: a10 :: a11 :: a12 :: some (.int (x + Int32.ofInt z)) :: r) (st) k n μ) : px_W l G y cc nL ret Rm Fn (pc) (a0 :: a1 :: a2 :: a3 :: a4 :: a5 :: a6 :: a7 :: a8 :: a9 :: a10 :: a11 :: a12 :: some (.int x) :: r) (st) k n μ := by
  intro p e s m args below meth c H locs la X hl hF
  obtain ⟨q, hq⟩ := List.getElem?_of_mem ((px_lv_mem (a0 :: a1 :: a2 :: a3 :: a4 :: a5 :: a6 :: a7 :: a8 :: a9 :: a10 :: a11 :: a12 :: some (.int x) :: r) 0 13 (.int x)).mpr ⟨13, by omega, rfl⟩)
  refine lv_iinc X.1 X.2.1 d hl.1 hq rfl (by have := hl.2; simp only [List.length_cons] at this; omega) rfl (fun la' h' => h p e s m args below meth c H locs la' X ?_ hF)
  exact hl.set (i := 13) (fun j w e q => by obtain rfl : j = 12 := (by omega); exact px_nl2 hp (Option.some.inj q)) h'
end PX
