section
/-! the outer array that multianewarray makes, by the library's own words for it (JvmDerived.Shelf42.MA1) -/
theorem px_outer (cA : ClassId) (h0 : Nat) : Jvm.Free.Multi.outerC cA 5 h0 5 = arrV cA 5 (fun j => va_rf (if j < 5 then some (h0 + 1 + j) else none)) := by
  obtain ⟨o1, o2, o3⟩ := Jvm.Free.Multi.outerC_facts cA 5 h0 5
  have os := fun (j : Nat) (hj : j < 5) => Jvm.Free.Multi.outerC_slot cA 5 h0 5 j hj
  have e : Jvm.Free.Multi.outerC cA 5 h0 5 = { cls := cA, slots := (Jvm.Free.Multi.outerC cA 5 h0 5).slots, vm := .none } := rfl
  rw [e]
  have hs : (Jvm.Free.Multi.outerC cA 5 h0 5).slots = Array.ofFn (n := 5) fun j : Fin 5 => va_rf (if j.val < 5 then some (h0 + 1 + j.val) else none) := by
    apply Array.ext
    · rw [o3, Array.size_ofFn]
    · intro i h1 h2
      have h3 := os i (by omega)
      rw [Array.getElem?_eq_getElem h1] at h3
      rw [Option.some.inj h3, Array.getElem_ofFn, if_pos (by omega), if_pos (by omega)]
      rfl
  rw [hs]
  rfl
end
section
-- ===== PART A: goes FIRST, ahead of the names: the tables' words, and 'selects' of the private methods out of them =====
/-- a private method of a class that the tables say can be made, by its rows of tables_1 -/
def lw_okq (q : MethodName × Nat) : Prop := (q.1.cls ≠ "java/lang/invoke/MethodHandle" ∧ q.1.cls ≠ "java/lang/invoke/VarHandle") ∧ Cond.instantiable q.1.cls q.2 ∈ tables_1 ∧ Cond.privateMethod q.1 ∈ tables_1 ∧ Cond.instanceMethod q.1 ∈ tables_1
theorem lw_p0 : lw_okq (⟨"SaltPrices", "hidingTowns", "()I"⟩, 9) := ⟨⟨by decide +kernel, by decide +kernel⟩, List.mem_of_getElem? (i := 12) (by decide +kernel), List.mem_of_getElem? (i := 330) (by decide +kernel), List.mem_of_getElem? (i := 331) (by decide +kernel)⟩
theorem lw_p1 : lw_okq (⟨"SaltPrices$Routes", "fillRow", "(LSaltPrices$World;I)V"⟩, 4) := ⟨⟨by decide +kernel, by decide +kernel⟩, List.mem_of_getElem? (i := 233) (by decide +kernel), List.mem_of_getElem? (i := 339) (by decide +kernel), List.mem_of_getElem? (i := 340) (by decide +kernel)⟩
theorem lw_p2 : lw_okq (⟨"SaltPrices$Routes", "byWaiting", "(II)J"⟩, 4) := ⟨⟨by decide +kernel, by decide +kernel⟩, List.mem_of_getElem? (i := 233) (by decide +kernel), List.mem_of_getElem? (i := 343) (by decide +kernel), List.mem_of_getElem? (i := 344) (by decide +kernel)⟩
theorem lw_p3 : lw_okq (⟨"SaltPrices$Routes", "raise", "(ILSaltPrices$Road;II)V"⟩, 4) := ⟨⟨by decide +kernel, by decide +kernel⟩, List.mem_of_getElem? (i := 233) (by decide +kernel), List.mem_of_getElem? (i := 348) (by decide +kernel), List.mem_of_getElem? (i := 349) (by decide +kernel)⟩
theorem lw_p4 : lw_okq (⟨"SaltPrices$Routes", "openly", "(LSaltPrices$Road;II)J"⟩, 4) := ⟨⟨by decide +kernel, by decide +kernel⟩, List.mem_of_getElem? (i := 233) (by decide +kernel), List.mem_of_getElem? (i := 352) (by decide +kernel), List.mem_of_getElem? (i := 353) (by decide +kernel)⟩
theorem lw_p5 : lw_okq (⟨"SaltPrices$Routes", "hiding", "(ILSaltPrices$Road;II)J"⟩, 4) := ⟨⟨by decide +kernel, by decide +kernel⟩, List.mem_of_getElem? (i := 233) (by decide +kernel), List.mem_of_getElem? (i := 362) (by decide +kernel), List.mem_of_getElem? (i := 363) (by decide +kernel)⟩
theorem lw_p6 : lw_okq (⟨"SaltPrices$History", "placeBehind", "(I)I"⟩, 3) := ⟨⟨by decide +kernel, by decide +kernel⟩, List.mem_of_getElem? (i := 170) (by decide +kernel), List.mem_of_getElem? (i := 378) (by decide +kernel), List.mem_of_getElem? (i := 379) (by decide +kernel)⟩
theorem lw_p7 : lw_okq (⟨"SaltPrices", "recorded", "(I)I"⟩, 9) := ⟨⟨by decide +kernel, by decide +kernel⟩, List.mem_of_getElem? (i := 12) (by decide +kernel), List.mem_of_getElem? (i := 427) (by decide +kernel), List.mem_of_getElem? (i := 428) (by decide +kernel)⟩
theorem lw_p8 : lw_okq (⟨"SaltPrices$World", "sneak", "(LSaltPrices$Cart;LSaltPrices$Road;)I"⟩, 11) := ⟨⟨by decide +kernel, by decide +kernel⟩, List.mem_of_getElem? (i := 20) (by decide +kernel), List.mem_of_getElem? (i := 502) (by decide +kernel), List.mem_of_getElem? (i := 503) (by decide +kernel)⟩
theorem lw_p9 : lw_okq (⟨"SaltPrices$World", "draw", "()I"⟩, 11) := ⟨⟨by decide +kernel, by decide +kernel⟩, List.mem_of_getElem? (i := 20) (by decide +kernel), List.mem_of_getElem? (i := 506) (by decide +kernel), List.mem_of_getElem? (i := 507) (by decide +kernel)⟩
theorem lw_p10 : lw_okq (⟨"SaltPrices$World", "payToll", "(LSaltPrices$Cart;LSaltPrices$Road;)V"⟩, 11) := ⟨⟨by decide +kernel, by decide +kernel⟩, List.mem_of_getElem? (i := 20) (by decide +kernel), List.mem_of_getElem? (i := 515) (by decide +kernel), List.mem_of_getElem? (i := 516) (by decide +kernel)⟩
theorem lw_p11 : lw_okq (⟨"SaltPrices", "findHonestPrices", "()I"⟩, 9) := ⟨⟨by decide +kernel, by decide +kernel⟩, List.mem_of_getElem? (i := 12) (by decide +kernel), List.mem_of_getElem? (i := 543) (by decide +kernel), List.mem_of_getElem? (i := 544) (by decide +kernel)⟩
theorem lw_p12 : lw_okq (⟨"SaltPrices", "lowerEnd", "(LSaltPrices$Road;II)V"⟩, 9) := ⟨⟨by decide +kernel, by decide +kernel⟩, List.mem_of_getElem? (i := 12) (by decide +kernel), List.mem_of_getElem? (i := 548) (by decide +kernel), List.mem_of_getElem? (i := 549) (by decide +kernel)⟩
theorem lw_p13 : lw_okq (⟨"SaltPrices$Routes", "isBest", "(ILSaltPrices$Road;II)Z"⟩, 4) := ⟨⟨by decide +kernel, by decide +kernel⟩, List.mem_of_getElem? (i := 233) (by decide +kernel), List.mem_of_getElem? (i := 606) (by decide +kernel), List.mem_of_getElem? (i := 607) (by decide +kernel)⟩
def lw_privs_1 : List (MethodName × Nat) := [(⟨"SaltPrices", "hidingTowns", "()I"⟩, 9), (⟨"SaltPrices$Routes", "fillRow", "(LSaltPrices$World;I)V"⟩, 4), (⟨"SaltPrices$Routes", "byWaiting", "(II)J"⟩, 4), (⟨"SaltPrices$Routes", "raise", "(ILSaltPrices$Road;II)V"⟩, 4), (⟨"SaltPrices$Routes", "openly", "(LSaltPrices$Road;II)J"⟩, 4), (⟨"SaltPrices$Routes", "hiding", "(ILSaltPrices$Road;II)J"⟩, 4), (⟨"SaltPrices$History", "placeBehind", "(I)I"⟩, 3), (⟨"SaltPrices", "recorded", "(I)I"⟩, 9), (⟨"SaltPrices$World", "sneak", "(LSaltPrices$Cart;LSaltPrices$Road;)I"⟩, 11), (⟨"SaltPrices$World", "draw", "()I"⟩, 11), (⟨"SaltPrices$World", "payToll", "(LSaltPrices$Cart;LSaltPrices$Road;)V"⟩, 11), (⟨"SaltPrices", "findHonestPrices", "()I"⟩, 9), (⟨"SaltPrices", "lowerEnd", "(LSaltPrices$Road;II)V"⟩, 9), (⟨"SaltPrices$Routes", "isBest", "(ILSaltPrices$Road;II)Z"⟩, 4)]
theorem lw_r1 : ∀ q ∈ lw_privs_1, lw_okq q := List.forall_mem_cons.mpr ⟨lw_p0, List.forall_mem_cons.mpr ⟨lw_p1, List.forall_mem_cons.mpr ⟨lw_p2, List.forall_mem_cons.mpr ⟨lw_p3, List.forall_mem_cons.mpr ⟨lw_p4, List.forall_mem_cons.mpr ⟨lw_p5, List.forall_mem_cons.mpr ⟨lw_p6, List.forall_mem_cons.mpr ⟨lw_p7, List.forall_mem_cons.mpr ⟨lw_p8, List.forall_mem_cons.mpr ⟨lw_p9, List.forall_mem_cons.mpr ⟨lw_p10, List.forall_mem_cons.mpr ⟨lw_p11, List.forall_mem_cons.mpr ⟨lw_p12, List.forall_mem_cons.mpr ⟨lw_p13, fun _ h => absurd h List.not_mem_nil⟩⟩⟩⟩⟩⟩⟩⟩⟩⟩⟩⟩⟩⟩
def lw_privs : List (MethodName × Nat) := lw_privs_1
def lw_tbl : List Cond := k2_sels lw_privs ++ tables_1
theorem lw_privs_ok : ∀ q ∈ lw_privs, lw_okq q := lw_r1
def RX0 : String := "SaltPrices$Cart"
def TX0 : u_T := fun k => match k with
  | 0 => ("SaltPrices$Cart", "town", "I", false)
  | 1 => ("SaltPrices$Cart", "coins", "I", false)
  | 2 => ("SaltPrices$Cart", "sacks", "I", false)
  | 3 => ("SaltPrices$Cart", "spent", "I", false)
  | 4 => ("SaltPrices$Cart", "earned", "I", false)
  | 5 => ("SaltPrices$Cart", "tolls", "I", false)
  | 6 => ("SaltPrices$Cart", "fines", "I", false)
  | _ => ("SaltPrices$Cart", "lost", "I", false)
def tyX0 : Nat → FieldType := fun k => match k with
  | 0 => .int
  | 1 => .int
  | 2 => .int
  | 3 => .int
  | 4 => .int
  | 5 => .int
  | 6 => .int
  | _ => .int
abbrev wsX00 : List Cond := u_ws RX0 TX0 8
theorem nmX0 : ∀ a, a < 8 → ∀ b, b < 8 → a ≠ b → (TX0 a).2.1 ≠ (TX0 b).2.1 := by decide +kernel
theorem tyX0_ok : ∀ k, k < 8 → parseFieldDescriptor (TX0 k).2.2.1 = some (tyX0 k) := by decide +kernel
abbrev cX0_init : ByteArray := prog_2_method_1_code
def yX0_init : MethodName := ⟨RX0, "<init>", "()V"⟩
abbrev cX0_begin : ByteArray := prog_2_method_2_code
def yX0_begin : MethodName := ⟨RX0, "begin", "(II)V"⟩
abbrev cX0_copyFrom : ByteArray := prog_2_method_3_code
def yX0_copyFrom : MethodName := ⟨RX0, "copyFrom", "(LSaltPrices$Cart;)V"⟩
def RX1 : String := "SaltPrices$History"
def TX1 : u_T := fun k => match k with
  | 0 => ("SaltPrices$History", "ring", "[LSaltPrices$World;", true)
  | 1 => ("SaltPrices$History", "oldest", "I", false)
  | _ => ("SaltPrices$History", "size", "I", false)
def tyX1 : Nat → FieldType := fun k => match k with
  | 0 => .array (.object "SaltPrices$World")
  | 1 => .int
  | _ => .int
abbrev wsX10 : List Cond := u_ws RX1 TX1 3
theorem nmX1 : ∀ a, a < 3 → ∀ b, b < 3 → a ≠ b → (TX1 a).2.1 ≠ (TX1 b).2.1 := by decide +kernel
theorem tyX1_ok : ∀ k, k < 3 → parseFieldDescriptor (TX1 k).2.2.1 = some (tyX1 k) := by decide +kernel
abbrev cX1_init : ByteArray := prog_3_method_1_code
def yX1_init : MethodName := ⟨RX1, "<init>", "()V"⟩
abbrev cX1_keepInMind : ByteArray := prog_3_method_2_code
def yX1_keepInMind : MethodName := ⟨RX1, "keepInMind", "(LSaltPrices$World;)V"⟩
abbrev cX1_record : ByteArray := prog_3_method_3_code
def yX1_record : MethodName := ⟨RX1, "record", "()V"⟩
abbrev cX1_takeBack : ByteArray := prog_3_method_4_code
def yX1_takeBack : MethodName := ⟨RX1, "takeBack", "(LSaltPrices$World;)V"⟩
abbrev cX1_placeBehind : ByteArray := prog_3_method_5_code
def yX1_placeBehind : MethodName := ⟨RX1, "placeBehind", "(I)I"⟩
def RX2 : String := "SaltPrices$Pad"
def TX2 : u_T := fun k => match k with
  | 0 => ("SaltPrices$Pad", "codes", "[I", true)
  | _ => ("SaltPrices$Pad", "length", "I", false)
def tyX2 : Nat → FieldType := fun k => match k with
  | 0 => .array .int
  | _ => .int
abbrev wsX20 : List Cond := u_ws RX2 TX2 2
theorem nmX2 : ∀ a, a < 2 → ∀ b, b < 2 → a ≠ b → (TX2 a).2.1 ≠ (TX2 b).2.1 := by decide +kernel
theorem tyX2_ok : ∀ k, k < 2 → parseFieldDescriptor (TX2 k).2.2.1 = some (tyX2 k) := by decide +kernel
abbrev cX2_init : ByteArray := prog_4_method_1_code
def yX2_init : MethodName := ⟨RX2, "<init>", "()V"⟩
def RX3 : String := "SaltPrices$Reader"
def TX3 : u_T := fun k => match k with
  | 0 => ("SaltPrices$Reader", "pad", "LSaltPrices$Pad;", true)
  | 1 => ("SaltPrices$Reader", "at", "I", false)
  | 2 => ("SaltPrices$Reader", "kind", "I", false)
  | 3 => ("SaltPrices$Reader", "first", "I", false)
  | 4 => ("SaltPrices$Reader", "second", "I", false)
  | 5 => ("SaltPrices$Reader", "amount", "I", false)
  | _ => ("SaltPrices$Reader", "value", "I", false)
def tyX3 : Nat → FieldType := fun k => match k with
  | 0 => .object "SaltPrices$Pad"
  | 1 => .int
  | 2 => .int
  | 3 => .int
  | 4 => .int
  | 5 => .int
  | _ => .int
abbrev wsX30 : List Cond := u_ws RX3 TX3 7
theorem nmX3 : ∀ a, a < 7 → ∀ b, b < 7 → a ≠ b → (TX3 a).2.1 ≠ (TX3 b).2.1 := by decide +kernel
theorem tyX3_ok : ∀ k, k < 7 → parseFieldDescriptor (TX3 k).2.2.1 = some (tyX3 k) := by decide +kernel
abbrev cX3_init : ByteArray := prog_5_method_1_code
def yX3_init : MethodName := ⟨RX3, "<init>", "(LSaltPrices$Pad;)V"⟩
def RX4 : String := "SaltPrices$Road"
def TX4 : u_T := fun k => match k with
  | 0 => ("SaltPrices$Road", "town", "I", false)
  | 1 => ("SaltPrices$Road", "other", "I", false)
  | 2 => ("SaltPrices$Road", "toll", "I", false)
  | 3 => ("SaltPrices$Road", "guards", "I", false)
  | 4 => ("SaltPrices$Road", "openTrips", "I", false)
  | _ => ("SaltPrices$Road", "hiddenTrips", "I", false)
def tyX4 : Nat → FieldType := fun k => match k with
  | 0 => .int
  | 1 => .int
  | 2 => .int
  | 3 => .int
  | 4 => .int
  | _ => .int
abbrev wsX40 : List Cond := u_ws RX4 TX4 6
theorem nmX4 : ∀ a, a < 6 → ∀ b, b < 6 → a ≠ b → (TX4 a).2.1 ≠ (TX4 b).2.1 := by decide +kernel
theorem tyX4_ok : ∀ k, k < 6 → parseFieldDescriptor (TX4 k).2.2.1 = some (tyX4 k) := by decide +kernel
abbrev cX4_init : ByteArray := prog_6_method_1_code
def yX4_init : MethodName := ⟨RX4, "<init>", "()V"⟩
abbrev cX4_begin : ByteArray := prog_6_method_2_code
def yX4_begin : MethodName := ⟨RX4, "begin", "(III)V"⟩
abbrev cX4_copyFrom : ByteArray := prog_6_method_3_code
def yX4_copyFrom : MethodName := ⟨RX4, "copyFrom", "(LSaltPrices$Road;)V"⟩
abbrev cX4_isAt : ByteArray := prog_6_method_4_code
def yX4_isAt : MethodName := ⟨RX4, "isAt", "(I)Z"⟩
abbrev cX4_farFrom : ByteArray := prog_6_method_5_code
def yX4_farFrom : MethodName := ⟨RX4, "farFrom", "(I)I"⟩
def RX5 : String := "SaltPrices$Routes"
def TX5 : u_T := fun k => match k with
  | 0 => ("SaltPrices$Routes", "openAlone", "Z", true)
  | 1 => ("SaltPrices$Routes", "worths", "[[J", true)
  | 2 => ("SaltPrices$Routes", "chances", "[I", true)
  | _ => ("SaltPrices$Routes", "fine", "J", false)
def tyX5 : Nat → FieldType := fun k => match k with
  | 0 => .boolean
  | 1 => .array (.array .long)
  | 2 => .array .int
  | _ => .long
abbrev wsX50 : List Cond := u_ws RX5 TX5 4
theorem nmX5 : ∀ a, a < 4 → ∀ b, b < 4 → a ≠ b → (TX5 a).2.1 ≠ (TX5 b).2.1 := by decide +kernel
theorem tyX5_ok : ∀ k, k < 4 → parseFieldDescriptor (TX5 k).2.2.1 = some (tyX5 k) := by decide +kernel
abbrev cX5_init : ByteArray := prog_7_method_1_code
def yX5_init : MethodName := ⟨RX5, "<init>", "(Z)V"⟩
abbrev cX5_lookAt : ByteArray := prog_7_method_2_code
def yX5_lookAt : MethodName := ⟨RX5, "lookAt", "(LSaltPrices$World;I)V"⟩
abbrev cX5_fillRow : ByteArray := prog_7_method_3_code
def yX5_fillRow : MethodName := ⟨RX5, "fillRow", "(LSaltPrices$World;I)V"⟩
abbrev cX5_raise : ByteArray := prog_7_method_4_code
def yX5_raise : MethodName := ⟨RX5, "raise", "(ILSaltPrices$Road;II)V"⟩
abbrev cX5_byWaiting : ByteArray := prog_7_method_5_code
def yX5_byWaiting : MethodName := ⟨RX5, "byWaiting", "(II)J"⟩
abbrev cX5_openly : ByteArray := prog_7_method_6_code
def yX5_openly : MethodName := ⟨RX5, "openly", "(LSaltPrices$Road;II)J"⟩
abbrev cX5_hiding : ByteArray := prog_7_method_7_code
def yX5_hiding : MethodName := ⟨RX5, "hiding", "(ILSaltPrices$Road;II)J"⟩
abbrev cX5_firstRoad : ByteArray := prog_7_method_8_code
def yX5_firstRoad : MethodName := ⟨RX5, "firstRoad", "(LSaltPrices$World;II)I"⟩
abbrev cX5_isBest : ByteArray := prog_7_method_9_code
def yX5_isBest : MethodName := ⟨RX5, "isBest", "(ILSaltPrices$Road;II)Z"⟩
abbrev cX5_isBestOpenly : ByteArray := prog_7_method_10_code
def yX5_isBestOpenly : MethodName := ⟨RX5, "isBestOpenly", "(LSaltPrices$Road;II)Z"⟩
def RX6 : String := "SaltPrices$World"
def TX6 : u_T := fun k => match k with
  | 0 => ("SaltPrices$World", "settings", "[I", true)
  | 1 => ("SaltPrices$World", "prices", "[I", true)
  | 2 => ("SaltPrices$World", "roads", "[LSaltPrices$Road;", true)
  | 3 => ("SaltPrices$World", "carts", "[LSaltPrices$Cart;", true)
  | 4 => ("SaltPrices$World", "roadCount", "I", false)
  | 5 => ("SaltPrices$World", "cartCount", "I", false)
  | 6 => ("SaltPrices$World", "drawn", "I", false)
  | 7 => ("SaltPrices$World", "sacksBought", "I", false)
  | 8 => ("SaltPrices$World", "sacksSold", "I", false)
  | 9 => ("SaltPrices$World", "sacksLost", "I", false)
  | _ => ("SaltPrices$World", "coinsBrought", "I", false)
def tyX6 : Nat → FieldType := fun k => match k with
  | 0 => .array .int
  | 1 => .array .int
  | 2 => .array (.object "SaltPrices$Road")
  | 3 => .array (.object "SaltPrices$Cart")
  | 4 => .int
  | 5 => .int
  | 6 => .int
  | 7 => .int
  | 8 => .int
  | 9 => .int
  | _ => .int
abbrev wsX60 : List Cond := u_ws RX6 TX6 11
theorem nmX6 : ∀ a, a < 11 → ∀ b, b < 11 → a ≠ b → (TX6 a).2.1 ≠ (TX6 b).2.1 := by decide +kernel
theorem tyX6_ok : ∀ k, k < 11 → parseFieldDescriptor (TX6 k).2.2.1 = some (tyX6 k) := by decide +kernel
abbrev cX6_init : ByteArray := prog_8_method_1_code
def yX6_init : MethodName := ⟨RX6, "<init>", "()V"⟩
abbrev cX6_copyFrom : ByteArray := prog_8_method_2_code
def yX6_copyFrom : MethodName := ⟨RX6, "copyFrom", "(LSaltPrices$World;)V"⟩
abbrev cX6_hasRoad : ByteArray := prog_8_method_3_code
def yX6_hasRoad : MethodName := ⟨RX6, "hasRoad", "(I)Z"⟩
abbrev cX6_hasCart : ByteArray := prog_8_method_4_code
def yX6_hasCart : MethodName := ⟨RX6, "hasCart", "(I)Z"⟩
abbrev cX6_roadsAt : ByteArray := prog_8_method_5_code
def yX6_roadsAt : MethodName := ⟨RX6, "roadsAt", "(I)I"⟩
abbrev cX6_cartsAt : ByteArray := prog_8_method_6_code
def yX6_cartsAt : MethodName := ⟨RX6, "cartsAt", "(I)I"⟩
abbrev cX6_guardsAtRoads : ByteArray := prog_8_method_7_code
def yX6_guardsAtRoads : MethodName := ⟨RX6, "guardsAtRoads", "()I"⟩
abbrev cX6_sacksOfCarts : ByteArray := prog_8_method_8_code
def yX6_sacksOfCarts : MethodName := ⟨RX6, "sacksOfCarts", "()I"⟩
abbrev cX6_coinsOfCarts : ByteArray := prog_8_method_9_code
def yX6_coinsOfCarts : MethodName := ⟨RX6, "coinsOfCarts", "()I"⟩
abbrev cX6_chanceWith : ByteArray := prog_8_method_10_code
def yX6_chanceWith : MethodName := ⟨RX6, "chanceWith", "(I)I"⟩
abbrev cX6_chanceOf : ByteArray := prog_8_method_11_code
def yX6_chanceOf : MethodName := ⟨RX6, "chanceOf", "(LSaltPrices$Road;)I"⟩
abbrev cX6_mostHidden : ByteArray := prog_8_method_12_code
def yX6_mostHidden : MethodName := ⟨RX6, "mostHidden", "(II)I"⟩
abbrev cX6_mostAtEnd : ByteArray := prog_8_method_13_code
def yX6_mostAtEnd : MethodName := ⟨RX6, "mostAtEnd", "(LSaltPrices$Road;I)I"⟩
abbrev cX6_isHonest : ByteArray := prog_8_method_14_code
def yX6_isHonest : MethodName := ⟨RX6, "isHonest", "(LSaltPrices$Road;I)Z"⟩
abbrev cX6_allHonest : ByteArray := prog_8_method_15_code
def yX6_allHonest : MethodName := ⟨RX6, "allHonest", "()Z"⟩
abbrev cX6_fineOf : ByteArray := prog_8_method_16_code
def yX6_fineOf : MethodName := ⟨RX6, "fineOf", "(LSaltPrices$Cart;)I"⟩
abbrev cX6_changeSetting : ByteArray := prog_8_method_17_code
def yX6_changeSetting : MethodName := ⟨RX6, "changeSetting", "(II)I"⟩
abbrev cX6_addRoad : ByteArray := prog_8_method_18_code
def yX6_addRoad : MethodName := ⟨RX6, "addRoad", "(III)I"⟩
abbrev cX6_changePrice : ByteArray := prog_8_method_19_code
def yX6_changePrice : MethodName := ⟨RX6, "changePrice", "(II)I"⟩
abbrev cX6_changeGuards : ByteArray := prog_8_method_20_code
def yX6_changeGuards : MethodName := ⟨RX6, "changeGuards", "(II)I"⟩
abbrev cX6_changeToll : ByteArray := prog_8_method_21_code
def yX6_changeToll : MethodName := ⟨RX6, "changeToll", "(II)I"⟩
abbrev cX6_addCart : ByteArray := prog_8_method_22_code
def yX6_addCart : MethodName := ⟨RX6, "addCart", "(II)I"⟩
abbrev cX6_buySacks : ByteArray := prog_8_method_23_code
def yX6_buySacks : MethodName := ⟨RX6, "buySacks", "(II)I"⟩
abbrev cX6_sellSacks : ByteArray := prog_8_method_24_code
def yX6_sellSacks : MethodName := ⟨RX6, "sellSacks", "(II)I"⟩
abbrev cX6_drive : ByteArray := prog_8_method_25_code
def yX6_drive : MethodName := ⟨RX6, "drive", "(III)I"⟩
abbrev cX6_payToll : ByteArray := prog_8_method_26_code
def yX6_payToll : MethodName := ⟨RX6, "payToll", "(LSaltPrices$Cart;LSaltPrices$Road;)V"⟩
abbrev cX6_sneak : ByteArray := prog_8_method_27_code
def yX6_sneak : MethodName := ⟨RX6, "sneak", "(LSaltPrices$Cart;LSaltPrices$Road;)I"⟩
abbrev cX6_draw : ByteArray := prog_8_method_28_code
def yX6_draw : MethodName := ⟨RX6, "draw", "()I"⟩
def RX7 : String := "SaltPrices"
def TX7 : u_T := fun k => match k with
  | 0 => ("SaltPrices", "world", "LSaltPrices$World;", true)
  | 1 => ("SaltPrices", "history", "LSaltPrices$History;", true)
  | 2 => ("SaltPrices", "slots", "[LSaltPrices$World;", true)
  | 3 => ("SaltPrices", "saved", "[Z", true)
  | 4 => ("SaltPrices", "pad", "LSaltPrices$Pad;", true)
  | 5 => ("SaltPrices", "reader", "LSaltPrices$Reader;", true)
  | 6 => ("SaltPrices", "allRoutes", "LSaltPrices$Routes;", true)
  | 7 => ("SaltPrices", "openRoutes", "LSaltPrices$Routes;", true)
  | _ => ("SaltPrices", "honestPrices", "[I", true)
def tyX7 : Nat → FieldType := fun k => match k with
  | 0 => .object "SaltPrices$World"
  | 1 => .object "SaltPrices$History"
  | 2 => .array (.object "SaltPrices$World")
  | 3 => .array .boolean
  | 4 => .object "SaltPrices$Pad"
  | 5 => .object "SaltPrices$Reader"
  | 6 => .object "SaltPrices$Routes"
  | 7 => .object "SaltPrices$Routes"
  | _ => .array .int
abbrev wsX70 : List Cond := u_ws RX7 TX7 9
theorem nmX7 : ∀ a, a < 9 → ∀ b, b < 9 → a ≠ b → (TX7 a).2.1 ≠ (TX7 b).2.1 := by decide +kernel
theorem tyX7_ok : ∀ k, k < 9 → parseFieldDescriptor (TX7 k).2.2.1 = some (tyX7 k) := by decide +kernel
abbrev cX7_init : ByteArray := prog_1_method_1_code
def yX7_init : MethodName := ⟨RX7, "<init>", "()V"⟩
abbrev cX7_set : ByteArray := prog_1_method_2_code
def yX7_set : MethodName := ⟨RX7, "set", "(II)I"⟩
abbrev cX7_road : ByteArray := prog_1_method_3_code
def yX7_road : MethodName := ⟨RX7, "road", "(III)I"⟩
abbrev cX7_price : ByteArray := prog_1_method_4_code
def yX7_price : MethodName := ⟨RX7, "price", "(II)I"⟩
abbrev cX7_guard : ByteArray := prog_1_method_5_code
def yX7_guard : MethodName := ⟨RX7, "guard", "(II)I"⟩
abbrev cX7_toll : ByteArray := prog_1_method_6_code
def yX7_toll : MethodName := ⟨RX7, "toll", "(II)I"⟩
abbrev cX7_makeHonest : ByteArray := prog_1_method_7_code
def yX7_makeHonest : MethodName := ⟨RX7, "makeHonest", "()I"⟩
abbrev cX7_cart : ByteArray := prog_1_method_8_code
def yX7_cart : MethodName := ⟨RX7, "cart", "(II)I"⟩
abbrev cX7_buy : ByteArray := prog_1_method_9_code
def yX7_buy : MethodName := ⟨RX7, "buy", "(II)I"⟩
abbrev cX7_sell : ByteArray := prog_1_method_10_code
def yX7_sell : MethodName := ⟨RX7, "sell", "(II)I"⟩
abbrev cX7_go : ByteArray := prog_1_method_11_code
def yX7_go : MethodName := ⟨RX7, "go", "(III)I"⟩
abbrev cX7_ofTown : ByteArray := prog_1_method_13_code
def yX7_ofTown : MethodName := ⟨RX7, "ofTown", "(II)I"⟩
abbrev cX7_ofRoad : ByteArray := prog_1_method_14_code
def yX7_ofRoad : MethodName := ⟨RX7, "ofRoad", "(II)I"⟩
abbrev cX7_ofCart : ByteArray := prog_1_method_15_code
def yX7_ofCart : MethodName := ⟨RX7, "ofCart", "(II)I"⟩
abbrev cX7_worth : ByteArray := prog_1_method_16_code
def yX7_worth : MethodName := ⟨RX7, "worth", "(III)J"⟩
abbrev cX7_count : ByteArray := prog_1_method_18_code
def yX7_count : MethodName := ⟨RX7, "count", "(I)I"⟩
abbrev cX7_step : ByteArray := prog_1_method_19_code
def yX7_step : MethodName := ⟨RX7, "step", "(II)I"⟩
abbrev cX7_fewestGuards : ByteArray := prog_1_method_20_code
def yX7_fewestGuards : MethodName := ⟨RX7, "fewestGuards", "(I)I"⟩
abbrev cX7_mostPrice : ByteArray := prog_1_method_21_code
def yX7_mostPrice : MethodName := ⟨RX7, "mostPrice", "(I)I"⟩
abbrev cX7_ifHonest : ByteArray := prog_1_method_22_code
def yX7_ifHonest : MethodName := ⟨RX7, "ifHonest", "()I"⟩
abbrev cX7_undo : ByteArray := prog_1_method_28_code
def yX7_undo : MethodName := ⟨RX7, "undo", "()I"⟩
abbrev cX7_isOutside : ByteArray := prog_1_method_31_code
def yX7_isOutside : MethodName := ⟨RX7, "isOutside", "(III)Z"⟩
abbrev cX7_isTown : ByteArray := prog_1_method_32_code
def yX7_isTown : MethodName := ⟨RX7, "isTown", "(I)Z"⟩
abbrev cX7_bit : ByteArray := prog_1_method_33_code
def yX7_bit : MethodName := ⟨RX7, "bit", "(Z)I"⟩
abbrev cX7_recorded : ByteArray := prog_1_method_34_code
def yX7_recorded : MethodName := ⟨RX7, "recorded", "(I)I"⟩
abbrev cX7_findHonestPrices : ByteArray := prog_1_method_35_code
def yX7_findHonestPrices : MethodName := ⟨RX7, "findHonestPrices", "()I"⟩
abbrev cX7_lowerEnd : ByteArray := prog_1_method_36_code
def yX7_lowerEnd : MethodName := ⟨RX7, "lowerEnd", "(LSaltPrices$Road;II)V"⟩
abbrev cX7_hidingTowns : ByteArray := prog_1_method_37_code
def yX7_hidingTowns : MethodName := ⟨RX7, "hidingTowns", "()I"⟩
def RX8 : String := "SaltPricesModel"
def TX8 : u_T := fun k => match k with
  | _ => ("", "", "", false)
def tyX8 : Nat → FieldType := fun k => match k with
  | _ => .int
abbrev wsX80 : List Cond := u_ws RX8 TX8 0
theorem nmX8 : ∀ a, a < 0 → ∀ b, b < 0 → a ≠ b → (TX8 a).2.1 ≠ (TX8 b).2.1 := by decide +kernel
theorem tyX8_ok : ∀ k, k < 0 → parseFieldDescriptor (TX8 k).2.2.1 = some (tyX8 k) := by decide +kernel
def RJ9 : String := "java/lang/Math"
def TJ9 : u_T := fun k => match k with
  | _ => ("", "", "", false)
def tyJ9 : Nat → FieldType := fun k => match k with
  | _ => .int
abbrev wsJ90 : List Cond := u_ws RJ9 TJ9 0
theorem nmJ9 : ∀ a, a < 0 → ∀ b, b < 0 → a ≠ b → (TJ9 a).2.1 ≠ (TJ9 b).2.1 := by decide +kernel
theorem tyJ9_ok : ∀ k, k < 0 → parseFieldDescriptor (TJ9 k).2.2.1 = some (tyJ9 k) := by decide +kernel
abbrev cJ9_max_f86c9 : ByteArray := prog_11_method_66_code
def yJ9_max_f86c9 : MethodName := ⟨RJ9, "max", "(JJ)J"⟩
abbrev cJ9_min_7cf53 : ByteArray := prog_11_method_69_code
def yJ9_min_7cf53 : MethodName := ⟨RJ9, "min", "(II)I"⟩
def RJ10 : String := "java/lang/System"
def TJ10 : u_T := fun k => match k with
  | _ => ("", "", "", false)
def tyJ10 : Nat → FieldType := fun k => match k with
  | _ => .int
abbrev wsJ100 : List Cond := u_ws RJ10 TJ10 0
theorem nmJ10 : ∀ a, a < 0 → ∀ b, b < 0 → a ≠ b → (TJ10 a).2.1 ≠ (TJ10 b).2.1 := by decide +kernel
theorem tyJ10_ok : ∀ k, k < 0 → parseFieldDescriptor (TJ10 k).2.2.1 = some (tyJ10 k) := by decide +kernel
def RL : String := "SaltPricesLaw"
abbrev cL_cell : ByteArray := method_2_code
def yL_cell : MethodName := ⟨RL, "cell", "([II)I"⟩
abbrev cL_low : ByteArray := method_3_code
def yL_low : MethodName := ⟨RL, "low", "(II)I"⟩
abbrev cL_act : ByteArray := method_4_code
def yL_act : MethodName := ⟨RL, "act", "(LSaltPrices;I)I"⟩
abbrev cL_areAlike : ByteArray := method_5_code
def yL_areAlike : MethodName := ⟨RL, "areAlike", "(LSaltPrices;LSaltPrices;)Z"⟩
abbrev cL_areSums : ByteArray := method_6_code
def yL_areSums : MethodName := ⟨RL, "areSums", "(LSaltPrices;)Z"⟩
abbrev cL_isWorthSo : ByteArray := method_7_code
def yL_isWorthSo : MethodName := ⟨RL, "isWorthSo", "(LSaltPrices;I)Z"⟩
abbrev cL_isHonestSo : ByteArray := method_8_code
def yL_isHonestSo : MethodName := ⟨RL, "isHonestSo", "(LSaltPrices;I)Z"⟩
abbrev cL_law : ByteArray := code
def yL_law : MethodName := ⟨RL, "law", "([I)Z"⟩
abbrev vwCl : List vw_C := [(RX0, TX0, 8), (RX1, TX1, 3), (RX2, TX2, 2), (RX3, TX3, 7), (RX4, TX4, 6), (RX5, TX5, 4), (RX6, TX6, 11), (RX7, TX7, 9)]
theorem inX0 : ∀ w ∈ wsX00, w ∈ lw_tbl := by decide +kernel
theorem inX1 : ∀ w ∈ wsX10, w ∈ lw_tbl := by decide +kernel
theorem inX2 : ∀ w ∈ wsX20, w ∈ lw_tbl := by decide +kernel
theorem inX3 : ∀ w ∈ wsX30, w ∈ lw_tbl := by decide +kernel
theorem inX4 : ∀ w ∈ wsX40, w ∈ lw_tbl := by decide +kernel
theorem inX5 : ∀ w ∈ wsX50, w ∈ lw_tbl := by decide +kernel
theorem inX6 : ∀ w ∈ wsX60, w ∈ lw_tbl := by decide +kernel
theorem inX7 : ∀ w ∈ wsX70, w ∈ lw_tbl := by decide +kernel
end
