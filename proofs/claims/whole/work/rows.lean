section
-- ===== PART A: goes FIRST, ahead of the names: the tables' words, and 'selects' of the private methods out of them =====
/-- a private method of a class that the tables say can be made, by its rows of tables_1 -/
def lw_okq (q : MethodName × Nat) : Prop := (q.1.cls ≠ "java/lang/invoke/MethodHandle" ∧ q.1.cls ≠ "java/lang/invoke/VarHandle") ∧ Cond.instantiable q.1.cls q.2 ∈ tables_1 ∧ Cond.privateMethod q.1 ∈ tables_1 ∧ Cond.instanceMethod q.1 ∈ tables_1
theorem lw_p0 : lw_okq (⟨"SaltPrices$History", "placeBehind", "(I)I"⟩, 3) := ⟨⟨by decide +kernel, by decide +kernel⟩, List.mem_of_getElem? (i := 171) (by decide +kernel), List.mem_of_getElem? (i := 299) (by decide +kernel), List.mem_of_getElem? (i := 300) (by decide +kernel)⟩
theorem lw_p1 : lw_okq (⟨"SaltPrices", "recorded", "(I)I"⟩, 9) := ⟨⟨by decide +kernel, by decide +kernel⟩, List.mem_of_getElem? (i := 13) (by decide +kernel), List.mem_of_getElem? (i := 330) (by decide +kernel), List.mem_of_getElem? (i := 331) (by decide +kernel)⟩
theorem lw_p2 : lw_okq (⟨"SaltPrices", "findHonestPrices", "()I"⟩, 9) := ⟨⟨by decide +kernel, by decide +kernel⟩, List.mem_of_getElem? (i := 13) (by decide +kernel), List.mem_of_getElem? (i := 386) (by decide +kernel), List.mem_of_getElem? (i := 387) (by decide +kernel)⟩
theorem lw_p3 : lw_okq (⟨"SaltPrices", "lowerEnd", "(LSaltPrices$Road;II)V"⟩, 9) := ⟨⟨by decide +kernel, by decide +kernel⟩, List.mem_of_getElem? (i := 13) (by decide +kernel), List.mem_of_getElem? (i := 391) (by decide +kernel), List.mem_of_getElem? (i := 392) (by decide +kernel)⟩
theorem lw_p4 : lw_okq (⟨"SaltPrices$World", "sneak", "(LSaltPrices$Cart;LSaltPrices$Road;)I"⟩, 11) := ⟨⟨by decide +kernel, by decide +kernel⟩, List.mem_of_getElem? (i := 21) (by decide +kernel), List.mem_of_getElem? (i := 463) (by decide +kernel), List.mem_of_getElem? (i := 464) (by decide +kernel)⟩
theorem lw_p5 : lw_okq (⟨"SaltPrices$World", "draw", "()I"⟩, 11) := ⟨⟨by decide +kernel, by decide +kernel⟩, List.mem_of_getElem? (i := 21) (by decide +kernel), List.mem_of_getElem? (i := 467) (by decide +kernel), List.mem_of_getElem? (i := 468) (by decide +kernel)⟩
theorem lw_p6 : lw_okq (⟨"SaltPrices$World", "payToll", "(LSaltPrices$Cart;LSaltPrices$Road;)V"⟩, 11) := ⟨⟨by decide +kernel, by decide +kernel⟩, List.mem_of_getElem? (i := 21) (by decide +kernel), List.mem_of_getElem? (i := 476) (by decide +kernel), List.mem_of_getElem? (i := 477) (by decide +kernel)⟩
theorem lw_p7 : lw_okq (⟨"SaltPrices", "hidingTowns", "()I"⟩, 9) := ⟨⟨by decide +kernel, by decide +kernel⟩, List.mem_of_getElem? (i := 13) (by decide +kernel), List.mem_of_getElem? (i := 510) (by decide +kernel), List.mem_of_getElem? (i := 511) (by decide +kernel)⟩
theorem lw_p8 : lw_okq (⟨"SaltPrices$Routes", "fillRow", "(LSaltPrices$World;I)V"⟩, 4) := ⟨⟨by decide +kernel, by decide +kernel⟩, List.mem_of_getElem? (i := 240) (by decide +kernel), List.mem_of_getElem? (i := 519) (by decide +kernel), List.mem_of_getElem? (i := 520) (by decide +kernel)⟩
theorem lw_p9 : lw_okq (⟨"SaltPrices$Routes", "byWaiting", "(II)J"⟩, 4) := ⟨⟨by decide +kernel, by decide +kernel⟩, List.mem_of_getElem? (i := 240) (by decide +kernel), List.mem_of_getElem? (i := 523) (by decide +kernel), List.mem_of_getElem? (i := 524) (by decide +kernel)⟩
theorem lw_p10 : lw_okq (⟨"SaltPrices$Routes", "raise", "(ILSaltPrices$Road;II)V"⟩, 4) := ⟨⟨by decide +kernel, by decide +kernel⟩, List.mem_of_getElem? (i := 240) (by decide +kernel), List.mem_of_getElem? (i := 528) (by decide +kernel), List.mem_of_getElem? (i := 529) (by decide +kernel)⟩
theorem lw_p11 : lw_okq (⟨"SaltPrices$Routes", "openly", "(LSaltPrices$Road;II)J"⟩, 4) := ⟨⟨by decide +kernel, by decide +kernel⟩, List.mem_of_getElem? (i := 240) (by decide +kernel), List.mem_of_getElem? (i := 532) (by decide +kernel), List.mem_of_getElem? (i := 533) (by decide +kernel)⟩
theorem lw_p12 : lw_okq (⟨"SaltPrices$Routes", "hiding", "(ILSaltPrices$Road;II)J"⟩, 4) := ⟨⟨by decide +kernel, by decide +kernel⟩, List.mem_of_getElem? (i := 240) (by decide +kernel), List.mem_of_getElem? (i := 542) (by decide +kernel), List.mem_of_getElem? (i := 543) (by decide +kernel)⟩
theorem lw_p13 : lw_okq (⟨"SaltPrices$Routes", "isBest", "(ILSaltPrices$Road;II)Z"⟩, 4) := ⟨⟨by decide +kernel, by decide +kernel⟩, List.mem_of_getElem? (i := 240) (by decide +kernel), List.mem_of_getElem? (i := 604) (by decide +kernel), List.mem_of_getElem? (i := 605) (by decide +kernel)⟩
theorem lw_p14 : lw_okq (⟨"SaltPrices$Reader", "readSubject", "()Z"⟩, 7) := ⟨⟨by decide +kernel, by decide +kernel⟩, List.mem_of_getElem? (i := 207) (by decide +kernel), List.mem_of_getElem? (i := 662) (by decide +kernel), List.mem_of_getElem? (i := 663) (by decide +kernel)⟩
theorem lw_p15 : lw_okq (⟨"SaltPrices$Reader", "readNumber", "()Z"⟩, 7) := ⟨⟨by decide +kernel, by decide +kernel⟩, List.mem_of_getElem? (i := 207) (by decide +kernel), List.mem_of_getElem? (i := 666) (by decide +kernel), List.mem_of_getElem? (i := 667) (by decide +kernel)⟩
def lw_privs_1 : List (MethodName × Nat) := [(⟨"SaltPrices$History", "placeBehind", "(I)I"⟩, 3), (⟨"SaltPrices", "recorded", "(I)I"⟩, 9), (⟨"SaltPrices", "findHonestPrices", "()I"⟩, 9), (⟨"SaltPrices", "lowerEnd", "(LSaltPrices$Road;II)V"⟩, 9), (⟨"SaltPrices$World", "sneak", "(LSaltPrices$Cart;LSaltPrices$Road;)I"⟩, 11), (⟨"SaltPrices$World", "draw", "()I"⟩, 11), (⟨"SaltPrices$World", "payToll", "(LSaltPrices$Cart;LSaltPrices$Road;)V"⟩, 11), (⟨"SaltPrices", "hidingTowns", "()I"⟩, 9), (⟨"SaltPrices$Routes", "fillRow", "(LSaltPrices$World;I)V"⟩, 4), (⟨"SaltPrices$Routes", "byWaiting", "(II)J"⟩, 4), (⟨"SaltPrices$Routes", "raise", "(ILSaltPrices$Road;II)V"⟩, 4), (⟨"SaltPrices$Routes", "openly", "(LSaltPrices$Road;II)J"⟩, 4), (⟨"SaltPrices$Routes", "hiding", "(ILSaltPrices$Road;II)J"⟩, 4), (⟨"SaltPrices$Routes", "isBest", "(ILSaltPrices$Road;II)Z"⟩, 4), (⟨"SaltPrices$Reader", "readSubject", "()Z"⟩, 7), (⟨"SaltPrices$Reader", "readNumber", "()Z"⟩, 7)]
theorem lw_r1 : ∀ q ∈ lw_privs_1, lw_okq q := List.forall_mem_cons.mpr ⟨lw_p0, List.forall_mem_cons.mpr ⟨lw_p1, List.forall_mem_cons.mpr ⟨lw_p2, List.forall_mem_cons.mpr ⟨lw_p3, List.forall_mem_cons.mpr ⟨lw_p4, List.forall_mem_cons.mpr ⟨lw_p5, List.forall_mem_cons.mpr ⟨lw_p6, List.forall_mem_cons.mpr ⟨lw_p7, List.forall_mem_cons.mpr ⟨lw_p8, List.forall_mem_cons.mpr ⟨lw_p9, List.forall_mem_cons.mpr ⟨lw_p10, List.forall_mem_cons.mpr ⟨lw_p11, List.forall_mem_cons.mpr ⟨lw_p12, List.forall_mem_cons.mpr ⟨lw_p13, List.forall_mem_cons.mpr ⟨lw_p14, List.forall_mem_cons.mpr ⟨lw_p15, fun _ h => absurd h List.not_mem_nil⟩⟩⟩⟩⟩⟩⟩⟩⟩⟩⟩⟩⟩⟩⟩⟩
theorem lw_p16 : lw_okq (⟨"SaltPrices$Reader", "readDigit", "()Z"⟩, 7) := ⟨⟨by decide +kernel, by decide +kernel⟩, List.mem_of_getElem? (i := 207) (by decide +kernel), List.mem_of_getElem? (i := 670) (by decide +kernel), List.mem_of_getElem? (i := 671) (by decide +kernel)⟩
theorem lw_p17 : lw_okq (⟨"SaltPrices$Reader", "isDigit", "()Z"⟩, 7) := ⟨⟨by decide +kernel, by decide +kernel⟩, List.mem_of_getElem? (i := 207) (by decide +kernel), List.mem_of_getElem? (i := 674) (by decide +kernel), List.mem_of_getElem? (i := 675) (by decide +kernel)⟩
theorem lw_p18 : lw_okq (⟨"SaltPrices", "obey", "()I"⟩, 9) := ⟨⟨by decide +kernel, by decide +kernel⟩, List.mem_of_getElem? (i := 13) (by decide +kernel), List.mem_of_getElem? (i := 688) (by decide +kernel), List.mem_of_getElem? (i := 689) (by decide +kernel)⟩
theorem lw_p19 : lw_okq (⟨"SaltPricesModel", "putAside", "()V"⟩, 15) := ⟨⟨by decide +kernel, by decide +kernel⟩, List.mem_of_getElem? (i := 710) (by decide +kernel), List.mem_of_getElem? (i := 766) (by decide +kernel), List.mem_of_getElem? (i := 767) (by decide +kernel)⟩
theorem lw_p20 : lw_okq (⟨"SaltPricesModel", "guards", "()I"⟩, 15) := ⟨⟨by decide +kernel, by decide +kernel⟩, List.mem_of_getElem? (i := 710) (by decide +kernel), List.mem_of_getElem? (i := 779) (by decide +kernel), List.mem_of_getElem? (i := 780) (by decide +kernel)⟩
theorem lw_p21 : lw_okq (⟨"SaltPricesModel", "becomes", "(II)I"⟩, 15) := ⟨⟨by decide +kernel, by decide +kernel⟩, List.mem_of_getElem? (i := 710) (by decide +kernel), List.mem_of_getElem? (i := 786) (by decide +kernel), List.mem_of_getElem? (i := 787) (by decide +kernel)⟩
theorem lw_p22 : lw_okq (⟨"SaltPricesModel", "changed", "(I)I"⟩, 15) := ⟨⟨by decide +kernel, by decide +kernel⟩, List.mem_of_getElem? (i := 710) (by decide +kernel), List.mem_of_getElem? (i := 790) (by decide +kernel), List.mem_of_getElem? (i := 791) (by decide +kernel)⟩
theorem lw_p23 : lw_okq (⟨"SaltPricesModel", "record", "()V"⟩, 15) := ⟨⟨by decide +kernel, by decide +kernel⟩, List.mem_of_getElem? (i := 710) (by decide +kernel), List.mem_of_getElem? (i := 794) (by decide +kernel), List.mem_of_getElem? (i := 795) (by decide +kernel)⟩
theorem lw_p24 : lw_okq (⟨"SaltPricesModel", "addsRoad", "(III)I"⟩, 15) := ⟨⟨by decide +kernel, by decide +kernel⟩, List.mem_of_getElem? (i := 710) (by decide +kernel), List.mem_of_getElem? (i := 802) (by decide +kernel), List.mem_of_getElem? (i := 803) (by decide +kernel)⟩
theorem lw_p25 : lw_okq (⟨"SaltPricesModel", "prices", "(II)I"⟩, 15) := ⟨⟨by decide +kernel, by decide +kernel⟩, List.mem_of_getElem? (i := 710) (by decide +kernel), List.mem_of_getElem? (i := 813) (by decide +kernel), List.mem_of_getElem? (i := 814) (by decide +kernel)⟩
theorem lw_p26 : lw_okq (⟨"SaltPricesModel", "setsGuards", "(II)I"⟩, 15) := ⟨⟨by decide +kernel, by decide +kernel⟩, List.mem_of_getElem? (i := 710) (by decide +kernel), List.mem_of_getElem? (i := 821) (by decide +kernel), List.mem_of_getElem? (i := 822) (by decide +kernel)⟩
theorem lw_p27 : lw_okq (⟨"SaltPricesModel", "isRoad", "(I)Z"⟩, 15) := ⟨⟨by decide +kernel, by decide +kernel⟩, List.mem_of_getElem? (i := 710) (by decide +kernel), List.mem_of_getElem? (i := 825) (by decide +kernel), List.mem_of_getElem? (i := 826) (by decide +kernel)⟩
theorem lw_p28 : lw_okq (⟨"SaltPricesModel", "makes", "()I"⟩, 15) := ⟨⟨by decide +kernel, by decide +kernel⟩, List.mem_of_getElem? (i := 710) (by decide +kernel), List.mem_of_getElem? (i := 837) (by decide +kernel), List.mem_of_getElem? (i := 838) (by decide +kernel)⟩
theorem lw_p29 : lw_okq (⟨"SaltPricesModel", "dishonest", "()I"⟩, 15) := ⟨⟨by decide +kernel, by decide +kernel⟩, List.mem_of_getElem? (i := 710) (by decide +kernel), List.mem_of_getElem? (i := 841) (by decide +kernel), List.mem_of_getElem? (i := 842) (by decide +kernel)⟩
theorem lw_p30 : lw_okq (⟨"SaltPricesModel", "isHonest", "(II)Z"⟩, 15) := ⟨⟨by decide +kernel, by decide +kernel⟩, List.mem_of_getElem? (i := 710) (by decide +kernel), List.mem_of_getElem? (i := 845) (by decide +kernel), List.mem_of_getElem? (i := 846) (by decide +kernel)⟩
theorem lw_p31 : lw_okq (⟨"SaltPricesModel", "end", "(II)I"⟩, 15) := ⟨⟨by decide +kernel, by decide +kernel⟩, List.mem_of_getElem? (i := 710) (by decide +kernel), List.mem_of_getElem? (i := 849) (by decide +kernel), List.mem_of_getElem? (i := 850) (by decide +kernel)⟩
def lw_privs_2 : List (MethodName × Nat) := [(⟨"SaltPrices$Reader", "readDigit", "()Z"⟩, 7), (⟨"SaltPrices$Reader", "isDigit", "()Z"⟩, 7), (⟨"SaltPrices", "obey", "()I"⟩, 9), (⟨"SaltPricesModel", "putAside", "()V"⟩, 15), (⟨"SaltPricesModel", "guards", "()I"⟩, 15), (⟨"SaltPricesModel", "becomes", "(II)I"⟩, 15), (⟨"SaltPricesModel", "changed", "(I)I"⟩, 15), (⟨"SaltPricesModel", "record", "()V"⟩, 15), (⟨"SaltPricesModel", "addsRoad", "(III)I"⟩, 15), (⟨"SaltPricesModel", "prices", "(II)I"⟩, 15), (⟨"SaltPricesModel", "setsGuards", "(II)I"⟩, 15), (⟨"SaltPricesModel", "isRoad", "(I)Z"⟩, 15), (⟨"SaltPricesModel", "makes", "()I"⟩, 15), (⟨"SaltPricesModel", "dishonest", "()I"⟩, 15), (⟨"SaltPricesModel", "isHonest", "(II)Z"⟩, 15), (⟨"SaltPricesModel", "end", "(II)I"⟩, 15)]
theorem lw_r2 : ∀ q ∈ lw_privs_2, lw_okq q := List.forall_mem_cons.mpr ⟨lw_p16, List.forall_mem_cons.mpr ⟨lw_p17, List.forall_mem_cons.mpr ⟨lw_p18, List.forall_mem_cons.mpr ⟨lw_p19, List.forall_mem_cons.mpr ⟨lw_p20, List.forall_mem_cons.mpr ⟨lw_p21, List.forall_mem_cons.mpr ⟨lw_p22, List.forall_mem_cons.mpr ⟨lw_p23, List.forall_mem_cons.mpr ⟨lw_p24, List.forall_mem_cons.mpr ⟨lw_p25, List.forall_mem_cons.mpr ⟨lw_p26, List.forall_mem_cons.mpr ⟨lw_p27, List.forall_mem_cons.mpr ⟨lw_p28, List.forall_mem_cons.mpr ⟨lw_p29, List.forall_mem_cons.mpr ⟨lw_p30, List.forall_mem_cons.mpr ⟨lw_p31, fun _ h => absurd h List.not_mem_nil⟩⟩⟩⟩⟩⟩⟩⟩⟩⟩⟩⟩⟩⟩⟩⟩
theorem lw_p32 : lw_okq (⟨"SaltPricesModel", "mostAt", "(II)I"⟩, 15) := ⟨⟨by decide +kernel, by decide +kernel⟩, List.mem_of_getElem? (i := 710) (by decide +kernel), List.mem_of_getElem? (i := 853) (by decide +kernel), List.mem_of_getElem? (i := 854) (by decide +kernel)⟩
theorem lw_p33 : lw_okq (⟨"SaltPricesModel", "chanceOf", "(I)I"⟩, 15) := ⟨⟨by decide +kernel, by decide +kernel⟩, List.mem_of_getElem? (i := 710) (by decide +kernel), List.mem_of_getElem? (i := 857) (by decide +kernel), List.mem_of_getElem? (i := 858) (by decide +kernel)⟩
theorem lw_p34 : lw_okq (⟨"SaltPricesModel", "chanceBy", "(I)I"⟩, 15) := ⟨⟨by decide +kernel, by decide +kernel⟩, List.mem_of_getElem? (i := 710) (by decide +kernel), List.mem_of_getElem? (i := 861) (by decide +kernel), List.mem_of_getElem? (i := 862) (by decide +kernel)⟩
theorem lw_p35 : lw_okq (⟨"SaltPricesModel", "mostHidden", "(II)I"⟩, 15) := ⟨⟨by decide +kernel, by decide +kernel⟩, List.mem_of_getElem? (i := 710) (by decide +kernel), List.mem_of_getElem? (i := 865) (by decide +kernel), List.mem_of_getElem? (i := 866) (by decide +kernel)⟩
theorem lw_p36 : lw_okq (⟨"SaltPricesModel", "addsCart", "(II)I"⟩, 15) := ⟨⟨by decide +kernel, by decide +kernel⟩, List.mem_of_getElem? (i := 710) (by decide +kernel), List.mem_of_getElem? (i := 873) (by decide +kernel), List.mem_of_getElem? (i := 874) (by decide +kernel)⟩
theorem lw_p37 : lw_okq (⟨"SaltPricesModel", "buys", "(II)I"⟩, 15) := ⟨⟨by decide +kernel, by decide +kernel⟩, List.mem_of_getElem? (i := 710) (by decide +kernel), List.mem_of_getElem? (i := 885) (by decide +kernel), List.mem_of_getElem? (i := 886) (by decide +kernel)⟩
theorem lw_p38 : lw_okq (⟨"SaltPricesModel", "isCart", "(I)Z"⟩, 15) := ⟨⟨by decide +kernel, by decide +kernel⟩, List.mem_of_getElem? (i := 710) (by decide +kernel), List.mem_of_getElem? (i := 889) (by decide +kernel), List.mem_of_getElem? (i := 890) (by decide +kernel)⟩
theorem lw_p39 : lw_okq (⟨"SaltPricesModel", "sells", "(II)I"⟩, 15) := ⟨⟨by decide +kernel, by decide +kernel⟩, List.mem_of_getElem? (i := 710) (by decide +kernel), List.mem_of_getElem? (i := 897) (by decide +kernel), List.mem_of_getElem? (i := 898) (by decide +kernel)⟩
theorem lw_p40 : lw_okq (⟨"SaltPricesModel", "goes", "(III)I"⟩, 15) := ⟨⟨by decide +kernel, by decide +kernel⟩, List.mem_of_getElem? (i := 710) (by decide +kernel), List.mem_of_getElem? (i := 905) (by decide +kernel), List.mem_of_getElem? (i := 906) (by decide +kernel)⟩
theorem lw_p41 : lw_okq (⟨"SaltPricesModel", "endOf", "(II)I"⟩, 15) := ⟨⟨by decide +kernel, by decide +kernel⟩, List.mem_of_getElem? (i := 710) (by decide +kernel), List.mem_of_getElem? (i := 909) (by decide +kernel), List.mem_of_getElem? (i := 910) (by decide +kernel)⟩
theorem lw_p42 : lw_okq (⟨"SaltPricesModel", "sneaks", "(II)I"⟩, 15) := ⟨⟨by decide +kernel, by decide +kernel⟩, List.mem_of_getElem? (i := 710) (by decide +kernel), List.mem_of_getElem? (i := 913) (by decide +kernel), List.mem_of_getElem? (i := 914) (by decide +kernel)⟩
theorem lw_p43 : lw_okq (⟨"SaltPricesModel", "fineFor", "(I)I"⟩, 15) := ⟨⟨by decide +kernel, by decide +kernel⟩, List.mem_of_getElem? (i := 710) (by decide +kernel), List.mem_of_getElem? (i := 918) (by decide +kernel), List.mem_of_getElem? (i := 919) (by decide +kernel)⟩
theorem lw_p44 : lw_okq (⟨"SaltPricesModel", "pads", "(I)V"⟩, 15) := ⟨⟨by decide +kernel, by decide +kernel⟩, List.mem_of_getElem? (i := 710) (by decide +kernel), List.mem_of_getElem? (i := 926) (by decide +kernel), List.mem_of_getElem? (i := 927) (by decide +kernel)⟩
theorem lw_p45 : lw_okq (⟨"SaltPricesModel", "setAt", "(II)I"⟩, 15) := ⟨⟨by decide +kernel, by decide +kernel⟩, List.mem_of_getElem? (i := 710) (by decide +kernel), List.mem_of_getElem? (i := 934) (by decide +kernel), List.mem_of_getElem? (i := 935) (by decide +kernel)⟩
theorem lw_p46 : lw_okq (⟨"SaltPricesModel", "pays", "(I)Z"⟩, 15) := ⟨⟨by decide +kernel, by decide +kernel⟩, List.mem_of_getElem? (i := 710) (by decide +kernel), List.mem_of_getElem? (i := 938) (by decide +kernel), List.mem_of_getElem? (i := 939) (by decide +kernel)⟩
theorem lw_p47 : lw_okq (⟨"SaltPricesModel", "worthOf", "(IIZ)J"⟩, 15) := ⟨⟨by decide +kernel, by decide +kernel⟩, List.mem_of_getElem? (i := 710) (by decide +kernel), List.mem_of_getElem? (i := 942) (by decide +kernel), List.mem_of_getElem? (i := 943) (by decide +kernel)⟩
def lw_privs_3 : List (MethodName × Nat) := [(⟨"SaltPricesModel", "mostAt", "(II)I"⟩, 15), (⟨"SaltPricesModel", "chanceOf", "(I)I"⟩, 15), (⟨"SaltPricesModel", "chanceBy", "(I)I"⟩, 15), (⟨"SaltPricesModel", "mostHidden", "(II)I"⟩, 15), (⟨"SaltPricesModel", "addsCart", "(II)I"⟩, 15), (⟨"SaltPricesModel", "buys", "(II)I"⟩, 15), (⟨"SaltPricesModel", "isCart", "(I)Z"⟩, 15), (⟨"SaltPricesModel", "sells", "(II)I"⟩, 15), (⟨"SaltPricesModel", "goes", "(III)I"⟩, 15), (⟨"SaltPricesModel", "endOf", "(II)I"⟩, 15), (⟨"SaltPricesModel", "sneaks", "(II)I"⟩, 15), (⟨"SaltPricesModel", "fineFor", "(I)I"⟩, 15), (⟨"SaltPricesModel", "pads", "(I)V"⟩, 15), (⟨"SaltPricesModel", "setAt", "(II)I"⟩, 15), (⟨"SaltPricesModel", "pays", "(I)Z"⟩, 15), (⟨"SaltPricesModel", "worthOf", "(IIZ)J"⟩, 15)]
theorem lw_r3 : ∀ q ∈ lw_privs_3, lw_okq q := List.forall_mem_cons.mpr ⟨lw_p32, List.forall_mem_cons.mpr ⟨lw_p33, List.forall_mem_cons.mpr ⟨lw_p34, List.forall_mem_cons.mpr ⟨lw_p35, List.forall_mem_cons.mpr ⟨lw_p36, List.forall_mem_cons.mpr ⟨lw_p37, List.forall_mem_cons.mpr ⟨lw_p38, List.forall_mem_cons.mpr ⟨lw_p39, List.forall_mem_cons.mpr ⟨lw_p40, List.forall_mem_cons.mpr ⟨lw_p41, List.forall_mem_cons.mpr ⟨lw_p42, List.forall_mem_cons.mpr ⟨lw_p43, List.forall_mem_cons.mpr ⟨lw_p44, List.forall_mem_cons.mpr ⟨lw_p45, List.forall_mem_cons.mpr ⟨lw_p46, List.forall_mem_cons.mpr ⟨lw_p47, fun _ h => absurd h List.not_mem_nil⟩⟩⟩⟩⟩⟩⟩⟩⟩⟩⟩⟩⟩⟩⟩⟩
theorem lw_p48 : lw_okq (⟨"SaltPricesModel", "workOut", "(IZ)V"⟩, 15) := ⟨⟨by decide +kernel, by decide +kernel⟩, List.mem_of_getElem? (i := 710) (by decide +kernel), List.mem_of_getElem? (i := 946) (by decide +kernel), List.mem_of_getElem? (i := 947) (by decide +kernel)⟩
theorem lw_p49 : lw_okq (⟨"SaltPricesModel", "by", "(IIIZ)J"⟩, 15) := ⟨⟨by decide +kernel, by decide +kernel⟩, List.mem_of_getElem? (i := 710) (by decide +kernel), List.mem_of_getElem? (i := 951) (by decide +kernel), List.mem_of_getElem? (i := 952) (by decide +kernel)⟩
theorem lw_p50 : lw_okq (⟨"SaltPricesModel", "ofCarts", "(I)I"⟩, 15) := ⟨⟨by decide +kernel, by decide +kernel⟩, List.mem_of_getElem? (i := 710) (by decide +kernel), List.mem_of_getElem? (i := 980) (by decide +kernel), List.mem_of_getElem? (i := 981) (by decide +kernel)⟩
theorem lw_p51 : lw_okq (⟨"SaltPricesModel", "payingTowns", "()I"⟩, 15) := ⟨⟨by decide +kernel, by decide +kernel⟩, List.mem_of_getElem? (i := 710) (by decide +kernel), List.mem_of_getElem? (i := 984) (by decide +kernel), List.mem_of_getElem? (i := 985) (by decide +kernel)⟩
theorem lw_p52 : lw_okq (⟨"SaltPricesModel", "isBound", "(III)Z"⟩, 15) := ⟨⟨by decide +kernel, by decide +kernel⟩, List.mem_of_getElem? (i := 710) (by decide +kernel), List.mem_of_getElem? (i := 996) (by decide +kernel), List.mem_of_getElem? (i := 997) (by decide +kernel)⟩
theorem lw_p53 : lw_okq (⟨"SaltPricesModel", "putBack", "()V"⟩, 15) := ⟨⟨by decide +kernel, by decide +kernel⟩, List.mem_of_getElem? (i := 710) (by decide +kernel), List.mem_of_getElem? (i := 1008) (by decide +kernel), List.mem_of_getElem? (i := 1009) (by decide +kernel)⟩
theorem lw_p54 : lw_okq (⟨"SaltPricesModel", "goesThrough", "(Z)I"⟩, 15) := ⟨⟨by decide +kernel, by decide +kernel⟩, List.mem_of_getElem? (i := 710) (by decide +kernel), List.mem_of_getElem? (i := 1029) (by decide +kernel), List.mem_of_getElem? (i := 1030) (by decide +kernel)⟩
theorem lw_p55 : lw_okq (⟨"SaltPricesModel", "readOrder", "()V"⟩, 15) := ⟨⟨by decide +kernel, by decide +kernel⟩, List.mem_of_getElem? (i := 710) (by decide +kernel), List.mem_of_getElem? (i := 1033) (by decide +kernel), List.mem_of_getElem? (i := 1034) (by decide +kernel)⟩
theorem lw_p56 : lw_okq (⟨"SaltPricesModel", "number", "()I"⟩, 15) := ⟨⟨by decide +kernel, by decide +kernel⟩, List.mem_of_getElem? (i := 710) (by decide +kernel), List.mem_of_getElem? (i := 1040) (by decide +kernel), List.mem_of_getElem? (i := 1041) (by decide +kernel)⟩
theorem lw_p57 : lw_okq (⟨"SaltPricesModel", "digit", "()I"⟩, 15) := ⟨⟨by decide +kernel, by decide +kernel⟩, List.mem_of_getElem? (i := 710) (by decide +kernel), List.mem_of_getElem? (i := 1044) (by decide +kernel), List.mem_of_getElem? (i := 1045) (by decide +kernel)⟩
theorem lw_p58 : lw_okq (⟨"SaltPricesModel", "takes", "(II)I"⟩, 15) := ⟨⟨by decide +kernel, by decide +kernel⟩, List.mem_of_getElem? (i := 710) (by decide +kernel), List.mem_of_getElem? (i := 1048) (by decide +kernel), List.mem_of_getElem? (i := 1049) (by decide +kernel)⟩
theorem lw_p59 : lw_okq (⟨"SaltPricesModel", "does", "()I"⟩, 15) := ⟨⟨by decide +kernel, by decide +kernel⟩, List.mem_of_getElem? (i := 710) (by decide +kernel), List.mem_of_getElem? (i := 1055) (by decide +kernel), List.mem_of_getElem? (i := 1056) (by decide +kernel)⟩
def lw_privs_4 : List (MethodName × Nat) := [(⟨"SaltPricesModel", "workOut", "(IZ)V"⟩, 15), (⟨"SaltPricesModel", "by", "(IIIZ)J"⟩, 15), (⟨"SaltPricesModel", "ofCarts", "(I)I"⟩, 15), (⟨"SaltPricesModel", "payingTowns", "()I"⟩, 15), (⟨"SaltPricesModel", "isBound", "(III)Z"⟩, 15), (⟨"SaltPricesModel", "putBack", "()V"⟩, 15), (⟨"SaltPricesModel", "goesThrough", "(Z)I"⟩, 15), (⟨"SaltPricesModel", "readOrder", "()V"⟩, 15), (⟨"SaltPricesModel", "number", "()I"⟩, 15), (⟨"SaltPricesModel", "digit", "()I"⟩, 15), (⟨"SaltPricesModel", "takes", "(II)I"⟩, 15), (⟨"SaltPricesModel", "does", "()I"⟩, 15)]
theorem lw_r4 : ∀ q ∈ lw_privs_4, lw_okq q := List.forall_mem_cons.mpr ⟨lw_p48, List.forall_mem_cons.mpr ⟨lw_p49, List.forall_mem_cons.mpr ⟨lw_p50, List.forall_mem_cons.mpr ⟨lw_p51, List.forall_mem_cons.mpr ⟨lw_p52, List.forall_mem_cons.mpr ⟨lw_p53, List.forall_mem_cons.mpr ⟨lw_p54, List.forall_mem_cons.mpr ⟨lw_p55, List.forall_mem_cons.mpr ⟨lw_p56, List.forall_mem_cons.mpr ⟨lw_p57, List.forall_mem_cons.mpr ⟨lw_p58, List.forall_mem_cons.mpr ⟨lw_p59, fun _ h => absurd h List.not_mem_nil⟩⟩⟩⟩⟩⟩⟩⟩⟩⟩⟩⟩
def lw_privs : List (MethodName × Nat) := lw_privs_1 ++ (lw_privs_2 ++ (lw_privs_3 ++ (lw_privs_4)))
def lw_tbl : List Cond := k2_sels lw_privs ++ tables_1
theorem lw_privs_ok : ∀ q ∈ lw_privs, lw_okq q := by
  show ∀ q ∈ lw_privs_1 ++ (lw_privs_2 ++ (lw_privs_3 ++ (lw_privs_4))), lw_okq q
  exact List.forall_mem_append.mpr ⟨lw_r1, List.forall_mem_append.mpr ⟨lw_r2, List.forall_mem_append.mpr ⟨lw_r3, lw_r4⟩⟩⟩
def RX0 : String := "SaltPrices$Cart"
def TX0 : u_T := fun k => match k with
  | 0 => ("SaltPrices$Cart", "town", "I", false)
  | 1 => ("SaltPrices$Cart", "coins", "I", false)
  | 2 => ("SaltPrices$Cart", "sacks", "I", false)
  | 3 => ("SaltPrices$Cart", "spent", "I", false)
  | 4 => ("SaltPrices$Cart", "earned", "I", false)
  | 5 => ("SaltPrices$Cart", "tolls", "I", false)
  | 6 => ("SaltPrices$Cart", "fines", "I", false)
  | _ => ("SaltPrices$Cart", "lost", "I", false)
def tyX0 : Nat → FieldType := fun k => match k with
  | 0 => .int
  | 1 => .int
  | 2 => .int
  | 3 => .int
  | 4 => .int
  | 5 => .int
  | 6 => .int
  | _ => .int
abbrev wsX00 : List Cond := u_ws RX0 TX0 8
theorem nmX0 : ∀ a, a < 8 → ∀ b, b < 8 → a ≠ b → (TX0 a).2.1 ≠ (TX0 b).2.1 := by decide +kernel
theorem tyX0_ok : ∀ k, k < 8 → parseFieldDescriptor (TX0 k).2.2.1 = some (tyX0 k) := by decide +kernel
abbrev cX0_init : ByteArray := prog_2_method_1_code
def yX0_init : MethodName := ⟨RX0, "<init>", "()V"⟩
abbrev cX0_begin : ByteArray := prog_2_method_2_code
def yX0_begin : MethodName := ⟨RX0, "begin", "(II)V"⟩
abbrev cX0_copyFrom : ByteArray := prog_2_method_3_code
def yX0_copyFrom : MethodName := ⟨RX0, "copyFrom", "(LSaltPrices$Cart;)V"⟩
def RX1 : String := "SaltPrices$History"
def TX1 : u_T := fun k => match k with
  | 0 => ("SaltPrices$History", "ring", "[LSaltPrices$World;", true)
  | 1 => ("SaltPrices$History", "oldest", "I", false)
  | _ => ("SaltPrices$History", "size", "I", false)
def tyX1 : Nat → FieldType := fun k => match k with
  | 0 => .array (.object "SaltPrices$World")
  | 1 => .int
  | _ => .int
abbrev wsX10 : List Cond := u_ws RX1 TX1 3
theorem nmX1 : ∀ a, a < 3 → ∀ b, b < 3 → a ≠ b → (TX1 a).2.1 ≠ (TX1 b).2.1 := by decide +kernel
theorem tyX1_ok : ∀ k, k < 3 → parseFieldDescriptor (TX1 k).2.2.1 = some (tyX1 k) := by decide +kernel
abbrev cX1_init : ByteArray := prog_3_method_1_code
def yX1_init : MethodName := ⟨RX1, "<init>", "()V"⟩
abbrev cX1_keepInMind : ByteArray := prog_3_method_2_code
def yX1_keepInMind : MethodName := ⟨RX1, "keepInMind", "(LSaltPrices$World;)V"⟩
abbrev cX1_record : ByteArray := prog_3_method_3_code
def yX1_record : MethodName := ⟨RX1, "record", "()V"⟩
abbrev cX1_takeBack : ByteArray := prog_3_method_4_code
def yX1_takeBack : MethodName := ⟨RX1, "takeBack", "(LSaltPrices$World;)V"⟩
abbrev cX1_placeBehind : ByteArray := prog_3_method_5_code
def yX1_placeBehind : MethodName := ⟨RX1, "placeBehind", "(I)I"⟩
def RX2 : String := "SaltPrices$Pad"
def TX2 : u_T := fun k => match k with
  | 0 => ("SaltPrices$Pad", "codes", "[I", true)
  | _ => ("SaltPrices$Pad", "length", "I", false)
def tyX2 : Nat → FieldType := fun k => match k with
  | 0 => .array .int
  | _ => .int
abbrev wsX20 : List Cond := u_ws RX2 TX2 2
theorem nmX2 : ∀ a, a < 2 → ∀ b, b < 2 → a ≠ b → (TX2 a).2.1 ≠ (TX2 b).2.1 := by decide +kernel
theorem tyX2_ok : ∀ k, k < 2 → parseFieldDescriptor (TX2 k).2.2.1 = some (tyX2 k) := by decide +kernel
abbrev cX2_init : ByteArray := prog_4_method_1_code
def yX2_init : MethodName := ⟨RX2, "<init>", "()V"⟩
abbrev cX2_codeAt : ByteArray := prog_4_method_2_code
def yX2_codeAt : MethodName := ⟨RX2, "codeAt", "(I)I"⟩
abbrev cX2_append : ByteArray := prog_4_method_3_code
def yX2_append : MethodName := ⟨RX2, "append", "(I)V"⟩
abbrev cX2_appendPrice : ByteArray := prog_4_method_4_code
def yX2_appendPrice : MethodName := ⟨RX2, "appendPrice", "(I)V"⟩
def RX3 : String := "SaltPrices$Reader"
def TX3 : u_T := fun k => match k with
  | 0 => ("SaltPrices$Reader", "pad", "LSaltPrices$Pad;", true)
  | 1 => ("SaltPrices$Reader", "at", "I", false)
  | 2 => ("SaltPrices$Reader", "kind", "I", false)
  | 3 => ("SaltPrices$Reader", "first", "I", false)
  | 4 => ("SaltPrices$Reader", "second", "I", false)
  | 5 => ("SaltPrices$Reader", "amount", "I", false)
  | _ => ("SaltPrices$Reader", "value", "I", false)
def tyX3 : Nat → FieldType := fun k => match k with
  | 0 => .object "SaltPrices$Pad"
  | 1 => .int
  | 2 => .int
  | 3 => .int
  | 4 => .int
  | 5 => .int
  | _ => .int
abbrev wsX30 : List Cond := u_ws RX3 TX3 7
theorem nmX3 : ∀ a, a < 7 → ∀ b, b < 7 → a ≠ b → (TX3 a).2.1 ≠ (TX3 b).2.1 := by decide +kernel
theorem tyX3_ok : ∀ k, k < 7 → parseFieldDescriptor (TX3 k).2.2.1 = some (tyX3 k) := by decide +kernel
abbrev cX3_init : ByteArray := prog_5_method_1_code
def yX3_init : MethodName := ⟨RX3, "<init>", "(LSaltPrices$Pad;)V"⟩
abbrev cX3_findFault : ByteArray := prog_5_method_2_code
def yX3_findFault : MethodName := ⟨RX3, "findFault", "()I"⟩
abbrev cX3_readOrder : ByteArray := prog_5_method_3_code
def yX3_readOrder : MethodName := ⟨RX3, "readOrder", "()Z"⟩
abbrev cX3_readSign : ByteArray := prog_5_method_4_code
def yX3_readSign : MethodName := ⟨RX3, "readSign", "(I)Z"⟩
abbrev cX3_markOf : ByteArray := prog_5_method_5_code
def yX3_markOf : MethodName := ⟨RX3, "markOf", "(I)I"⟩
abbrev cX3_readSubject : ByteArray := prog_5_method_6_code
def yX3_readSubject : MethodName := ⟨RX3, "readSubject", "()Z"⟩
abbrev cX3_readDigit : ByteArray := prog_5_method_7_code
def yX3_readDigit : MethodName := ⟨RX3, "readDigit", "()Z"⟩
abbrev cX3_readNumber : ByteArray := prog_5_method_8_code
def yX3_readNumber : MethodName := ⟨RX3, "readNumber", "()Z"⟩
abbrev cX3_isDigit : ByteArray := prog_5_method_9_code
def yX3_isDigit : MethodName := ⟨RX3, "isDigit", "()Z"⟩
def RX4 : String := "SaltPrices$Road"
def TX4 : u_T := fun k => match k with
  | 0 => ("SaltPrices$Road", "town", "I", false)
  | 1 => ("SaltPrices$Road", "other", "I", false)
  | 2 => ("SaltPrices$Road", "toll", "I", false)
  | 3 => ("SaltPrices$Road", "guards", "I", false)
  | 4 => ("SaltPrices$Road", "openTrips", "I", false)
  | _ => ("SaltPrices$Road", "hiddenTrips", "I", false)
def tyX4 : Nat → FieldType := fun k => match k with
  | 0 => .int
  | 1 => .int
  | 2 => .int
  | 3 => .int
  | 4 => .int
  | _ => .int
abbrev wsX40 : List Cond := u_ws RX4 TX4 6
theorem nmX4 : ∀ a, a < 6 → ∀ b, b < 6 → a ≠ b → (TX4 a).2.1 ≠ (TX4 b).2.1 := by decide +kernel
theorem tyX4_ok : ∀ k, k < 6 → parseFieldDescriptor (TX4 k).2.2.1 = some (tyX4 k) := by decide +kernel
abbrev cX4_init : ByteArray := prog_6_method_1_code
def yX4_init : MethodName := ⟨RX4, "<init>", "()V"⟩
abbrev cX4_begin : ByteArray := prog_6_method_2_code
def yX4_begin : MethodName := ⟨RX4, "begin", "(III)V"⟩
abbrev cX4_copyFrom : ByteArray := prog_6_method_3_code
def yX4_copyFrom : MethodName := ⟨RX4, "copyFrom", "(LSaltPrices$Road;)V"⟩
abbrev cX4_isAt : ByteArray := prog_6_method_4_code
def yX4_isAt : MethodName := ⟨RX4, "isAt", "(I)Z"⟩
abbrev cX4_farFrom : ByteArray := prog_6_method_5_code
def yX4_farFrom : MethodName := ⟨RX4, "farFrom", "(I)I"⟩
def RX5 : String := "SaltPrices$Routes"
def TX5 : u_T := fun k => match k with
  | 0 => ("SaltPrices$Routes", "openAlone", "Z", true)
  | 1 => ("SaltPrices$Routes", "worths", "[[J", true)
  | 2 => ("SaltPrices$Routes", "chances", "[I", true)
  | _ => ("SaltPrices$Routes", "fine", "J", false)
def tyX5 : Nat → FieldType := fun k => match k with
  | 0 => .boolean
  | 1 => .array (.array .long)
  | 2 => .array .int
  | _ => .long
abbrev wsX50 : List Cond := u_ws RX5 TX5 4
theorem nmX5 : ∀ a, a < 4 → ∀ b, b < 4 → a ≠ b → (TX5 a).2.1 ≠ (TX5 b).2.1 := by decide +kernel
theorem tyX5_ok : ∀ k, k < 4 → parseFieldDescriptor (TX5 k).2.2.1 = some (tyX5 k) := by decide +kernel
abbrev cX5_init : ByteArray := prog_7_method_1_code
def yX5_init : MethodName := ⟨RX5, "<init>", "(Z)V"⟩
abbrev cX5_lookAt : ByteArray := prog_7_method_2_code
def yX5_lookAt : MethodName := ⟨RX5, "lookAt", "(LSaltPrices$World;I)V"⟩
abbrev cX5_fillRow : ByteArray := prog_7_method_3_code
def yX5_fillRow : MethodName := ⟨RX5, "fillRow", "(LSaltPrices$World;I)V"⟩
abbrev cX5_raise : ByteArray := prog_7_method_4_code
def yX5_raise : MethodName := ⟨RX5, "raise", "(ILSaltPrices$Road;II)V"⟩
abbrev cX5_byWaiting : ByteArray := prog_7_method_5_code
def yX5_byWaiting : MethodName := ⟨RX5, "byWaiting", "(II)J"⟩
abbrev cX5_openly : ByteArray := prog_7_method_6_code
def yX5_openly : MethodName := ⟨RX5, "openly", "(LSaltPrices$Road;II)J"⟩
abbrev cX5_hiding : ByteArray := prog_7_method_7_code
def yX5_hiding : MethodName := ⟨RX5, "hiding", "(ILSaltPrices$Road;II)J"⟩
abbrev cX5_firstRoad : ByteArray := prog_7_method_8_code
def yX5_firstRoad : MethodName := ⟨RX5, "firstRoad", "(LSaltPrices$World;II)I"⟩
abbrev cX5_isBest : ByteArray := prog_7_method_9_code
def yX5_isBest : MethodName := ⟨RX5, "isBest", "(ILSaltPrices$Road;II)Z"⟩
abbrev cX5_isBestOpenly : ByteArray := prog_7_method_10_code
def yX5_isBestOpenly : MethodName := ⟨RX5, "isBestOpenly", "(LSaltPrices$Road;II)Z"⟩
def RX6 : String := "SaltPrices$World"
def TX6 : u_T := fun k => match k with
  | 0 => ("SaltPrices$World", "settings", "[I", true)
  | 1 => ("SaltPrices$World", "prices", "[I", true)
  | 2 => ("SaltPrices$World", "roads", "[LSaltPrices$Road;", true)
  | 3 => ("SaltPrices$World", "carts", "[LSaltPrices$Cart;", true)
  | 4 => ("SaltPrices$World", "roadCount", "I", false)
  | 5 => ("SaltPrices$World", "cartCount", "I", false)
  | 6 => ("SaltPrices$World", "drawn", "I", false)
  | 7 => ("SaltPrices$World", "sacksBought", "I", false)
  | 8 => ("SaltPrices$World", "sacksSold", "I", false)
  | 9 => ("SaltPrices$World", "sacksLost", "I", false)
  | _ => ("SaltPrices$World", "coinsBrought", "I", false)
def tyX6 : Nat → FieldType := fun k => match k with
  | 0 => .array .int
  | 1 => .array .int
  | 2 => .array (.object "SaltPrices$Road")
  | 3 => .array (.object "SaltPrices$Cart")
  | 4 => .int
  | 5 => .int
  | 6 => .int
  | 7 => .int
  | 8 => .int
  | 9 => .int
  | _ => .int
abbrev wsX60 : List Cond := u_ws RX6 TX6 11
theorem nmX6 : ∀ a, a < 11 → ∀ b, b < 11 → a ≠ b → (TX6 a).2.1 ≠ (TX6 b).2.1 := by decide +kernel
theorem tyX6_ok : ∀ k, k < 11 → parseFieldDescriptor (TX6 k).2.2.1 = some (tyX6 k) := by decide +kernel
abbrev cX6_init : ByteArray := prog_8_method_1_code
def yX6_init : MethodName := ⟨RX6, "<init>", "()V"⟩
abbrev cX6_copyFrom : ByteArray := prog_8_method_2_code
def yX6_copyFrom : MethodName := ⟨RX6, "copyFrom", "(LSaltPrices$World;)V"⟩
abbrev cX6_hasRoad : ByteArray := prog_8_method_3_code
def yX6_hasRoad : MethodName := ⟨RX6, "hasRoad", "(I)Z"⟩
abbrev cX6_hasCart : ByteArray := prog_8_method_4_code
def yX6_hasCart : MethodName := ⟨RX6, "hasCart", "(I)Z"⟩
abbrev cX6_roadsAt : ByteArray := prog_8_method_5_code
def yX6_roadsAt : MethodName := ⟨RX6, "roadsAt", "(I)I"⟩
abbrev cX6_cartsAt : ByteArray := prog_8_method_6_code
def yX6_cartsAt : MethodName := ⟨RX6, "cartsAt", "(I)I"⟩
abbrev cX6_guardsAtRoads : ByteArray := prog_8_method_7_code
def yX6_guardsAtRoads : MethodName := ⟨RX6, "guardsAtRoads", "()I"⟩
abbrev cX6_sacksOfCarts : ByteArray := prog_8_method_8_code
def yX6_sacksOfCarts : MethodName := ⟨RX6, "sacksOfCarts", "()I"⟩
abbrev cX6_coinsOfCarts : ByteArray := prog_8_method_9_code
def yX6_coinsOfCarts : MethodName := ⟨RX6, "coinsOfCarts", "()I"⟩
abbrev cX6_chanceWith : ByteArray := prog_8_method_10_code
def yX6_chanceWith : MethodName := ⟨RX6, "chanceWith", "(I)I"⟩
abbrev cX6_chanceOf : ByteArray := prog_8_method_11_code
def yX6_chanceOf : MethodName := ⟨RX6, "chanceOf", "(LSaltPrices$Road;)I"⟩
abbrev cX6_mostHidden : ByteArray := prog_8_method_12_code
def yX6_mostHidden : MethodName := ⟨RX6, "mostHidden", "(II)I"⟩
abbrev cX6_mostAtEnd : ByteArray := prog_8_method_13_code
def yX6_mostAtEnd : MethodName := ⟨RX6, "mostAtEnd", "(LSaltPrices$Road;I)I"⟩
abbrev cX6_isHonest : ByteArray := prog_8_method_14_code
def yX6_isHonest : MethodName := ⟨RX6, "isHonest", "(LSaltPrices$Road;I)Z"⟩
abbrev cX6_allHonest : ByteArray := prog_8_method_15_code
def yX6_allHonest : MethodName := ⟨RX6, "allHonest", "()Z"⟩
abbrev cX6_fineOf : ByteArray := prog_8_method_16_code
def yX6_fineOf : MethodName := ⟨RX6, "fineOf", "(LSaltPrices$Cart;)I"⟩
abbrev cX6_changeSetting : ByteArray := prog_8_method_17_code
def yX6_changeSetting : MethodName := ⟨RX6, "changeSetting", "(II)I"⟩
abbrev cX6_addRoad : ByteArray := prog_8_method_18_code
def yX6_addRoad : MethodName := ⟨RX6, "addRoad", "(III)I"⟩
abbrev cX6_changePrice : ByteArray := prog_8_method_19_code
def yX6_changePrice : MethodName := ⟨RX6, "changePrice", "(II)I"⟩
abbrev cX6_changeGuards : ByteArray := prog_8_method_20_code
def yX6_changeGuards : MethodName := ⟨RX6, "changeGuards", "(II)I"⟩
abbrev cX6_changeToll : ByteArray := prog_8_method_21_code
def yX6_changeToll : MethodName := ⟨RX6, "changeToll", "(II)I"⟩
abbrev cX6_addCart : ByteArray := prog_8_method_22_code
def yX6_addCart : MethodName := ⟨RX6, "addCart", "(II)I"⟩
abbrev cX6_buySacks : ByteArray := prog_8_method_23_code
def yX6_buySacks : MethodName := ⟨RX6, "buySacks", "(II)I"⟩
abbrev cX6_sellSacks : ByteArray := prog_8_method_24_code
def yX6_sellSacks : MethodName := ⟨RX6, "sellSacks", "(II)I"⟩
abbrev cX6_drive : ByteArray := prog_8_method_25_code
def yX6_drive : MethodName := ⟨RX6, "drive", "(III)I"⟩
abbrev cX6_payToll : ByteArray := prog_8_method_26_code
def yX6_payToll : MethodName := ⟨RX6, "payToll", "(LSaltPrices$Cart;LSaltPrices$Road;)V"⟩
abbrev cX6_sneak : ByteArray := prog_8_method_27_code
def yX6_sneak : MethodName := ⟨RX6, "sneak", "(LSaltPrices$Cart;LSaltPrices$Road;)I"⟩
abbrev cX6_draw : ByteArray := prog_8_method_28_code
def yX6_draw : MethodName := ⟨RX6, "draw", "()I"⟩
def RX7 : String := "SaltPrices"
def TX7 : u_T := fun k => match k with
  | 0 => ("SaltPrices", "world", "LSaltPrices$World;", true)
  | 1 => ("SaltPrices", "history", "LSaltPrices$History;", true)
  | 2 => ("SaltPrices", "slots", "[LSaltPrices$World;", true)
  | 3 => ("SaltPrices", "saved", "[Z", true)
  | 4 => ("SaltPrices", "pad", "LSaltPrices$Pad;", true)
  | 5 => ("SaltPrices", "reader", "LSaltPrices$Reader;", true)
  | 6 => ("SaltPrices", "allRoutes", "LSaltPrices$Routes;", true)
  | 7 => ("SaltPrices", "openRoutes", "LSaltPrices$Routes;", true)
  | _ => ("SaltPrices", "honestPrices", "[I", true)
def tyX7 : Nat → FieldType := fun k => match k with
  | 0 => .object "SaltPrices$World"
  | 1 => .object "SaltPrices$History"
  | 2 => .array (.object "SaltPrices$World")
  | 3 => .array .boolean
  | 4 => .object "SaltPrices$Pad"
  | 5 => .object "SaltPrices$Reader"
  | 6 => .object "SaltPrices$Routes"
  | 7 => .object "SaltPrices$Routes"
  | _ => .array .int
abbrev wsX70 : List Cond := u_ws RX7 TX7 9
theorem nmX7 : ∀ a, a < 9 → ∀ b, b < 9 → a ≠ b → (TX7 a).2.1 ≠ (TX7 b).2.1 := by decide +kernel
theorem tyX7_ok : ∀ k, k < 9 → parseFieldDescriptor (TX7 k).2.2.1 = some (tyX7 k) := by decide +kernel
abbrev cX7_init : ByteArray := prog_1_method_1_code
def yX7_init : MethodName := ⟨RX7, "<init>", "()V"⟩
abbrev cX7_set : ByteArray := prog_1_method_2_code
def yX7_set : MethodName := ⟨RX7, "set", "(II)I"⟩
abbrev cX7_road : ByteArray := prog_1_method_3_code
def yX7_road : MethodName := ⟨RX7, "road", "(III)I"⟩
abbrev cX7_price : ByteArray := prog_1_method_4_code
def yX7_price : MethodName := ⟨RX7, "price", "(II)I"⟩
abbrev cX7_guard : ByteArray := prog_1_method_5_code
def yX7_guard : MethodName := ⟨RX7, "guard", "(II)I"⟩
abbrev cX7_toll : ByteArray := prog_1_method_6_code
def yX7_toll : MethodName := ⟨RX7, "toll", "(II)I"⟩
abbrev cX7_makeHonest : ByteArray := prog_1_method_7_code
def yX7_makeHonest : MethodName := ⟨RX7, "makeHonest", "()I"⟩
abbrev cX7_cart : ByteArray := prog_1_method_8_code
def yX7_cart : MethodName := ⟨RX7, "cart", "(II)I"⟩
abbrev cX7_buy : ByteArray := prog_1_method_9_code
def yX7_buy : MethodName := ⟨RX7, "buy", "(II)I"⟩
abbrev cX7_sell : ByteArray := prog_1_method_10_code
def yX7_sell : MethodName := ⟨RX7, "sell", "(II)I"⟩
abbrev cX7_go : ByteArray := prog_1_method_11_code
def yX7_go : MethodName := ⟨RX7, "go", "(III)I"⟩
abbrev cX7_write : ByteArray := prog_1_method_12_code
def yX7_write : MethodName := ⟨RX7, "write", "()I"⟩
abbrev cX7_ofTown : ByteArray := prog_1_method_13_code
def yX7_ofTown : MethodName := ⟨RX7, "ofTown", "(II)I"⟩
abbrev cX7_ofRoad : ByteArray := prog_1_method_14_code
def yX7_ofRoad : MethodName := ⟨RX7, "ofRoad", "(II)I"⟩
abbrev cX7_ofCart : ByteArray := prog_1_method_15_code
def yX7_ofCart : MethodName := ⟨RX7, "ofCart", "(II)I"⟩
abbrev cX7_worth : ByteArray := prog_1_method_16_code
def yX7_worth : MethodName := ⟨RX7, "worth", "(III)J"⟩
abbrev cX7_sign : ByteArray := prog_1_method_17_code
def yX7_sign : MethodName := ⟨RX7, "sign", "(I)I"⟩
abbrev cX7_count : ByteArray := prog_1_method_18_code
def yX7_count : MethodName := ⟨RX7, "count", "(I)I"⟩
abbrev cX7_step : ByteArray := prog_1_method_19_code
def yX7_step : MethodName := ⟨RX7, "step", "(II)I"⟩
abbrev cX7_fewestGuards : ByteArray := prog_1_method_20_code
def yX7_fewestGuards : MethodName := ⟨RX7, "fewestGuards", "(I)I"⟩
abbrev cX7_mostPrice : ByteArray := prog_1_method_21_code
def yX7_mostPrice : MethodName := ⟨RX7, "mostPrice", "(I)I"⟩
abbrev cX7_ifHonest : ByteArray := prog_1_method_22_code
def yX7_ifHonest : MethodName := ⟨RX7, "ifHonest", "()I"⟩
abbrev cX7_wouldHave : ByteArray := prog_1_method_23_code
def yX7_wouldHave : MethodName := ⟨RX7, "wouldHave", "(III)I"⟩
abbrev cX7_put : ByteArray := prog_1_method_24_code
def yX7_put : MethodName := ⟨RX7, "put", "(J)I"⟩
abbrev cX7_wipe : ByteArray := prog_1_method_25_code
def yX7_wipe : MethodName := ⟨RX7, "wipe", "()I"⟩
abbrev cX7_fault : ByteArray := prog_1_method_26_code
def yX7_fault : MethodName := ⟨RX7, "fault", "()I"⟩
abbrev cX7_carryOut : ByteArray := prog_1_method_27_code
def yX7_carryOut : MethodName := ⟨RX7, "carryOut", "()I"⟩
abbrev cX7_undo : ByteArray := prog_1_method_28_code
def yX7_undo : MethodName := ⟨RX7, "undo", "()I"⟩
abbrev cX7_save : ByteArray := prog_1_method_29_code
def yX7_save : MethodName := ⟨RX7, "save", "(I)I"⟩
abbrev cX7_restore : ByteArray := prog_1_method_30_code
def yX7_restore : MethodName := ⟨RX7, "restore", "(I)I"⟩
abbrev cX7_isOutside : ByteArray := prog_1_method_31_code
def yX7_isOutside : MethodName := ⟨RX7, "isOutside", "(III)Z"⟩
abbrev cX7_isTown : ByteArray := prog_1_method_32_code
def yX7_isTown : MethodName := ⟨RX7, "isTown", "(I)Z"⟩
abbrev cX7_bit : ByteArray := prog_1_method_33_code
def yX7_bit : MethodName := ⟨RX7, "bit", "(Z)I"⟩
abbrev cX7_recorded : ByteArray := prog_1_method_34_code
def yX7_recorded : MethodName := ⟨RX7, "recorded", "(I)I"⟩
abbrev cX7_findHonestPrices : ByteArray := prog_1_method_35_code
def yX7_findHonestPrices : MethodName := ⟨RX7, "findHonestPrices", "()I"⟩
abbrev cX7_lowerEnd : ByteArray := prog_1_method_36_code
def yX7_lowerEnd : MethodName := ⟨RX7, "lowerEnd", "(LSaltPrices$Road;II)V"⟩
abbrev cX7_hidingTowns : ByteArray := prog_1_method_37_code
def yX7_hidingTowns : MethodName := ⟨RX7, "hidingTowns", "()I"⟩
abbrev cX7_countSigns : ByteArray := prog_1_method_38_code
def yX7_countSigns : MethodName := ⟨RX7, "countSigns", "(J)I"⟩
abbrev cX7_obey : ByteArray := prog_1_method_39_code
def yX7_obey : MethodName := ⟨RX7, "obey", "()I"⟩
def RX8 : String := "SaltPricesModel"
def TX8 : u_T := fun k => match k with
  | 0 => ("SaltPricesModel", "s", "[I", true)
  | 1 => ("SaltPricesModel", "aside", "[I", true)
  | 2 => ("SaltPricesModel", "history", "[I", true)
  | 3 => ("SaltPricesModel", "known", "I", false)
  | 4 => ("SaltPricesModel", "slots", "[I", true)
  | 5 => ("SaltPricesModel", "kept", "I", false)
  | 6 => ("SaltPricesModel", "pad", "[I", true)
  | 7 => ("SaltPricesModel", "length", "I", false)
  | 8 => ("SaltPricesModel", "worths", "[J", true)
  | 9 => ("SaltPricesModel", "spot", "I", false)
  | 10 => ("SaltPricesModel", "isFaulty", "Z", false)
  | 11 => ("SaltPricesModel", "letter", "I", false)
  | 12 => ("SaltPricesModel", "first", "I", false)
  | 13 => ("SaltPricesModel", "second", "I", false)
  | _ => ("SaltPricesModel", "third", "I", false)
def tyX8 : Nat → FieldType := fun k => match k with
  | 0 => .array .int
  | 1 => .array .int
  | 2 => .array .int
  | 3 => .int
  | 4 => .array .int
  | 5 => .int
  | 6 => .array .int
  | 7 => .int
  | 8 => .array .long
  | 9 => .int
  | 10 => .boolean
  | 11 => .int
  | 12 => .int
  | 13 => .int
  | _ => .int
abbrev wsX80 : List Cond := u_ws RX8 TX8 15
theorem nmX8 : ∀ a, a < 15 → ∀ b, b < 15 → a ≠ b → (TX8 a).2.1 ≠ (TX8 b).2.1 := by decide +kernel
theorem tyX8_ok : ∀ k, k < 15 → parseFieldDescriptor (TX8 k).2.2.1 = some (tyX8 k) := by decide +kernel
abbrev cX8_init : ByteArray := prog_10_method_1_code
def yX8_init : MethodName := ⟨RX8, "<init>", "()V"⟩
abbrev cX8_in : ByteArray := prog_10_method_2_code
def yX8_in : MethodName := ⟨RX8, "in", "(III)Z"⟩
abbrev cX8_isTown : ByteArray := prog_10_method_3_code
def yX8_isTown : MethodName := ⟨RX8, "isTown", "(I)Z"⟩
abbrev cX8_isRoad : ByteArray := prog_10_method_4_code
def yX8_isRoad : MethodName := ⟨RX8, "isRoad", "(I)Z"⟩
abbrev cX8_isCart : ByteArray := prog_10_method_5_code
def yX8_isCart : MethodName := ⟨RX8, "isCart", "(I)Z"⟩
abbrev cX8_ofOneRoad : ByteArray := prog_10_method_6_code
def yX8_ofOneRoad : MethodName := ⟨RX8, "ofOneRoad", "(II)I"⟩
abbrev cX8_ofOneCart : ByteArray := prog_10_method_7_code
def yX8_ofOneCart : MethodName := ⟨RX8, "ofOneCart", "(II)I"⟩
abbrev cX8_record : ByteArray := prog_10_method_8_code
def yX8_record : MethodName := ⟨RX8, "record", "()V"⟩
abbrev cX8_putAside : ByteArray := prog_10_method_9_code
def yX8_putAside : MethodName := ⟨RX8, "putAside", "()V"⟩
abbrev cX8_putBack : ByteArray := prog_10_method_10_code
def yX8_putBack : MethodName := ⟨RX8, "putBack", "()V"⟩
abbrev cX8_changed : ByteArray := prog_10_method_11_code
def yX8_changed : MethodName := ⟨RX8, "changed", "(I)I"⟩
abbrev cX8_becomes : ByteArray := prog_10_method_12_code
def yX8_becomes : MethodName := ⟨RX8, "becomes", "(II)I"⟩
abbrev cX8_chanceBy : ByteArray := prog_10_method_13_code
def yX8_chanceBy : MethodName := ⟨RX8, "chanceBy", "(I)I"⟩
abbrev cX8_chanceOf : ByteArray := prog_10_method_14_code
def yX8_chanceOf : MethodName := ⟨RX8, "chanceOf", "(I)I"⟩
abbrev cX8_end : ByteArray := prog_10_method_15_code
def yX8_end : MethodName := ⟨RX8, "end", "(II)I"⟩
abbrev cX8_mostHidden : ByteArray := prog_10_method_16_code
def yX8_mostHidden : MethodName := ⟨RX8, "mostHidden", "(II)I"⟩
abbrev cX8_mostAt : ByteArray := prog_10_method_17_code
def yX8_mostAt : MethodName := ⟨RX8, "mostAt", "(II)I"⟩
abbrev cX8_isHonest : ByteArray := prog_10_method_18_code
def yX8_isHonest : MethodName := ⟨RX8, "isHonest", "(II)Z"⟩
abbrev cX8_dishonest : ByteArray := prog_10_method_19_code
def yX8_dishonest : MethodName := ⟨RX8, "dishonest", "()I"⟩
abbrev cX8_makes : ByteArray := prog_10_method_20_code
def yX8_makes : MethodName := ⟨RX8, "makes", "()I"⟩
abbrev cX8_power : ByteArray := prog_10_method_21_code
def yX8_power : MethodName := ⟨RX8, "power", "(I)J"⟩
abbrev cX8_by : ByteArray := prog_10_method_22_code
def yX8_by : MethodName := ⟨RX8, "by", "(IIIZ)J"⟩
abbrev cX8_workOut : ByteArray := prog_10_method_23_code
def yX8_workOut : MethodName := ⟨RX8, "workOut", "(IZ)V"⟩
abbrev cX8_worthOf : ByteArray := prog_10_method_24_code
def yX8_worthOf : MethodName := ⟨RX8, "worthOf", "(IIZ)J"⟩
abbrev cX8_pays : ByteArray := prog_10_method_25_code
def yX8_pays : MethodName := ⟨RX8, "pays", "(I)Z"⟩
abbrev cX8_payingTowns : ByteArray := prog_10_method_26_code
def yX8_payingTowns : MethodName := ⟨RX8, "payingTowns", "()I"⟩
abbrev cX8_guards : ByteArray := prog_10_method_27_code
def yX8_guards : MethodName := ⟨RX8, "guards", "()I"⟩
abbrev cX8_least : ByteArray := prog_10_method_28_code
def yX8_least : MethodName := ⟨RX8, "least", "(I)I"⟩
abbrev cX8_most : ByteArray := prog_10_method_29_code
def yX8_most : MethodName := ⟨RX8, "most", "(I)I"⟩
abbrev cX8_set : ByteArray := prog_10_method_30_code
def yX8_set : MethodName := ⟨RX8, "set", "(II)I"⟩
abbrev cX8_addsRoad : ByteArray := prog_10_method_31_code
def yX8_addsRoad : MethodName := ⟨RX8, "addsRoad", "(III)I"⟩
abbrev cX8_road : ByteArray := prog_10_method_32_code
def yX8_road : MethodName := ⟨RX8, "road", "(III)I"⟩
abbrev cX8_prices : ByteArray := prog_10_method_33_code
def yX8_prices : MethodName := ⟨RX8, "prices", "(II)I"⟩
abbrev cX8_price : ByteArray := prog_10_method_34_code
def yX8_price : MethodName := ⟨RX8, "price", "(II)I"⟩
abbrev cX8_setsGuards : ByteArray := prog_10_method_35_code
def yX8_setsGuards : MethodName := ⟨RX8, "setsGuards", "(II)I"⟩
abbrev cX8_guard : ByteArray := prog_10_method_36_code
def yX8_guard : MethodName := ⟨RX8, "guard", "(II)I"⟩
abbrev cX8_toll : ByteArray := prog_10_method_37_code
def yX8_toll : MethodName := ⟨RX8, "toll", "(II)I"⟩
abbrev cX8_makeHonest : ByteArray := prog_10_method_38_code
def yX8_makeHonest : MethodName := ⟨RX8, "makeHonest", "()I"⟩
abbrev cX8_addsCart : ByteArray := prog_10_method_39_code
def yX8_addsCart : MethodName := ⟨RX8, "addsCart", "(II)I"⟩
abbrev cX8_cart : ByteArray := prog_10_method_40_code
def yX8_cart : MethodName := ⟨RX8, "cart", "(II)I"⟩
abbrev cX8_buys : ByteArray := prog_10_method_41_code
def yX8_buys : MethodName := ⟨RX8, "buys", "(II)I"⟩
abbrev cX8_buy : ByteArray := prog_10_method_42_code
def yX8_buy : MethodName := ⟨RX8, "buy", "(II)I"⟩
abbrev cX8_sells : ByteArray := prog_10_method_43_code
def yX8_sells : MethodName := ⟨RX8, "sells", "(II)I"⟩
abbrev cX8_sell : ByteArray := prog_10_method_44_code
def yX8_sell : MethodName := ⟨RX8, "sell", "(II)I"⟩
abbrev cX8_endOf : ByteArray := prog_10_method_45_code
def yX8_endOf : MethodName := ⟨RX8, "endOf", "(II)I"⟩
abbrev cX8_fineFor : ByteArray := prog_10_method_46_code
def yX8_fineFor : MethodName := ⟨RX8, "fineFor", "(I)I"⟩
abbrev cX8_sneaks : ByteArray := prog_10_method_47_code
def yX8_sneaks : MethodName := ⟨RX8, "sneaks", "(II)I"⟩
abbrev cX8_goes : ByteArray := prog_10_method_48_code
def yX8_goes : MethodName := ⟨RX8, "goes", "(III)I"⟩
abbrev cX8_go : ByteArray := prog_10_method_49_code
def yX8_go : MethodName := ⟨RX8, "go", "(III)I"⟩
abbrev cX8_write : ByteArray := prog_10_method_50_code
def yX8_write : MethodName := ⟨RX8, "write", "()I"⟩
abbrev cX8_pads : ByteArray := prog_10_method_51_code
def yX8_pads : MethodName := ⟨RX8, "pads", "(I)V"⟩
abbrev cX8_setAt : ByteArray := prog_10_method_52_code
def yX8_setAt : MethodName := ⟨RX8, "setAt", "(II)I"⟩
abbrev cX8_ofTown : ByteArray := prog_10_method_53_code
def yX8_ofTown : MethodName := ⟨RX8, "ofTown", "(II)I"⟩
abbrev cX8_ofRoad : ByteArray := prog_10_method_54_code
def yX8_ofRoad : MethodName := ⟨RX8, "ofRoad", "(II)I"⟩
abbrev cX8_ofCart : ByteArray := prog_10_method_55_code
def yX8_ofCart : MethodName := ⟨RX8, "ofCart", "(II)I"⟩
abbrev cX8_worth : ByteArray := prog_10_method_56_code
def yX8_worth : MethodName := ⟨RX8, "worth", "(III)J"⟩
abbrev cX8_sign : ByteArray := prog_10_method_57_code
def yX8_sign : MethodName := ⟨RX8, "sign", "(I)I"⟩
abbrev cX8_ofCarts : ByteArray := prog_10_method_58_code
def yX8_ofCarts : MethodName := ⟨RX8, "ofCarts", "(I)I"⟩
abbrev cX8_count : ByteArray := prog_10_method_59_code
def yX8_count : MethodName := ⟨RX8, "count", "(I)I"⟩
abbrev cX8_step : ByteArray := prog_10_method_60_code
def yX8_step : MethodName := ⟨RX8, "step", "(II)I"⟩
abbrev cX8_isBound : ByteArray := prog_10_method_61_code
def yX8_isBound : MethodName := ⟨RX8, "isBound", "(III)Z"⟩
abbrev cX8_fewestGuards : ByteArray := prog_10_method_62_code
def yX8_fewestGuards : MethodName := ⟨RX8, "fewestGuards", "(I)I"⟩
abbrev cX8_mostPrice : ByteArray := prog_10_method_63_code
def yX8_mostPrice : MethodName := ⟨RX8, "mostPrice", "(I)I"⟩
abbrev cX8_ifHonest : ByteArray := prog_10_method_64_code
def yX8_ifHonest : MethodName := ⟨RX8, "ifHonest", "()I"⟩
abbrev cX8_wouldHave : ByteArray := prog_10_method_65_code
def yX8_wouldHave : MethodName := ⟨RX8, "wouldHave", "(III)I"⟩
abbrev cX8_put : ByteArray := prog_10_method_66_code
def yX8_put : MethodName := ⟨RX8, "put", "(J)I"⟩
abbrev cX8_wipe : ByteArray := prog_10_method_67_code
def yX8_wipe : MethodName := ⟨RX8, "wipe", "()I"⟩
abbrev cX8_takes : ByteArray := prog_10_method_68_code
def yX8_takes : MethodName := ⟨RX8, "takes", "(II)I"⟩
abbrev cX8_digit : ByteArray := prog_10_method_69_code
def yX8_digit : MethodName := ⟨RX8, "digit", "()I"⟩
abbrev cX8_number : ByteArray := prog_10_method_70_code
def yX8_number : MethodName := ⟨RX8, "number", "()I"⟩
abbrev cX8_isLetter : ByteArray := prog_10_method_71_code
def yX8_isLetter : MethodName := ⟨RX8, "isLetter", "(I)Z"⟩
abbrev cX8_between : ByteArray := prog_10_method_72_code
def yX8_between : MethodName := ⟨RX8, "between", "(I)I"⟩
abbrev cX8_readOrder : ByteArray := prog_10_method_73_code
def yX8_readOrder : MethodName := ⟨RX8, "readOrder", "()V"⟩
abbrev cX8_does : ByteArray := prog_10_method_74_code
def yX8_does : MethodName := ⟨RX8, "does", "()I"⟩
abbrev cX8_goesThrough : ByteArray := prog_10_method_75_code
def yX8_goesThrough : MethodName := ⟨RX8, "goesThrough", "(Z)I"⟩
abbrev cX8_fault : ByteArray := prog_10_method_76_code
def yX8_fault : MethodName := ⟨RX8, "fault", "()I"⟩
abbrev cX8_carryOut : ByteArray := prog_10_method_77_code
def yX8_carryOut : MethodName := ⟨RX8, "carryOut", "()I"⟩
abbrev cX8_undo : ByteArray := prog_10_method_78_code
def yX8_undo : MethodName := ⟨RX8, "undo", "()I"⟩
abbrev cX8_save : ByteArray := prog_10_method_79_code
def yX8_save : MethodName := ⟨RX8, "save", "(I)I"⟩
abbrev cX8_restore : ByteArray := prog_10_method_80_code
def yX8_restore : MethodName := ⟨RX8, "restore", "(I)I"⟩
def RJ9 : String := "java/lang/Math"
def TJ9 : u_T := fun k => match k with
  | _ => ("", "", "", false)
def tyJ9 : Nat → FieldType := fun k => match k with
  | _ => .int
abbrev wsJ90 : List Cond := u_ws RJ9 TJ9 0
theorem nmJ9 : ∀ a, a < 0 → ∀ b, b < 0 → a ≠ b → (TJ9 a).2.1 ≠ (TJ9 b).2.1 := by decide +kernel
theorem tyJ9_ok : ∀ k, k < 0 → parseFieldDescriptor (TJ9 k).2.2.1 = some (tyJ9 k) := by decide +kernel
abbrev cJ9_max_f86c9 : ByteArray := prog_11_method_66_code
def yJ9_max_f86c9 : MethodName := ⟨RJ9, "max", "(JJ)J"⟩
abbrev cJ9_min_7cf53 : ByteArray := prog_11_method_69_code
def yJ9_min_7cf53 : MethodName := ⟨RJ9, "min", "(II)I"⟩
def RJ10 : String := "java/lang/System"
def TJ10 : u_T := fun k => match k with
  | _ => ("", "", "", false)
def tyJ10 : Nat → FieldType := fun k => match k with
  | _ => .int
abbrev wsJ100 : List Cond := u_ws RJ10 TJ10 0
theorem nmJ10 : ∀ a, a < 0 → ∀ b, b < 0 → a ≠ b → (TJ10 a).2.1 ≠ (TJ10 b).2.1 := by decide +kernel
theorem tyJ10_ok : ∀ k, k < 0 → parseFieldDescriptor (TJ10 k).2.2.1 = some (tyJ10 k) := by decide +kernel
def RL : String := "SaltPricesLaw"
abbrev cL_law : ByteArray := code
def yL_law : MethodName := ⟨RL, "law", "([I)Z"⟩
abbrev vwCl : List vw_C := [(RX0, TX0, 8), (RX1, TX1, 3), (RX2, TX2, 2), (RX3, TX3, 7), (RX4, TX4, 6), (RX5, TX5, 4), (RX6, TX6, 11), (RX7, TX7, 9), (RX8, TX8, 15)]
theorem inX0 : ∀ w ∈ wsX00, w ∈ lw_tbl := by decide +kernel
theorem inX1 : ∀ w ∈ wsX10, w ∈ lw_tbl := by decide +kernel
theorem inX2 : ∀ w ∈ wsX20, w ∈ lw_tbl := by decide +kernel
theorem inX3 : ∀ w ∈ wsX30, w ∈ lw_tbl := by decide +kernel
theorem inX4 : ∀ w ∈ wsX40, w ∈ lw_tbl := by decide +kernel
theorem inX5 : ∀ w ∈ wsX50, w ∈ lw_tbl := by decide +kernel
theorem inX6 : ∀ w ∈ wsX60, w ∈ lw_tbl := by decide +kernel
theorem inX7 : ∀ w ∈ wsX70, w ∈ lw_tbl := by decide +kernel
theorem inX8 : ∀ w ∈ wsX80, w ∈ lw_tbl := by decide +kernel
end
section
/-! THE PURE LAYER. A state of a frame is: the place, the locals as a list, the stack, the cells made, and the memory as plain functions. px_W says that the machine from there comes to its end. Each row below is one of the kit's, told of such states. -/
def px_ws : List Cond := lw_tbl.filter goodWord
theorem px_ws_in {w : Cond} (h : w ∈ px_ws) : w ∈ lw_tbl := (List.mem_filter.mp h).1
theorem px_ws_mk {w : Cond} (h : w ∈ lw_tbl) (g : goodWord w = true) : w ∈ px_ws := List.mem_filter.mpr ⟨h, g⟩
theorem px_wk {w : Cond} (i : Nat) (h : tables_1[i]? = some w) (g : goodWord w = true) : w ∈ px_ws := px_ws_mk (List.mem_append_right _ (List.mem_of_getElem? h)) g
theorem px_wp {w : Cond} (i : Nat) (h : (k2_sels lw_privs)[i]? = some w) (g : goodWord w = true) : w ∈ px_ws := px_ws_mk (List.mem_append_left _ (List.mem_of_getElem? h)) g
theorem px_gi : GoodIn px_ws px_ws := fun _ h => ⟨h, good_of_word (List.mem_filter.mp h).2⟩
abbrev px_I : Type := Nat → Nat → Int32
abbrev px_J : Type := Nat → Nat → Int64
abbrev px_R : Type := Nat → Nat → Option Nat
/-- how many cells, and the kind and the length of each -/
abbrev px_T : Type := Nat × (Nat → Nat × Nat)
abbrev px_M : Type := px_T × px_I × px_J × px_R
abbrev px_B : Type := FieldType × Nat × Nat × (Nat → Value)
/-- what stays the same: the classes' numbers and slots, the array classes, the first new address, tables, the scripts, statics -/
abbrev px_G : Type := va_G × (Nat → ClassId) × Nat × List px_B × List (Nat × Nat × (Nat → Int32)) × List (String × String × String × Value)
abbrev px_D : Type := MethodName × ByteArray × Nat × Option FieldType
def px_cy (G : px_G) : Nat → ClassId := G.2.1
def px_h (G : px_G) : Nat := G.2.2.1
def px_A (G : px_G) : Nat → Prop := fun q => px_h G ≤ q
def px_tys (cy : Nat → ClassId) : List (ClassId × FieldType) := [(cy 9, .int), (cy 10, .long), (cy 11, .boolean), (cy 12, .object "SaltPrices$Cart"), (cy 13, .object "SaltPrices$Road"), (cy 14, .object "SaltPrices$World"), (cy 15, .array .long)]
def px_o (c : Nat) (i : Nat → Int32) (j : Nat → Int64) (r : Nat → Option Nat) : List Value := match c with
  | 0 => [.int (i 0), .int (i 1), .int (i 2), .int (i 3), .int (i 4), .int (i 5), .int (i 6), .int (i 7)]
  | 1 => [va_rf (r 0), .int (i 1), .int (i 2)]
  | 2 => [va_rf (r 0), .int (i 1)]
  | 3 => [va_rf (r 0), .int (i 1), .int (i 2), .int (i 3), .int (i 4), .int (i 5), .int (i 6)]
  | 4 => [.int (i 0), .int (i 1), .int (i 2), .int (i 3), .int (i 4), .int (i 5)]
  | 5 => [.int (i 0), va_rf (r 1), va_rf (r 2), .long (j 3)]
  | 6 => [va_rf (r 0), va_rf (r 1), va_rf (r 2), va_rf (r 3), .int (i 4), .int (i 5), .int (i 6), .int (i 7), .int (i 8), .int (i 9), .int (i 10)]
  | 7 => [va_rf (r 0), va_rf (r 1), va_rf (r 2), va_rf (r 3), va_rf (r 4), va_rf (r 5), va_rf (r 6), va_rf (r 7), va_rf (r 8)]
  | _ => [va_rf (r 0), va_rf (r 1), va_rf (r 2), .int (i 3), va_rf (r 4), .int (i 5), va_rf (r 6), .int (i 7), va_rf (r 8), .int (i 9), .int (i 10), .int (i 11), .int (i 12), .int (i 13), .int (i 14)]
def px_e (cy : Nat → ClassId) (c n : Nat) (i : Nat → Int32) (j : Nat → Int64) (r : Nat → Option Nat) : va_E := match c with
  | 9 => .inl (cy 9, n, .inl i)
  | 10 => .inl (cy 10, n, .inr (.inl j))
  | 11 => .inl (cy 11, n, .inl i)
  | 12 => .inl (cy 12, n, .inr (.inr (.inr (.inr r))))
  | 13 => .inl (cy 13, n, .inr (.inr (.inr (.inr r))))
  | 14 => .inl (cy 14, n, .inr (.inr (.inr (.inr r))))
  | 15 => .inl (cy 15, n, .inr (.inr (.inr (.inr r))))
  | c => .inr (c, px_o c i j r)
def px_E (G : px_G) (μ : px_M) (a : Nat) : va_E := px_e (px_cy G) (μ.1.2 a).1 (μ.1.2 a).2 (μ.2.1 a) (μ.2.2.1 a) (μ.2.2.2 a)
def px_L (G : px_G) (T : px_T) : List Nat := (List.range T.1).map (fun i => px_h G + i)
theorem px_L_mem {G : px_G} {T : px_T} {a : Nat} : a ∈ px_L G T ↔ px_h G ≤ a ∧ a < px_h G + T.1 := by
  simp only [px_L, List.mem_map, List.mem_range]
  exact ⟨fun ⟨i, h, e⟩ => by omega, fun h => ⟨a - px_h G, by omega, by omega⟩⟩
def px_w (G : px_G) (μ : px_M) : va_W := va_pl (px_L G μ.1) (px_E G μ)
/-- the cell a is of kind c and length n -/
def px_at (G : px_G) (T : px_T) (a c n : Nat) : Prop := px_h G ≤ a ∧ a < px_h G + T.1 ∧ T.2 a = (c, n)
theorem px_at_get {G : px_G} {T : px_T} {I : px_I} {J : px_J} {R : px_R} {a c n : Nat} (h : px_at G T a c n) : ∃ k : Nat, (px_w G (T, I, J, R))[k]? = some (a, px_e (px_cy G) c n (I a) (J a) (R a)) := by
  obtain ⟨h1, h2, h3⟩ := h
  obtain ⟨k, hk⟩ := va_pl_get (X := []) (f := px_E G (T, I, J, R)) (px_L_mem.mpr ⟨h1, h2⟩)
  refine ⟨k, hk.trans ?_⟩
  show some (a, px_e _ (T.2 a).1 (T.2 a).2 _ _ _) = _
  rw [h3]
def px_up {α : Type} (f : Nat → Nat → α) (a k : Nat) (v : α) : Nat → Nat → α := fun b => if b = a then fun j => if j = k then v else f a j else f b
theorem px_up_row {α : Type} (f : Nat → Nat → α) (a k : Nat) (v : α) : px_up f a k v a = fun j => if j = k then v else f a j := if_pos rfl
theorem px_up_ne {α : Type} {f : Nat → Nat → α} {a k : Nat} {v : α} {b : Nat} (h : b ≠ a) : px_up f a k v b = f b := if_neg h
theorem px_up_self {α : Type} (f : Nat → Nat → α) (a k : Nat) (v : α) : px_up f a k v a k = v := by simp [px_up]
theorem px_up_at {α : Type} (f : Nat → Nat → α) (a k : Nat) (v : α) (b j : Nat) : px_up f a k v b j = if b = a ∧ j = k then v else f b j := by
  by_cases h : b = a
  · subst h
    by_cases h2 : j = k <;> simp [px_up, h2]
  · simp [px_up, h]
/-- one cell's contents are others: the list of cells -/
theorem px_set_w {G : px_G} {T : px_T} {I I' : px_I} {J J' : px_J} {R R' : px_R} {a c n k : Nat} (hD : va_D (px_A G) (px_w G (T, I, J, R))) (h : px_at G T a c n) (hk : (px_w G (T, I, J, R))[k]? = some (a, px_e (px_cy G) c n (I a) (J a) (R a)))
    (hI : ∀ b, b ≠ a → I' b = I b) (hJ : ∀ b, b ≠ a → J' b = J b) (hR : ∀ b, b ≠ a → R' b = R b) : (px_w G (T, I, J, R)).set k (a, px_e (px_cy G) c n (I' a) (J' a) (R' a)) = px_w G (T, I', J', R') := by
  obtain ⟨h1, h2, h3⟩ := h
  have hE : px_E G (T, I, J, R) a = px_e (px_cy G) c n (I a) (J a) (R a) := by
    show px_e _ (T.2 a).1 (T.2 a).2 _ _ _ = _
    rw [h3]
  have := va_pl_set (X := []) (f := px_E G (T, I, J, R)) (e := px_e (px_cy G) c n (I' a) (J' a) (R' a)) hD (px_L_mem.mpr ⟨h1, h2⟩) (hk.trans (by rw [hE]))
  refine this.trans (congrArg (fun l => [] ++ l) (va_pl_congr fun b => ?_))
  by_cases hb : b = a
  · subst hb
    show va_up _ b _ b = px_e _ (T.2 b).1 (T.2 b).2 _ _ _
    rw [h3]
    simp [va_up]
  · show va_up _ a _ b = px_e _ (T.2 b).1 (T.2 b).2 _ _ _
    simp only [va_up, if_neg hb]
    show px_e _ (T.2 b).1 (T.2 b).2 _ _ _ = _
    rw [hI b hb, hJ b hb, hR b hb]
/-- the world of a state: what holds at a method's start and end -/
def px_S (G : px_G) (μ : px_M) (U : State) : Prop :=
  va_K G.1 vwCl (px_tys (px_cy G)) U ∧ va_P G.1 vwCl (px_w G μ) U.heap ∧ va_D (px_A G) (px_w G μ) ∧ U.heap.size = px_h G + μ.1.1 ∧
  (∀ (k : Nat) (b : px_B), G.2.2.2.1[k]? = some b → va_T b.1 b.2.1 b.2.2.1 b.2.2.2 (px_A G) U U.heap) ∧
  (∀ (k : Nat) (b : Nat × Nat × (Nat → Int32)), G.2.2.2.2.1[k]? = some b → va_X b.1 b.2.1 b.2.2 U U.heap ∧ b.1 < px_h G) ∧
  (∀ (k : Nat) (z : String × String × String × Value), G.2.2.2.2.2[k]? = some z → va_Z z.1 z.2.1 z.2.2.1 z.2.2.2 (px_A G) U U.heap)
theorem px_S.moved {G : px_G} {μ : px_M} {u U : State} (hvm : u.vm.Alike U.vm) (hh : U.heap = u.heap) (h : px_S G μ u) : px_S G μ U := by
  obtain ⟨h1, h2, h3, h4, h5, h6, h7⟩ := h
  refine ⟨h1.moved hvm, by rw [hh]; exact h2, h3, by rw [hh]; exact h4, fun k b hb => ?_, fun k b hb => ?_, fun k z hz => ?_⟩
  · rw [hh]; exact (h5 k b hb).moved hvm
  · rw [hh]; exact ⟨(h6 k b hb).1.moved hvm, (h6 k b hb).2⟩
  · rw [hh]; exact (h7 k z hz).moved hvm
/-- the world within a frame that began at s -/
def px_F (G : px_G) (μ : px_M) (s : State) (H : Heap) (locs : List Loc) : Prop :=
  va_P G.1 vwCl (px_w G μ) H ∧ va_D (px_A G) (px_w G μ) ∧ H.size = px_h G + μ.1.1 ∧ va_S (px_A G) s.heap H locs
/-- what a frame knows of its start -/
def px_X (G : px_G) (y : MethodName) (cc : ByteArray) (nL : Nat) (ret : Option FieldType) (p : Program) (s : State) (m : MethodId) (args : Array Value) (meth : Method) (c : Code) : Prop :=
  p.tables.exec = Jvm.exec ∧ c.code = cc ∧ meth.sig.returnType = ret ∧ s.vm.findClass y.cls = some m.cls ∧ (∀ w ∈ px_ws, w.before args s = true) ∧ c.maxLocals = nL ∧ meth.locks = false ∧ meth.name = y.name ∧ px_h G ≤ s.heap.size ∧
  va_K G.1 vwCl (px_tys (px_cy G)) s ∧
  (∀ (k : Nat) (b : px_B), G.2.2.2.1[k]? = some b → va_T b.1 b.2.1 b.2.2.1 b.2.2.2 (px_A G) s s.heap) ∧
  (∀ (k : Nat) (b : Nat × Nat × (Nat → Int32)), G.2.2.2.2.1[k]? = some b → va_X b.1 b.2.1 b.2.2 s s.heap ∧ b.1 < px_h G) ∧
  (∀ (k : Nat) (z : String × String × String × Value), G.2.2.2.2.2[k]? = some z → va_Z z.1 z.2.1 z.2.2.1 z.2.2.2 (px_A G) s s.heap)
/-- at the frame's end (or at a call): the world of a state -/
theorem px_end {G : px_G} {μ : px_M} {y : MethodName} {cc : ByteArray} {nL : Nat} {ret : Option FieldType} {p : Program} {s : State} {m : MethodId} {args : Array Value} {meth : Method} {c : Code} {H : Heap} {locs : List Loc} (X : px_X G y cc nL ret p s m args meth c) (hF : px_F G μ s H locs) {U : State} (hU : U.heap = H) (hvm : s.vm.Alike U.vm) : px_S G μ U := by
  obtain ⟨-, -, -, -, -, -, -, -, hle, hK, hT, hX, hZ⟩ := X
  obtain ⟨hP, hD, hz, hS⟩ := hF
  have old : ∀ a : Nat, a < s.heap.size → ¬ px_A G a → H[a]? = s.heap[a]? := hS.2.1
  refine ⟨hK.moved hvm, by rw [hU]; exact hP, hD, by rw [hU]; exact hz, fun k b hb => ?_, fun k b hb => ?_, fun k z hz => ?_⟩
  · rw [hU]; exact ((hT k b hb).kept old).moved hvm
  · obtain ⟨g1, g2⟩ := hX k b hb
    rw [hU]; exact ⟨(g1.kept (old b.1 (by omega) (fun q => by unfold px_A at q; omega))).moved hvm, g2⟩
  · rw [hU]; exact ((hZ k z hz).kept old).moved hvm
def px_lv : Nat → List (Option Value) → List (Nat × Value)
  | _, [] => []
  | i, none :: r => px_lv (i + 1) r
  | i, some v :: r => (i, v) :: px_lv (i + 1) r
theorem px_lv_mem : ∀ (ls : List (Option Value)) (b i : Nat) (v : Value), (i, v) ∈ px_lv b ls ↔ ∃ j, i = b + j ∧ ls[j]? = some (some v)
  | [], b, i, v => by simp [px_lv]
  | none :: r, b, i, v => by
    rw [px_lv, px_lv_mem r]
    constructor
    · rintro ⟨j, h1, h2⟩
      exact ⟨j + 1, by omega, by simpa using h2⟩
    · rintro ⟨j, h1, h2⟩
      cases j with
      | zero => simp at h2
      | succ j => exact ⟨j, by omega, by simpa using h2⟩
  | some w :: r, b, i, v => by
    rw [px_lv, List.mem_cons, px_lv_mem r]
    constructor
    · rintro (h | ⟨j, h1, h2⟩)
      · cases h
        exact ⟨0, by omega, rfl⟩
      · exact ⟨j + 1, by omega, by simpa using h2⟩
    · rintro ⟨j, h1, h2⟩
      cases j with
      | zero =>
        simp at h2
        subst h2
        exact Or.inl (by rw [h1]; rfl)
      | succ j => exact Or.inr ⟨j, by omega, by simpa using h2⟩
def px_ls (la : Array Slot) (nL : Nat) (ls : List (Option Value)) : Prop := lv_has la nL (px_lv 0 ls) ∧ ls.length = nL
theorem px_ls.at {la : Array Slot} {nL : Nat} {ls : List (Option Value)} (h : px_ls la nL ls) {i : Nat} {v : Value} (hi : ls[i]? = some (some v)) : la[i]? = some (.val v) := h.1.2.2 (i, v) ((px_lv_mem ls 0 i v).mpr ⟨i, by omega, hi⟩)
/-- a local that is not the first half of a long -/
def px_nl (o : Option Value) : Bool := match o with
  | some v => v.category == 1
  | none => true
theorem px_ls.set {la la' : Array Slot} {nL : Nat} {ls : List (Option Value)} {i : Nat} {v : Value} (h : px_ls la nL ls) (hp : ∀ j w, i = j + 1 → ls[j]? = some (some w) → ¬ w.category = 2) (h' : lv_has la' nL ((i, v) :: (px_lv 0 ls).filter (fun q => !(q.1 == i) && !(q.1 + 1 == i && q.2.category == 2)))) : px_ls la' nL (ls.set i (some v)) := by
  refine ⟨⟨h'.1, h'.2.1, fun q hq => ?_⟩, by rw [List.length_set]; exact h.2⟩
  obtain ⟨j, h1, h2⟩ := (px_lv_mem _ 0 q.1 q.2).mp hq
  have hj : q.1 = j := by omega
  rw [List.getElem?_set] at h2
  by_cases hij : i = j
  · rw [if_pos hij] at h2
    by_cases hl : i < ls.length
    · rw [if_pos hl] at h2
      have e : q.2 = v := by simpa using h2.symm
      refine h'.2.2 q (List.mem_cons.mpr (Or.inl ?_))
      obtain ⟨q1, q2⟩ := q
      simp only at hj e
      rw [hj, e, hij]
    · rw [if_neg hl] at h2
      cases h2
  · rw [if_neg hij] at h2
    refine h'.2.2 q (List.mem_cons_of_mem _ (List.mem_filter.mpr ⟨(px_lv_mem _ 0 q.1 q.2).mpr ⟨j, h1, h2⟩, ?_⟩))
    have n1 : ¬ q.1 = i := by omega
    by_cases n2 : q.1 + 1 = i
    · have := hp j q.2 (by omega) h2
      simp [n1, this]
    · simp [n1, n2]
theorem px_ls.set2 {la la' : Array Slot} {nL : Nat} {ls : List (Option Value)} {i : Nat} {v : Value} (h : px_ls la nL ls) (hp : ∀ j w, i = j + 1 → ls[j]? = some (some w) → ¬ w.category = 2) (h' : lv_has la' nL ((i, v) :: (px_lv 0 ls).filter (fun q => !(q.1 == i) && (!(q.1 == i + 1) && !(q.1 + 1 == i && q.2.category == 2))))) : px_ls la' nL ((ls.set i (some v)).set (i + 1) none) := by
  refine ⟨⟨h'.1, h'.2.1, fun q hq => ?_⟩, by rw [List.length_set, List.length_set]; exact h.2⟩
  obtain ⟨j, h1, h2⟩ := (px_lv_mem _ 0 q.1 q.2).mp hq
  have hj : q.1 = j := by omega
  rw [List.getElem?_set] at h2
  by_cases hij1 : i + 1 = j
  · rw [if_pos hij1] at h2
    split at h2 <;> cases h2
  rw [if_neg hij1] at h2
  rw [List.getElem?_set] at h2
  by_cases hij : i = j
  · rw [if_pos hij] at h2
    by_cases hl : i < ls.length
    · rw [if_pos hl] at h2
      have e : q.2 = v := by simpa using h2.symm
      refine h'.2.2 q (List.mem_cons.mpr (Or.inl ?_))
      obtain ⟨q1, q2⟩ := q
      simp only at hj e
      rw [hj, e, hij]
    · rw [if_neg hl] at h2
      cases h2
  · rw [if_neg hij] at h2
    refine h'.2.2 q (List.mem_cons_of_mem _ (List.mem_filter.mpr ⟨(px_lv_mem _ 0 q.1 q.2).mpr ⟨j, h1, h2⟩, ?_⟩))
    have n1 : ¬ q.1 = i := by omega
    have n3 : ¬ q.1 = i + 1 := by omega
    by_cases n2 : q.1 + 1 = i
    · have := hp j q.2 (by omega) h2
      simp [n1, n3, this]
    · simp [n1, n2, n3]
theorem px_nl2 {o : Option Value} (h : px_nl o = true) {w : Value} (hw : o = some w) : ¬ w.category = 2 := by
  subst hw
  simp only [px_nl, beq_iff_eq] at h
  omega
def px_W (l : Launch) (G : px_G) (y : MethodName) (cc : ByteArray) (nL : Nat) (ret : Option FieldType) (Rm : Room) (Fn : List Frame → Array Value → State → State → Prop) (pc : Nat) (ls : List (Option Value)) (st : List Value) (k n : Nat) (μ : px_M) : Prop :=
  ∀ (p : Program) (e : Env) (s : State) (m : MethodId) (args : Array Value) (below : List Frame) (meth : Method) (c : Code) (H : Heap) (locs : List Loc) (la : Array Slot),
    px_X G y cc nL ret p s m args meth c → px_ls la nL ls → px_F G μ s H locs → W p l e Rm s m args below meth c H locs k n (Fn below args s) (F0 m pc la st)
def px_rm (lv mc ms : Nat) : Room := { frames := lv, cells := mc, slots := ms, locals := 33 * lv }
def px_Qc (G : px_G) (Q : Option Value → px_M → Prop) : Array Value → State → Outcome → State → Prop := fun _ st o t => (∃ (v : Option Value) (μ' : px_M), o = .returned v ∧ Q v μ' ∧ px_S G μ' t) ∧ va_F (px_A G) st t
def px_C (l : Launch) (G : px_G) (lv mc ms : Nat) (M : px_D) (As : List Value) (μ : px_M) (Q : Option Value → px_M → Prop) : Prop :=
  Met l M.1 (.code M.1 M.2.1 M.2.2.1 M.2.2.2 :: px_ws) (px_rm lv mc ms) (va_Pc As (fun U => px_S G μ U)) (px_Qc G Q) mc ms (px_A G)
def px_Fn (G : px_G) (Q : Option Value → px_M → Prop) (mc ms : Nat) : List Frame → Array Value → State → State → Prop := fun below args s => MQ below (px_Qc G Q) args s mc ms (px_A G)
def px_in (As : List Value) : List (Option Value) := As.flatMap (fun v => if v.category = 2 then [some v, none] else [some v])
theorem px_in_lv : ∀ (As : List Value) (b : Nat), px_lv b (px_in As) = lv_args b As
  | [], b => rfl
  | v :: As, b => by
    by_cases h : v.category = 2
    · have e : px_in (v :: As) = some v :: none :: px_in As := by simp [px_in, h]
      rw [e, px_lv, px_lv, px_in_lv As, lv_args, if_pos h]
    · have e : px_in (v :: As) = some v :: px_in As := by simp [px_in, h]
      rw [e, px_lv, px_in_lv As, lv_args, if_neg h]
theorem px_lv_none : ∀ (k b : Nat), px_lv b (List.replicate k none) = []
  | 0, _ => rfl
  | k + 1, b => by rw [List.replicate_succ, px_lv, px_lv_none k]
theorem px_lv_app : ∀ (a r : List (Option Value)) (b : Nat), px_lv b (a ++ r) = px_lv b a ++ px_lv (b + a.length) r
  | [], r, b => by simp [px_lv]
  | none :: a, r, b => by
    rw [List.cons_append, px_lv, px_lv, px_lv_app a r, List.length_cons, show b + 1 + a.length = b + (a.length + 1) by omega]
  | some v :: a, r, b => by
    rw [List.cons_append, px_lv, px_lv, px_lv_app a r, List.length_cons, show b + 1 + a.length = b + (a.length + 1) by omega, List.cons_append]
theorem px_met {l : Launch} {G : px_G} {lv mc ms : Nat} {M : px_D} {As : List Value} {μ : px_M} {Q : Option Value → px_M → Prop} (ls : List (Option Value)) (hy : plainName M.1.cls = true) (hls : px_in As ++ List.replicate (M.2.2.1 - (lg_sl As).length) none = ls) (hn : (lg_sl As).length ≤ M.2.2.1) (hn2 : ls.length = M.2.2.1)
    (h : px_W l G M.1 M.2.1 M.2.2.1 M.2.2.2 (px_rm lv mc ms) (px_Fn G Q mc ms) 0 ls [] 0 0 μ) : px_C l G lv mc ms M As μ Q := by
  refine Met.ofW (cc := M.2.1) (maxL := M.2.2.1) (ret := M.2.2.2) hy rfl ?_
  intro p e s m args below meth c s₁ B hml hv
  obtain ⟨rfl, hS⟩ := hv
  have hts := atoms_spec (ws := Cond.code M.1 M.2.1 M.2.2.1 M.2.2.2 :: px_ws) B.pre
  obtain ⟨h1, h2, h3, h4, h5, h6, h7⟩ := hS
  have hl := lv_entry As (n := M.2.2.1) hn
  rw [lg_entry_eq]
  refine h p e s m As.toArray below meth c s.heap [] _ ⟨B.exec, B.bytes, B.returns, findClass_of_methodNamed B.named, fun w hw => hts w (List.mem_cons_of_mem _ hw), hml, B.notSynchronized, (name_of_methodNamed B.named B.method).1, by omega, h1, h5, h6, h7⟩ ⟨?_, hn2⟩ ⟨h2, h3, h4, va_S.rf⟩
  rw [← hls, px_lv_app, px_lv_none, List.append_nil, px_in_lv]
  exact hl
section PX
variable {l : Launch} {G : px_G} {y : MethodName} {cc : ByteArray} {nL : Nat} {ret : Option FieldType} {Rm : Room} {Fn : List Frame → Array Value → State → State → Prop} {pc : Nat} {ls : List (Option Value)} {st : List Value} {k n : Nat} {μ : px_M}

theorem px_iconst {z : Int} (v : Int32) (d : decode cc pc = .ok (.iconst z, 1)) (hv : Int32.ofInt z = v) (h : px_W l G y cc nL ret Rm Fn (pc + 1) ls (.int v :: st) k n μ) : px_W l G y cc nL ret Rm Fn (pc) ls (st) k n μ := fun p e s m args below meth c H locs la X hl hF => lv_iconst X.1 X.2.1 d hv (h p e s m args below meth c H locs la X hl hF)
theorem px_bipush {z : Int} (v : Int32) (d : decode cc pc = .ok (.bipush z, 2)) (hv : (Int8.ofInt z).toInt32 = v) (h : px_W l G y cc nL ret Rm Fn (pc + 2) ls (.int v :: st) k n μ) : px_W l G y cc nL ret Rm Fn (pc) ls (st) k n μ := fun p e s m args below meth c H locs la X hl hF => lv_bipush X.1 X.2.1 d hv (h p e s m args below meth c H locs la X hl hF)
theorem px_sipush {z : Int} (v : Int32) (d : decode cc pc = .ok (.sipush z, 3)) (hv : (Int16.ofInt z).toInt32 = v) (h : px_W l G y cc nL ret Rm Fn (pc + 3) ls (.int v :: st) k n μ) : px_W l G y cc nL ret Rm Fn (pc) ls (st) k n μ := fun p e s m args below meth c H locs la X hl hF => lv_sipush X.1 X.2.1 d hv (h p e s m args below meth c H locs la X hl hF)
theorem px_lconst {z : Fin 2} (v : Int64) (d : decode cc pc = .ok (.lconst z, 1)) (hv : Int64.ofNat (z : Nat) = v) (h : px_W l G y cc nL ret Rm Fn (pc + 1) ls (.long v :: st) k n μ) : px_W l G y cc nL ret Rm Fn (pc) ls (st) k n μ := fun p e s m args below meth c H locs la X hl hF => lv_lconst X.1 X.2.1 d hv (h p e s m args below meth c H locs la X hl hF)
theorem px_ldc {idx : Nat} {v : Int32} (hc : Cond.constant y.cls idx v ∈ px_ws) (d : decode cc pc = .ok (.ldc idx, 2)) (h : px_W l G y cc nL ret Rm Fn (pc + 2) ls (.int v :: st) k n μ) : px_W l G y cc nL ret Rm Fn (pc) ls (st) k n μ := fun p e s m args below meth c H locs la X hl hF => lv_ldc X.1 X.2.1 X.2.2.2.1 (X.2.2.2.2.1 _ hc) d (h p e s m args below meth c H locs la X hl hF)
theorem px_ldc2 {idx : Nat} {v : Int64} (hc : Cond.constantLong y.cls idx v ∈ px_ws) (d : decode cc pc = .ok (.ldc2_w idx, 3)) (h : px_W l G y cc nL ret Rm Fn (pc + 3) ls (.long v :: st) k n μ) : px_W l G y cc nL ret Rm Fn (pc) ls (st) k n μ := fun p e s m args below meth c H locs la X hl hF => lv_ldc2 X.1 X.2.1 X.2.2.2.1 (X.2.2.2.2.1 _ hc) d (h p e s m args below meth c H locs la X hl hF)
theorem px_iadd {a b : Int32} (d : decode cc pc = .ok (.iadd, 1))  (h : px_W l G y cc nL ret Rm Fn (pc + 1) ls (.int (a + b) :: st) k n μ) : px_W l G y cc nL ret Rm Fn (pc) ls (.int b :: .int a :: st) k n μ := fun p e s m args below meth c H locs la X hl hF => lv_iadd X.1 X.2.1 d  (h p e s m args below meth c H locs la X hl hF)
theorem px_isub {a b : Int32} (d : decode cc pc = .ok (.isub, 1))  (h : px_W l G y cc nL ret Rm Fn (pc + 1) ls (.int (a - b) :: st) k n μ) : px_W l G y cc nL ret Rm Fn (pc) ls (.int b :: .int a :: st) k n μ := fun p e s m args below meth c H locs la X hl hF => lv_isub X.1 X.2.1 d  (h p e s m args below meth c H locs la X hl hF)
theorem px_imul {a b : Int32} (d : decode cc pc = .ok (.imul, 1))  (h : px_W l G y cc nL ret Rm Fn (pc + 1) ls (.int (a * b) :: st) k n μ) : px_W l G y cc nL ret Rm Fn (pc) ls (.int b :: .int a :: st) k n μ := fun p e s m args below meth c H locs la X hl hF => lv_imul X.1 X.2.1 d  (h p e s m args below meth c H locs la X hl hF)
theorem px_iand {a b : Int32} (d : decode cc pc = .ok (.iand, 1))  (h : px_W l G y cc nL ret Rm Fn (pc + 1) ls (.int (a &&& b) :: st) k n μ) : px_W l G y cc nL ret Rm Fn (pc) ls (.int b :: .int a :: st) k n μ := fun p e s m args below meth c H locs la X hl hF => lv_iand X.1 X.2.1 d  (h p e s m args below meth c H locs la X hl hF)
theorem px_ior {a b : Int32} (d : decode cc pc = .ok (.ior, 1))  (h : px_W l G y cc nL ret Rm Fn (pc + 1) ls (.int (a ||| b) :: st) k n μ) : px_W l G y cc nL ret Rm Fn (pc) ls (.int b :: .int a :: st) k n μ := fun p e s m args below meth c H locs la X hl hF => lv_ior X.1 X.2.1 d  (h p e s m args below meth c H locs la X hl hF)
theorem px_ishl {a b : Int32} (d : decode cc pc = .ok (.ishl, 1))  (h : px_W l G y cc nL ret Rm Fn (pc + 1) ls (.int (a <<< (b &&& 31)) :: st) k n μ) : px_W l G y cc nL ret Rm Fn (pc) ls (.int b :: .int a :: st) k n μ := fun p e s m args below meth c H locs la X hl hF => lv_ishl X.1 X.2.1 d  (h p e s m args below meth c H locs la X hl hF)
theorem px_ishr {a b : Int32} (d : decode cc pc = .ok (.ishr, 1))  (h : px_W l G y cc nL ret Rm Fn (pc + 1) ls (.int (a >>> (b &&& 31)) :: st) k n μ) : px_W l G y cc nL ret Rm Fn (pc) ls (.int b :: .int a :: st) k n μ := fun p e s m args below meth c H locs la X hl hF => lv_ishr X.1 X.2.1 d  (h p e s m args below meth c H locs la X hl hF)
theorem px_idiv {a b : Int32} (d : decode cc pc = .ok (.idiv, 1)) (hb : ¬ b = 0) (h : px_W l G y cc nL ret Rm Fn (pc + 1) ls (.int (a / b) :: st) k n μ) : px_W l G y cc nL ret Rm Fn (pc) ls (.int b :: .int a :: st) k n μ := fun p e s m args below meth c H locs la X hl hF => lv_idiv X.1 X.2.1 d hb (h p e s m args below meth c H locs la X hl hF)
theorem px_irem {a b : Int32} (d : decode cc pc = .ok (.irem, 1)) (hb : ¬ b = 0) (h : px_W l G y cc nL ret Rm Fn (pc + 1) ls (.int (a - a / b * b) :: st) k n μ) : px_W l G y cc nL ret Rm Fn (pc) ls (.int b :: .int a :: st) k n μ := fun p e s m args below meth c H locs la X hl hF => lv_irem X.1 X.2.1 d hb (h p e s m args below meth c H locs la X hl hF)
theorem px_ladd {a b : Int64} (d : decode cc pc = .ok (.ladd, 1))  (h : px_W l G y cc nL ret Rm Fn (pc + 1) ls (.long (a + b) :: st) k n μ) : px_W l G y cc nL ret Rm Fn (pc) ls (.long b :: .long a :: st) k n μ := fun p e s m args below meth c H locs la X hl hF => lv_ladd X.1 X.2.1 d  (h p e s m args below meth c H locs la X hl hF)
theorem px_lsub {a b : Int64} (d : decode cc pc = .ok (.lsub, 1))  (h : px_W l G y cc nL ret Rm Fn (pc + 1) ls (.long (a - b) :: st) k n μ) : px_W l G y cc nL ret Rm Fn (pc) ls (.long b :: .long a :: st) k n μ := fun p e s m args below meth c H locs la X hl hF => lv_lsub X.1 X.2.1 d  (h p e s m args below meth c H locs la X hl hF)
theorem px_lmul {a b : Int64} (d : decode cc pc = .ok (.lmul, 1))  (h : px_W l G y cc nL ret Rm Fn (pc + 1) ls (.long (a * b) :: st) k n μ) : px_W l G y cc nL ret Rm Fn (pc) ls (.long b :: .long a :: st) k n μ := fun p e s m args below meth c H locs la X hl hF => lv_lmul X.1 X.2.1 d  (h p e s m args below meth c H locs la X hl hF)
theorem px_land {a b : Int64} (d : decode cc pc = .ok (.land, 1))  (h : px_W l G y cc nL ret Rm Fn (pc + 1) ls (.long (a &&& b) :: st) k n μ) : px_W l G y cc nL ret Rm Fn (pc) ls (.long b :: .long a :: st) k n μ := fun p e s m args below meth c H locs la X hl hF => lv_land X.1 X.2.1 d  (h p e s m args below meth c H locs la X hl hF)
theorem px_lor {a b : Int64} (d : decode cc pc = .ok (.lor, 1))  (h : px_W l G y cc nL ret Rm Fn (pc + 1) ls (.long (a ||| b) :: st) k n μ) : px_W l G y cc nL ret Rm Fn (pc) ls (.long b :: .long a :: st) k n μ := fun p e s m args below meth c H locs la X hl hF => lv_lor X.1 X.2.1 d  (h p e s m args below meth c H locs la X hl hF)
theorem px_lcmp {a b : Int64} (d : decode cc pc = .ok (.lcmp, 1))  (h : px_W l G y cc nL ret Rm Fn (pc + 1) ls (.int (lg_cmp a b) :: st) k n μ) : px_W l G y cc nL ret Rm Fn (pc) ls (.long b :: .long a :: st) k n μ := fun p e s m args below meth c H locs la X hl hF => W.lcmp X.1 X.2.1 d  (h p e s m args below meth c H locs la X hl hF)
theorem px_i2l {a : Int32} (d : decode cc pc = .ok (.i2l, 1))  (h : px_W l G y cc nL ret Rm Fn (pc + 1) ls (.long a.toInt64 :: st) k n μ) : px_W l G y cc nL ret Rm Fn (pc) ls (.int a :: st) k n μ := fun p e s m args below meth c H locs la X hl hF => lv_i2l X.1 X.2.1 d rfl (h p e s m args below meth c H locs la X hl hF)
theorem px_l2i {a : Int64} (d : decode cc pc = .ok (.l2i, 1))  (h : px_W l G y cc nL ret Rm Fn (pc + 1) ls (.int a.toInt32 :: st) k n μ) : px_W l G y cc nL ret Rm Fn (pc) ls (.long a :: st) k n μ := fun p e s m args below meth c H locs la X hl hF => lv_l2i X.1 X.2.1 d rfl (h p e s m args below meth c H locs la X hl hF)
theorem px_lshl {a : Int64} {b : Int32} (d : decode cc pc = .ok (.lshl, 1))  (h : px_W l G y cc nL ret Rm Fn (pc + 1) ls (.long (a <<< (b.toInt64 &&& 63)) :: st) k n μ) : px_W l G y cc nL ret Rm Fn (pc) ls (.int b :: .long a :: st) k n μ := fun p e s m args below meth c H locs la X hl hF => lv_lshl X.1 X.2.1 d rfl (h p e s m args below meth c H locs la X hl hF)
theorem px_lshr {a : Int64} {b : Int32} (d : decode cc pc = .ok (.lshr, 1))  (h : px_W l G y cc nL ret Rm Fn (pc + 1) ls (.long (a >>> (b.toInt64 &&& 63)) :: st) k n μ) : px_W l G y cc nL ret Rm Fn (pc) ls (.int b :: .long a :: st) k n μ := fun p e s m args below meth c H locs la X hl hF => lv_lshr X.1 X.2.1 d rfl (h p e s m args below meth c H locs la X hl hF)
theorem px_lushr {a : Int64} {b : Int32} (d : decode cc pc = .ok (.lushr, 1))  (h : px_W l G y cc nL ret Rm Fn (pc + 1) ls (.long (a.toUInt64 >>> (b.toInt64.toUInt64 &&& Int64.toUInt64 63)).toInt64 :: st) k n μ) : px_W l G y cc nL ret Rm Fn (pc) ls (.int b :: .long a :: st) k n μ := fun p e s m args below meth c H locs la X hl hF => lv_lushr X.1 X.2.1 d rfl (h p e s m args below meth c H locs la X hl hF)
theorem px_dup {a : Value} (d : decode cc pc = .ok (.dup, 1)) (ha : a.category = 1) (h : px_W l G y cc nL ret Rm Fn (pc + 1) ls (a :: a :: st) k n μ) : px_W l G y cc nL ret Rm Fn (pc) ls (a :: st) k n μ := fun p e s m args below meth c H locs la X hl hF => lv_dup X.1 X.2.1 d ha (h p e s m args below meth c H locs la X hl hF)
theorem px_pop {a : Value} (d : decode cc pc = .ok (.pop, 1)) (ha : a.category = 1) (h : px_W l G y cc nL ret Rm Fn (pc + 1) ls (st) k n μ) : px_W l G y cc nL ret Rm Fn (pc) ls (a :: st) k n μ := fun p e s m args below meth c H locs la X hl hF => lv_pop X.1 X.2.1 d ha (h p e s m args below meth c H locs la X hl hF)
theorem px_dup2 {a b : Value} (d : decode cc pc = .ok (.dup2, 1)) (ha : a.category = 1) (hb : b.category = 1) (h : px_W l G y cc nL ret Rm Fn (pc + 1) ls (a :: b :: a :: b :: st) k n μ) : px_W l G y cc nL ret Rm Fn (pc) ls (a :: b :: st) k n μ := fun p e s m args below meth c H locs la X hl hF => lv_dup2_11 X.1 X.2.1 d ha hb (h p e s m args below meth c H locs la X hl hF)
theorem px_dup2l {a : Int64} (d : decode cc pc = .ok (.dup2, 1))  (h : px_W l G y cc nL ret Rm Fn (pc + 1) ls (.long a :: .long a :: st) k n μ) : px_W l G y cc nL ret Rm Fn (pc) ls (.long a :: st) k n μ := fun p e s m args below meth c H locs la X hl hF => lv_dup2_2 X.1 X.2.1 d rfl (h p e s m args below meth c H locs la X hl hF)
theorem px_goto {off : Int} {tgt : Nat} (d : decode cc pc = .ok (.goto off, 3)) (ht : (pc : Int) + off = (tgt : Int)) (h : px_W l G y cc nL ret Rm Fn (tgt) ls (st) k n μ) : px_W l G y cc nL ret Rm Fn (pc) ls (st) k n μ := fun p e s m args below meth c H locs la X hl hF => lv_goto X.1 X.2.1 d ht (h p e s m args below meth c H locs la X hl hF)
theorem px_if_eq {a : Int32} {off : Int} {tgt : Nat} (d : decode cc pc = .ok (.ifCond .eq off, 3)) (ht : (pc : Int) + off = (tgt : Int)) (kt : a = 0 → px_W l G y cc nL ret Rm Fn (tgt) ls (st) k n μ) (kf : ¬ a = 0 → px_W l G y cc nL ret Rm Fn (pc + 3) ls (st) k n μ) : px_W l G y cc nL ret Rm Fn (pc) ls (.int a :: st) k n μ := fun p e s m args below meth c H locs la X hl hF => lv_if_eq X.1 X.2.1 d ht (fun q => kt q p e s m args below meth c H locs la X hl hF) (fun q => kf q p e s m args below meth c H locs la X hl hF)
theorem px_if_lt {a : Int32} {off : Int} {tgt : Nat} (d : decode cc pc = .ok (.ifCond .lt off, 3)) (ht : (pc : Int) + off = (tgt : Int)) (kt : a < 0 → px_W l G y cc nL ret Rm Fn (tgt) ls (st) k n μ) (kf : ¬ a < 0 → px_W l G y cc nL ret Rm Fn (pc + 3) ls (st) k n μ) : px_W l G y cc nL ret Rm Fn (pc) ls (.int a :: st) k n μ := fun p e s m args below meth c H locs la X hl hF => lv_if_lt X.1 X.2.1 d ht (fun q => kt q p e s m args below meth c H locs la X hl hF) (fun q => kf q p e s m args below meth c H locs la X hl hF)
theorem px_if_ge {a : Int32} {off : Int} {tgt : Nat} (d : decode cc pc = .ok (.ifCond .ge off, 3)) (ht : (pc : Int) + off = (tgt : Int)) (kt : 0 ≤ a → px_W l G y cc nL ret Rm Fn (tgt) ls (st) k n μ) (kf : ¬ 0 ≤ a → px_W l G y cc nL ret Rm Fn (pc + 3) ls (st) k n μ) : px_W l G y cc nL ret Rm Fn (pc) ls (.int a :: st) k n μ := fun p e s m args below meth c H locs la X hl hF => lv_if_ge X.1 X.2.1 d ht (fun q => kt q p e s m args below meth c H locs la X hl hF) (fun q => kf q p e s m args below meth c H locs la X hl hF)
theorem px_if_gt {a : Int32} {off : Int} {tgt : Nat} (d : decode cc pc = .ok (.ifCond .gt off, 3)) (ht : (pc : Int) + off = (tgt : Int)) (kt : 0 < a → px_W l G y cc nL ret Rm Fn (tgt) ls (st) k n μ) (kf : ¬ 0 < a → px_W l G y cc nL ret Rm Fn (pc + 3) ls (st) k n μ) : px_W l G y cc nL ret Rm Fn (pc) ls (.int a :: st) k n μ := fun p e s m args below meth c H locs la X hl hF => lv_if_gt X.1 X.2.1 d ht (fun q => kt q p e s m args below meth c H locs la X hl hF) (fun q => kf q p e s m args below meth c H locs la X hl hF)
theorem px_if_le {a : Int32} {off : Int} {tgt : Nat} (d : decode cc pc = .ok (.ifCond .le off, 3)) (ht : (pc : Int) + off = (tgt : Int)) (kt : a ≤ 0 → px_W l G y cc nL ret Rm Fn (tgt) ls (st) k n μ) (kf : ¬ a ≤ 0 → px_W l G y cc nL ret Rm Fn (pc + 3) ls (st) k n μ) : px_W l G y cc nL ret Rm Fn (pc) ls (.int a :: st) k n μ := fun p e s m args below meth c H locs la X hl hF => lv_if_le X.1 X.2.1 d ht (fun q => kt q p e s m args below meth c H locs la X hl hF) (fun q => kf q p e s m args below meth c H locs la X hl hF)
theorem px_if_ne {a : Int32} {off : Int} {tgt : Nat} (d : decode cc pc = .ok (.ifCond .ne off, 3)) (ht : (pc : Int) + off = (tgt : Int)) (kt : ¬ a = 0 → px_W l G y cc nL ret Rm Fn (tgt) ls (st) k n μ) (kf : a = 0 → px_W l G y cc nL ret Rm Fn (pc + 3) ls (st) k n μ) : px_W l G y cc nL ret Rm Fn (pc) ls (.int a :: st) k n μ := fun p e s m args below meth c H locs la X hl hF => lv_if_ne X.1 X.2.1 d ht (fun q => kt q p e s m args below meth c H locs la X hl hF) (fun q => kf q p e s m args below meth c H locs la X hl hF)
theorem px_icmp_eq {a b : Int32} {off : Int} {tgt : Nat} (d : decode cc pc = .ok (.if_icmp .eq off, 3)) (ht : (pc : Int) + off = (tgt : Int)) (kt : a = b → px_W l G y cc nL ret Rm Fn (tgt) ls (st) k n μ) (kf : ¬ a = b → px_W l G y cc nL ret Rm Fn (pc + 3) ls (st) k n μ) : px_W l G y cc nL ret Rm Fn (pc) ls (.int b :: .int a :: st) k n μ := fun p e s m args below meth c H locs la X hl hF => lv_icmp_eq X.1 X.2.1 d ht (fun q => kt q p e s m args below meth c H locs la X hl hF) (fun q => kf q p e s m args below meth c H locs la X hl hF)
theorem px_icmp_lt {a b : Int32} {off : Int} {tgt : Nat} (d : decode cc pc = .ok (.if_icmp .lt off, 3)) (ht : (pc : Int) + off = (tgt : Int)) (kt : a < b → px_W l G y cc nL ret Rm Fn (tgt) ls (st) k n μ) (kf : ¬ a < b → px_W l G y cc nL ret Rm Fn (pc + 3) ls (st) k n μ) : px_W l G y cc nL ret Rm Fn (pc) ls (.int b :: .int a :: st) k n μ := fun p e s m args below meth c H locs la X hl hF => lv_icmp_lt X.1 X.2.1 d ht (fun q => kt q p e s m args below meth c H locs la X hl hF) (fun q => kf q p e s m args below meth c H locs la X hl hF)
theorem px_icmp_ge {a b : Int32} {off : Int} {tgt : Nat} (d : decode cc pc = .ok (.if_icmp .ge off, 3)) (ht : (pc : Int) + off = (tgt : Int)) (kt : b ≤ a → px_W l G y cc nL ret Rm Fn (tgt) ls (st) k n μ) (kf : ¬ b ≤ a → px_W l G y cc nL ret Rm Fn (pc + 3) ls (st) k n μ) : px_W l G y cc nL ret Rm Fn (pc) ls (.int b :: .int a :: st) k n μ := fun p e s m args below meth c H locs la X hl hF => lv_icmp_ge X.1 X.2.1 d ht (fun q => kt q p e s m args below meth c H locs la X hl hF) (fun q => kf q p e s m args below meth c H locs la X hl hF)
theorem px_icmp_gt {a b : Int32} {off : Int} {tgt : Nat} (d : decode cc pc = .ok (.if_icmp .gt off, 3)) (ht : (pc : Int) + off = (tgt : Int)) (kt : b < a → px_W l G y cc nL ret Rm Fn (tgt) ls (st) k n μ) (kf : ¬ b < a → px_W l G y cc nL ret Rm Fn (pc + 3) ls (st) k n μ) : px_W l G y cc nL ret Rm Fn (pc) ls (.int b :: .int a :: st) k n μ := fun p e s m args below meth c H locs la X hl hF => lv_icmp_gt X.1 X.2.1 d ht (fun q => kt q p e s m args below meth c H locs la X hl hF) (fun q => kf q p e s m args below meth c H locs la X hl hF)
theorem px_icmp_le {a b : Int32} {off : Int} {tgt : Nat} (d : decode cc pc = .ok (.if_icmp .le off, 3)) (ht : (pc : Int) + off = (tgt : Int)) (kt : a ≤ b → px_W l G y cc nL ret Rm Fn (tgt) ls (st) k n μ) (kf : ¬ a ≤ b → px_W l G y cc nL ret Rm Fn (pc + 3) ls (st) k n μ) : px_W l G y cc nL ret Rm Fn (pc) ls (.int b :: .int a :: st) k n μ := fun p e s m args below meth c H locs la X hl hF => lv_icmp_le X.1 X.2.1 d ht (fun q => kt q p e s m args below meth c H locs la X hl hF) (fun q => kf q p e s m args below meth c H locs la X hl hF)
theorem px_icmp_ne {a b : Int32} {off : Int} {tgt : Nat} (d : decode cc pc = .ok (.if_icmp .ne off, 3)) (ht : (pc : Int) + off = (tgt : Int)) (kt : ¬ a = b → px_W l G y cc nL ret Rm Fn (tgt) ls (st) k n μ) (kf : a = b → px_W l G y cc nL ret Rm Fn (pc + 3) ls (st) k n μ) : px_W l G y cc nL ret Rm Fn (pc) ls (.int b :: .int a :: st) k n μ := fun p e s m args below meth c H locs la X hl hF => lv_icmp_ne X.1 X.2.1 d ht (fun q => kt q p e s m args below meth c H locs la X hl hF) (fun q => kf q p e s m args below meth c H locs la X hl hF)
theorem px_tableOut {dflt lo hi : Int} {offs : Array Int} {len : Nat} {x : Int32} {tgt : Nat} (d : decode cc pc = .ok (.tableswitch dflt lo hi offs, len)) (hx : x.toInt < lo ∨ hi < x.toInt) (ht : (pc : Int) + dflt = (tgt : Int)) (h : px_W l G y cc nL ret Rm Fn (tgt) ls (st) k n μ) : px_W l G y cc nL ret Rm Fn (pc) ls (.int x :: st) k n μ := fun p e s m args below meth c H locs la X hl hF => lv_tableOut X.1 X.2.1 d hx ht (h p e s m args below meth c H locs la X hl hF)
theorem px_tableIn {dflt lo hi : Int} {offs : Array Int} {len : Nat} {x : Int32} {off : Int} {tgt : Nat} (d : decode cc pc = .ok (.tableswitch dflt lo hi offs, len)) (h1 : ¬ x.toInt < lo) (h2 : ¬ hi < x.toInt) (ho : offs[(x.toInt - lo).toNat]? = some off) (ht : (pc : Int) + off = (tgt : Int)) (h : px_W l G y cc nL ret Rm Fn (tgt) ls (st) k n μ) : px_W l G y cc nL ret Rm Fn (pc) ls (.int x :: st) k n μ := fun p e s m args below meth c H locs la X hl hF => lv_tableIn X.1 X.2.1 d h1 h2 ho ht (h p e s m args below meth c H locs la X hl hF)
theorem px_lookup {dflt : Int} {ps : Array (Int × Int)} {len : Nat} {x : Int32} {off : Int} {tgt : Nat} (d : decode cc pc = .ok (.lookupswitch dflt ps, len)) (hp : (ps.toList.zip (ps.toList.drop 1)).all (fun (a, next) => a.1 < next.1) = true) (ho : Op.lookupswitch.offset ps.toList dflt x.toInt = off) (ht : (pc : Int) + off = (tgt : Int)) (h : px_W l G y cc nL ret Rm Fn (tgt) ls (st) k n μ) : px_W l G y cc nL ret Rm Fn (pc) ls (.int x :: st) k n μ := fun p e s m args below meth c H locs la X hl hF => lv_lookup X.1 X.2.1 d hp ho ht (h p e s m args below meth c H locs la X hl hF)
theorem px_iload_0 {r : List (Option Value)} {x : Int32} (d : decode cc pc = .ok (.iload_n 0, 1)) (h : px_W l G y cc nL ret Rm Fn (pc + 1) (some (.int x) :: r) (.int x :: st) k n μ) : px_W l G y cc nL ret Rm Fn (pc) (some (.int x) :: r) (st) k n μ := fun p e s m args below meth c H locs la X hl hF => lv_iload_n X.1 X.2.1 d rfl (hl.at rfl) (h p e s m args below meth c H locs la X hl hF)
theorem px_aload_0 {r : List (Option Value)} {x : Nat} (d : decode cc pc = .ok (.aload_n 0, 1)) (h : px_W l G y cc nL ret Rm Fn (pc + 1) (some (.ref x) :: r) (.ref x :: st) k n μ) : px_W l G y cc nL ret Rm Fn (pc) (some (.ref x) :: r) (st) k n μ := fun p e s m args below meth c H locs la X hl hF => lv_aload_n X.1 X.2.1 d rfl (hl.at rfl) (h p e s m args below meth c H locs la X hl hF)
theorem px_lload_0 {r : List (Option Value)} {x : Int64} (d : decode cc pc = .ok (.lload_n 0, 1)) (h : px_W l G y cc nL ret Rm Fn (pc + 1) (some (.long x) :: r) (.long x :: st) k n μ) : px_W l G y cc nL ret Rm Fn (pc) (some (.long x) :: r) (st) k n μ := fun p e s m args below meth c H locs la X hl hF => lv_lload_n X.1 X.2.1 d rfl (hl.at rfl) (h p e s m args below meth c H locs la X hl hF)
theorem px_istore_0 {r : List (Option Value)} {o : Option Value} {x : Int32} (d : decode cc pc = .ok (.istore_n 0, 1)) (h : px_W l G y cc nL ret Rm Fn (pc + 1) (some (.int x) :: r) (st) k n μ) : px_W l G y cc nL ret Rm Fn (pc) (o :: r) (.int x :: st) k n μ := by
  intro p e s m args below meth c H locs la X hl hF
  refine lv_istore_n X.1 X.2.1 d rfl hl.1 (by have := hl.2; simp only [List.length_cons] at this; omega) rfl (fun la' h' => h p e s m args below meth c H locs la' X ?_ hF)
  exact hl.set (i := 0) (fun j w e _ => by omega) h'
theorem px_astore_0 {r : List (Option Value)} {o : Option Value} {x : Nat} (d : decode cc pc = .ok (.astore_n 0, 1)) (h : px_W l G y cc nL ret Rm Fn (pc + 1) (some (.ref x) :: r) (st) k n μ) : px_W l G y cc nL ret Rm Fn (pc) (o :: r) (.ref x :: st) k n μ := by
  intro p e s m args below meth c H locs la X hl hF
  refine lv_astore_n X.1 X.2.1 d rfl hl.1 (by have := hl.2; simp only [List.length_cons] at this; omega) rfl (fun la' h' => h p e s m args below meth c H locs la' X ?_ hF)
  exact hl.set (i := 0) (fun j w e _ => by omega) h'
theorem px_lstore_0 {r : List (Option Value)} {o o2 : Option Value} {x : Int64} (d : decode cc pc = .ok (.lstore_n 0, 1)) (h : px_W l G y cc nL ret Rm Fn (pc + 1) (some (.long x) :: none :: r) (st) k n μ) : px_W l G y cc nL ret Rm Fn (pc) (o :: o2 :: r) (.long x :: st) k n μ := by
  intro p e s m args below meth c H locs la X hl hF
  refine lv_lstore_n X.1 X.2.1 d rfl hl.1 (by have := hl.2; simp only [List.length_cons] at this; omega) rfl (fun la' h' => h p e s m args below meth c H locs la' X ?_ hF)
  exact hl.set2 (i := 0) (fun j w e _ => by omega) h'
theorem px_iinc_0 {r : List (Option Value)} {x : Int32} {z : Int} (d : decode cc pc = .ok (.iinc 0 z, 3)) (h : px_W l G y cc nL ret Rm Fn (pc + 3) (some (.int (x + Int32.ofInt z)) :: r) (st) k n μ) : px_W l G y cc nL ret Rm Fn (pc) (some (.int x) :: r) (st) k n μ := by
  intro p e s m args below meth c H locs la X hl hF
  obtain ⟨q, hq⟩ := List.getElem?_of_mem ((px_lv_mem (some (.int x) :: r) 0 0 (.int x)).mpr ⟨0, by omega, rfl⟩)
  refine lv_iinc X.1 X.2.1 d hl.1 hq rfl (by have := hl.2; simp only [List.length_cons] at this; omega) rfl (fun la' h' => h p e s m args below meth c H locs la' X ?_ hF)
  exact hl.set (i := 0) (fun j w e _ => by omega) h'
theorem px_iload_1 {a0 : Option Value} {r : List (Option Value)} {x : Int32} (d : decode cc pc = .ok (.iload_n 1, 1)) (h : px_W l G y cc nL ret Rm Fn (pc + 1) (a0 :: some (.int x) :: r) (.int x :: st) k n μ) : px_W l G y cc nL ret Rm Fn (pc) (a0 :: some (.int x) :: r) (st) k n μ := fun p e s m args below meth c H locs la X hl hF => lv_iload_n X.1 X.2.1 d rfl (hl.at rfl) (h p e s m args below meth c H locs la X hl hF)
theorem px_aload_1 {a0 : Option Value} {r : List (Option Value)} {x : Nat} (d : decode cc pc = .ok (.aload_n 1, 1)) (h : px_W l G y cc nL ret Rm Fn (pc + 1) (a0 :: some (.ref x) :: r) (.ref x :: st) k n μ) : px_W l G y cc nL ret Rm Fn (pc) (a0 :: some (.ref x) :: r) (st) k n μ := fun p e s m args below meth c H locs la X hl hF => lv_aload_n X.1 X.2.1 d rfl (hl.at rfl) (h p e s m args below meth c H locs la X hl hF)
theorem px_lload_1 {a0 : Option Value} {r : List (Option Value)} {x : Int64} (d : decode cc pc = .ok (.lload_n 1, 1)) (h : px_W l G y cc nL ret Rm Fn (pc + 1) (a0 :: some (.long x) :: r) (.long x :: st) k n μ) : px_W l G y cc nL ret Rm Fn (pc) (a0 :: some (.long x) :: r) (st) k n μ := fun p e s m args below meth c H locs la X hl hF => lv_lload_n X.1 X.2.1 d rfl (hl.at rfl) (h p e s m args below meth c H locs la X hl hF)
theorem px_istore_1 {a0 : Option Value} {r : List (Option Value)} {o : Option Value} {x : Int32} (d : decode cc pc = .ok (.istore_n 1, 1)) (hp : px_nl a0 = true) (h : px_W l G y cc nL ret Rm Fn (pc + 1) (a0 :: some (.int x) :: r) (st) k n μ) : px_W l G y cc nL ret Rm Fn (pc) (a0 :: o :: r) (.int x :: st) k n μ := by
  intro p e s m args below meth c H locs la X hl hF
  refine lv_istore_n X.1 X.2.1 d rfl hl.1 (by have := hl.2; simp only [List.length_cons] at this; omega) rfl (fun la' h' => h p e s m args below meth c H locs la' X ?_ hF)
  exact hl.set (i := 1) (fun j w e q => by obtain rfl : j = 0 := (by omega); exact px_nl2 hp (Option.some.inj q)) h'
theorem px_astore_1 {a0 : Option Value} {r : List (Option Value)} {o : Option Value} {x : Nat} (d : decode cc pc = .ok (.astore_n 1, 1)) (hp : px_nl a0 = true) (h : px_W l G y cc nL ret Rm Fn (pc + 1) (a0 :: some (.ref x) :: r) (st) k n μ) : px_W l G y cc nL ret Rm Fn (pc) (a0 :: o :: r) (.ref x :: st) k n μ := by
  intro p e s m args below meth c H locs la X hl hF
  refine lv_astore_n X.1 X.2.1 d rfl hl.1 (by have := hl.2; simp only [List.length_cons] at this; omega) rfl (fun la' h' => h p e s m args below meth c H locs la' X ?_ hF)
  exact hl.set (i := 1) (fun j w e q => by obtain rfl : j = 0 := (by omega); exact px_nl2 hp (Option.some.inj q)) h'
theorem px_lstore_1 {a0 : Option Value} {r : List (Option Value)} {o o2 : Option Value} {x : Int64} (d : decode cc pc = .ok (.lstore_n 1, 1)) (hp : px_nl a0 = true) (h : px_W l G y cc nL ret Rm Fn (pc + 1) (a0 :: some (.long x) :: none :: r) (st) k n μ) : px_W l G y cc nL ret Rm Fn (pc) (a0 :: o :: o2 :: r) (.long x :: st) k n μ := by
  intro p e s m args below meth c H locs la X hl hF
  refine lv_lstore_n X.1 X.2.1 d rfl hl.1 (by have := hl.2; simp only [List.length_cons] at this; omega) rfl (fun la' h' => h p e s m args below meth c H locs la' X ?_ hF)
  exact hl.set2 (i := 1) (fun j w e q => by obtain rfl : j = 0 := (by omega); exact px_nl2 hp (Option.some.inj q)) h'
theorem px_iinc_1 {a0 : Option Value} {r : List (Option Value)} {x : Int32} {z : Int} (d : decode cc pc = .ok (.iinc 1 z, 3)) (hp : px_nl a0 = true) (h : px_W l G y cc nL ret Rm Fn (pc + 3) (a0 :: some (.int (x + Int32.ofInt z)) :: r) (st) k n μ) : px_W l G y cc nL ret Rm Fn (pc) (a0 :: some (.int x) :: r) (st) k n μ := by
  intro p e s m args below meth c H locs la X hl hF
  obtain ⟨q, hq⟩ := List.getElem?_of_mem ((px_lv_mem (a0 :: some (.int x) :: r) 0 1 (.int x)).mpr ⟨1, by omega, rfl⟩)
  refine lv_iinc X.1 X.2.1 d hl.1 hq rfl (by have := hl.2; simp only [List.length_cons] at this; omega) rfl (fun la' h' => h p e s m args below meth c H locs la' X ?_ hF)
  exact hl.set (i := 1) (fun j w e q => by obtain rfl : j = 0 := (by omega); exact px_nl2 hp (Option.some.inj q)) h'
theorem px_iload_2 {a0 a1 : Option Value} {r : List (Option Value)} {x : Int32} (d : decode cc pc = .ok (.iload_n 2, 1)) (h : px_W l G y cc nL ret Rm Fn (pc + 1) (a0 :: a1 :: some (.int x) :: r) (.int x :: st) k n μ) : px_W l G y cc nL ret Rm Fn (pc) (a0 :: a1 :: some (.int x) :: r) (st) k n μ := fun p e s m args below meth c H locs la X hl hF => lv_iload_n X.1 X.2.1 d rfl (hl.at rfl) (h p e s m args below meth c H locs la X hl hF)
theorem px_aload_2 {a0 a1 : Option Value} {r : List (Option Value)} {x : Nat} (d : decode cc pc = .ok (.aload_n 2, 1)) (h : px_W l G y cc nL ret Rm Fn (pc + 1) (a0 :: a1 :: some (.ref x) :: r) (.ref x :: st) k n μ) : px_W l G y cc nL ret Rm Fn (pc) (a0 :: a1 :: some (.ref x) :: r) (st) k n μ := fun p e s m args below meth c H locs la X hl hF => lv_aload_n X.1 X.2.1 d rfl (hl.at rfl) (h p e s m args below meth c H locs la X hl hF)
theorem px_lload_2 {a0 a1 : Option Value} {r : List (Option Value)} {x : Int64} (d : decode cc pc = .ok (.lload_n 2, 1)) (h : px_W l G y cc nL ret Rm Fn (pc + 1) (a0 :: a1 :: some (.long x) :: r) (.long x :: st) k n μ) : px_W l G y cc nL ret Rm Fn (pc) (a0 :: a1 :: some (.long x) :: r) (st) k n μ := fun p e s m args below meth c H locs la X hl hF => lv_lload_n X.1 X.2.1 d rfl (hl.at rfl) (h p e s m args below meth c H locs la X hl hF)
theorem px_istore_2 {a0 a1 : Option Value} {r : List (Option Value)} {o : Option Value} {x : Int32} (d : decode cc pc = .ok (.istore_n 2, 1)) (hp : px_nl a1 = true) (h : px_W l G y cc nL ret Rm Fn (pc + 1) (a0 :: a1 :: some (.int x) :: r) (st) k n μ) : px_W l G y cc nL ret Rm Fn (pc) (a0 :: a1 :: o :: r) (.int x :: st) k n μ := by
  intro p e s m args below meth c H locs la X hl hF
  refine lv_istore_n X.1 X.2.1 d rfl hl.1 (by have := hl.2; simp only [List.length_cons] at this; omega) rfl (fun la' h' => h p e s m args below meth c H locs la' X ?_ hF)
  exact hl.set (i := 2) (fun j w e q => by obtain rfl : j = 1 := (by omega); exact px_nl2 hp (Option.some.inj q)) h'
theorem px_astore_2 {a0 a1 : Option Value} {r : List (Option Value)} {o : Option Value} {x : Nat} (d : decode cc pc = .ok (.astore_n 2, 1)) (hp : px_nl a1 = true) (h : px_W l G y cc nL ret Rm Fn (pc + 1) (a0 :: a1 :: some (.ref x) :: r) (st) k n μ) : px_W l G y cc nL ret Rm Fn (pc) (a0 :: a1 :: o :: r) (.ref x :: st) k n μ := by
  intro p e s m args below meth c H locs la X hl hF
  refine lv_astore_n X.1 X.2.1 d rfl hl.1 (by have := hl.2; simp only [List.length_cons] at this; omega) rfl (fun la' h' => h p e s m args below meth c H locs la' X ?_ hF)
  exact hl.set (i := 2) (fun j w e q => by obtain rfl : j = 1 := (by omega); exact px_nl2 hp (Option.some.inj q)) h'
theorem px_lstore_2 {a0 a1 : Option Value} {r : List (Option Value)} {o o2 : Option Value} {x : Int64} (d : decode cc pc = .ok (.lstore_n 2, 1)) (hp : px_nl a1 = true) (h : px_W l G y cc nL ret Rm Fn (pc + 1) (a0 :: a1 :: some (.long x) :: none :: r) (st) k n μ) : px_W l G y cc nL ret Rm Fn (pc) (a0 :: a1 :: o :: o2 :: r) (.long x :: st) k n μ := by
  intro p e s m args below meth c H locs la X hl hF
  refine lv_lstore_n X.1 X.2.1 d rfl hl.1 (by have := hl.2; simp only [List.length_cons] at this; omega) rfl (fun la' h' => h p e s m args below meth c H locs la' X ?_ hF)
  exact hl.set2 (i := 2) (fun j w e q => by obtain rfl : j = 1 := (by omega); exact px_nl2 hp (Option.some.inj q)) h'
theorem px_iinc_2 {a0 a1 : Option Value} {r : List (Option Value)} {x : Int32} {z : Int} (d : decode cc pc = .ok (.iinc 2 z, 3)) (hp : px_nl a1 = true) (h : px_W l G y cc nL ret Rm Fn (pc + 3) (a0 :: a1 :: some (.int (x + Int32.ofInt z)) :: r) (st) k n μ) : px_W l G y cc nL ret Rm Fn (pc) (a0 :: a1 :: some (.int x) :: r) (st) k n μ := by
  intro p e s m args below meth c H locs la X hl hF
  obtain ⟨q, hq⟩ := List.getElem?_of_mem ((px_lv_mem (a0 :: a1 :: some (.int x) :: r) 0 2 (.int x)).mpr ⟨2, by omega, rfl⟩)
  refine lv_iinc X.1 X.2.1 d hl.1 hq rfl (by have := hl.2; simp only [List.length_cons] at this; omega) rfl (fun la' h' => h p e s m args below meth c H locs la' X ?_ hF)
  exact hl.set (i := 2) (fun j w e q => by obtain rfl : j = 1 := (by omega); exact px_nl2 hp (Option.some.inj q)) h'
theorem px_iload_3 {a0 a1 a2 : Option Value} {r : List (Option Value)} {x : Int32} (d : decode cc pc = .ok (.iload_n 3, 1)) (h : px_W l G y cc nL ret Rm Fn (pc + 1) (a0 :: a1 :: a2 :: some (.int x) :: r) (.int x :: st) k n μ) : px_W l G y cc nL ret Rm Fn (pc) (a0 :: a1 :: a2 :: some (.int x) :: r) (st) k n μ := fun p e s m args below meth c H locs la X hl hF => lv_iload_n X.1 X.2.1 d rfl (hl.at rfl) (h p e s m args below meth c H locs la X hl hF)
theorem px_aload_3 {a0 a1 a2 : Option Value} {r : List (Option Value)} {x : Nat} (d : decode cc pc = .ok (.aload_n 3, 1)) (h : px_W l G y cc nL ret Rm Fn (pc + 1) (a0 :: a1 :: a2 :: some (.ref x) :: r) (.ref x :: st) k n μ) : px_W l G y cc nL ret Rm Fn (pc) (a0 :: a1 :: a2 :: some (.ref x) :: r) (st) k n μ := fun p e s m args below meth c H locs la X hl hF => lv_aload_n X.1 X.2.1 d rfl (hl.at rfl) (h p e s m args below meth c H locs la X hl hF)
theorem px_lload_3 {a0 a1 a2 : Option Value} {r : List (Option Value)} {x : Int64} (d : decode cc pc = .ok (.lload_n 3, 1)) (h : px_W l G y cc nL ret Rm Fn (pc + 1) (a0 :: a1 :: a2 :: some (.long x) :: r) (.long x :: st) k n μ) : px_W l G y cc nL ret Rm Fn (pc) (a0 :: a1 :: a2 :: some (.long x) :: r) (st) k n μ := fun p e s m args below meth c H locs la X hl hF => lv_lload_n X.1 X.2.1 d rfl (hl.at rfl) (h p e s m args below meth c H locs la X hl hF)
theorem px_istore_3 {a0 a1 a2 : Option Value} {r : List (Option Value)} {o : Option Value} {x : Int32} (d : decode cc pc = .ok (.istore_n 3, 1)) (hp : px_nl a2 = true) (h : px_W l G y cc nL ret Rm Fn (pc + 1) (a0 :: a1 :: a2 :: some (.int x) :: r) (st) k n μ) : px_W l G y cc nL ret Rm Fn (pc) (a0 :: a1 :: a2 :: o :: r) (.int x :: st) k n μ := by
  intro p e s m args below meth c H locs la X hl hF
  refine lv_istore_n X.1 X.2.1 d rfl hl.1 (by have := hl.2; simp only [List.length_cons] at this; omega) rfl (fun la' h' => h p e s m args below meth c H locs la' X ?_ hF)
  exact hl.set (i := 3) (fun j w e q => by obtain rfl : j = 2 := (by omega); exact px_nl2 hp (Option.some.inj q)) h'
theorem px_astore_3 {a0 a1 a2 : Option Value} {r : List (Option Value)} {o : Option Value} {x : Nat} (d : decode cc pc = .ok (.astore_n 3, 1)) (hp : px_nl a2 = true) (h : px_W l G y cc nL ret Rm Fn (pc + 1) (a0 :: a1 :: a2 :: some (.ref x) :: r) (st) k n μ) : px_W l G y cc nL ret Rm Fn (pc) (a0 :: a1 :: a2 :: o :: r) (.ref x :: st) k n μ := by
  intro p e s m args below meth c H locs la X hl hF
  refine lv_astore_n X.1 X.2.1 d rfl hl.1 (by have := hl.2; simp only [List.length_cons] at this; omega) rfl (fun la' h' => h p e s m args below meth c H locs la' X ?_ hF)
  exact hl.set (i := 3) (fun j w e q => by obtain rfl : j = 2 := (by omega); exact px_nl2 hp (Option.some.inj q)) h'
theorem px_lstore_3 {a0 a1 a2 : Option Value} {r : List (Option Value)} {o o2 : Option Value} {x : Int64} (d : decode cc pc = .ok (.lstore_n 3, 1)) (hp : px_nl a2 = true) (h : px_W l G y cc nL ret Rm Fn (pc + 1) (a0 :: a1 :: a2 :: some (.long x) :: none :: r) (st) k n μ) : px_W l G y cc nL ret Rm Fn (pc) (a0 :: a1 :: a2 :: o :: o2 :: r) (.long x :: st) k n μ := by
  intro p e s m args below meth c H locs la X hl hF
  refine lv_lstore_n X.1 X.2.1 d rfl hl.1 (by have := hl.2; simp only [List.length_cons] at this; omega) rfl (fun la' h' => h p e s m args below meth c H locs la' X ?_ hF)
  exact hl.set2 (i := 3) (fun j w e q => by obtain rfl : j = 2 := (by omega); exact px_nl2 hp (Option.some.inj q)) h'
theorem px_iinc_3 {a0 a1 a2 : Option Value} {r : List (Option Value)} {x : Int32} {z : Int} (d : decode cc pc = .ok (.iinc 3 z, 3)) (hp : px_nl a2 = true) (h : px_W l G y cc nL ret Rm Fn (pc + 3) (a0 :: a1 :: a2 :: some (.int (x + Int32.ofInt z)) :: r) (st) k n μ) : px_W l G y cc nL ret Rm Fn (pc) (a0 :: a1 :: a2 :: some (.int x) :: r) (st) k n μ := by
  intro p e s m args below meth c H locs la X hl hF
  obtain ⟨q, hq⟩ := List.getElem?_of_mem ((px_lv_mem (a0 :: a1 :: a2 :: some (.int x) :: r) 0 3 (.int x)).mpr ⟨3, by omega, rfl⟩)
  refine lv_iinc X.1 X.2.1 d hl.1 hq rfl (by have := hl.2; simp only [List.length_cons] at this; omega) rfl (fun la' h' => h p e s m args below meth c H locs la' X ?_ hF)
  exact hl.set (i := 3) (fun j w e q => by obtain rfl : j = 2 := (by omega); exact px_nl2 hp (Option.some.inj q)) h'
theorem px_iload_4 {a0 a1 a2 a3 : Option Value} {r : List (Option Value)} {x : Int32} (d : decode cc pc = .ok (.iload 4, 2)) (h : px_W l G y cc nL ret Rm Fn (pc + 2) (a0 :: a1 :: a2 :: a3 :: some (.int x) :: r) (.int x :: st) k n μ) : px_W l G y cc nL ret Rm Fn (pc) (a0 :: a1 :: a2 :: a3 :: some (.int x) :: r) (st) k n μ := fun p e s m args below meth c H locs la X hl hF => lv_iload X.1 X.2.1 d (hl.at rfl) (h p e s m args below meth c H locs la X hl hF)
theorem px_aload_4 {a0 a1 a2 a3 : Option Value} {r : List (Option Value)} {x : Nat} (d : decode cc pc = .ok (.aload 4, 2)) (h : px_W l G y cc nL ret Rm Fn (pc + 2) (a0 :: a1 :: a2 :: a3 :: some (.ref x) :: r) (.ref x :: st) k n μ) : px_W l G y cc nL ret Rm Fn (pc) (a0 :: a1 :: a2 :: a3 :: some (.ref x) :: r) (st) k n μ := fun p e s m args below meth c H locs la X hl hF => lv_aload X.1 X.2.1 d (hl.at rfl) (h p e s m args below meth c H locs la X hl hF)
theorem px_lload_4 {a0 a1 a2 a3 : Option Value} {r : List (Option Value)} {x : Int64} (d : decode cc pc = .ok (.lload 4, 2)) (h : px_W l G y cc nL ret Rm Fn (pc + 2) (a0 :: a1 :: a2 :: a3 :: some (.long x) :: r) (.long x :: st) k n μ) : px_W l G y cc nL ret Rm Fn (pc) (a0 :: a1 :: a2 :: a3 :: some (.long x) :: r) (st) k n μ := fun p e s m args below meth c H locs la X hl hF => lv_lload X.1 X.2.1 d (hl.at rfl) (h p e s m args below meth c H locs la X hl hF)
theorem px_istore_4 {a0 a1 a2 a3 : Option Value} {r : List (Option Value)} {o : Option Value} {x : Int32} (d : decode cc pc = .ok (.istore 4, 2)) (hp : px_nl a3 = true) (h : px_W l G y cc nL ret Rm Fn (pc + 2) (a0 :: a1 :: a2 :: a3 :: some (.int x) :: r) (st) k n μ) : px_W l G y cc nL ret Rm Fn (pc) (a0 :: a1 :: a2 :: a3 :: o :: r) (.int x :: st) k n μ := by
  intro p e s m args below meth c H locs la X hl hF
  refine lv_istore X.1 X.2.1 d hl.1 (by have := hl.2; simp only [List.length_cons] at this; omega) rfl (fun la' h' => h p e s m args below meth c H locs la' X ?_ hF)
  exact hl.set (i := 4) (fun j w e q => by obtain rfl : j = 3 := (by omega); exact px_nl2 hp (Option.some.inj q)) h'
theorem px_astore_4 {a0 a1 a2 a3 : Option Value} {r : List (Option Value)} {o : Option Value} {x : Nat} (d : decode cc pc = .ok (.astore 4, 2)) (hp : px_nl a3 = true) (h : px_W l G y cc nL ret Rm Fn (pc + 2) (a0 :: a1 :: a2 :: a3 :: some (.ref x) :: r) (st) k n μ) : px_W l G y cc nL ret Rm Fn (pc) (a0 :: a1 :: a2 :: a3 :: o :: r) (.ref x :: st) k n μ := by
  intro p e s m args below meth c H locs la X hl hF
  refine lv_astore X.1 X.2.1 d hl.1 (by have := hl.2; simp only [List.length_cons] at this; omega) rfl (fun la' h' => h p e s m args below meth c H locs la' X ?_ hF)
  exact hl.set (i := 4) (fun j w e q => by obtain rfl : j = 3 := (by omega); exact px_nl2 hp (Option.some.inj q)) h'
theorem px_lstore_4 {a0 a1 a2 a3 : Option Value} {r : List (Option Value)} {o o2 : Option Value} {x : Int64} (d : decode cc pc = .ok (.lstore 4, 2)) (hp : px_nl a3 = true) (h : px_W l G y cc nL ret Rm Fn (pc + 2) (a0 :: a1 :: a2 :: a3 :: some (.long x) :: none :: r) (st) k n μ) : px_W l G y cc nL ret Rm Fn (pc) (a0 :: a1 :: a2 :: a3 :: o :: o2 :: r) (.long x :: st) k n μ := by
  intro p e s m args below meth c H locs la X hl hF
  refine lv_lstore X.1 X.2.1 d hl.1 (by have := hl.2; simp only [List.length_cons] at this; omega) rfl (fun la' h' => h p e s m args below meth c H locs la' X ?_ hF)
  exact hl.set2 (i := 4) (fun j w e q => by obtain rfl : j = 3 := (by omega); exact px_nl2 hp (Option.some.inj q)) h'
theorem px_iinc_4 {a0 a1 a2 a3 : Option Value} {r : List (Option Value)} {x : Int32} {z : Int} (d : decode cc pc = .ok (.iinc 4 z, 3)) (hp : px_nl a3 = true) (h : px_W l G y cc nL ret Rm Fn (pc + 3) (a0 :: a1 :: a2 :: a3 :: some (.int (x + Int32.ofInt z)) :: r) (st) k n μ) : px_W l G y cc nL ret Rm Fn (pc) (a0 :: a1 :: a2 :: a3 :: some (.int x) :: r) (st) k n μ := by
  intro p e s m args below meth c H locs la X hl hF
  obtain ⟨q, hq⟩ := List.getElem?_of_mem ((px_lv_mem (a0 :: a1 :: a2 :: a3 :: some (.int x) :: r) 0 4 (.int x)).mpr ⟨4, by omega, rfl⟩)
  refine lv_iinc X.1 X.2.1 d hl.1 hq rfl (by have := hl.2; simp only [List.length_cons] at this; omega) rfl (fun la' h' => h p e s m args below meth c H locs la' X ?_ hF)
  exact hl.set (i := 4) (fun j w e q => by obtain rfl : j = 3 := (by omega); exact px_nl2 hp (Option.some.inj q)) h'
theorem px_iload_5 {a0 a1 a2 a3 a4 : Option Value} {r : List (Option Value)} {x : Int32} (d : decode cc pc = .ok (.iload 5, 2)) (h : px_W l G y cc nL ret Rm Fn (pc + 2) (a0 :: a1 :: a2 :: a3 :: a4 :: some (.int x) :: r) (.int x :: st) k n μ) : px_W l G y cc nL ret Rm Fn (pc) (a0 :: a1 :: a2 :: a3 :: a4 :: some (.int x) :: r) (st) k n μ := fun p e s m args below meth c H locs la X hl hF => lv_iload X.1 X.2.1 d (hl.at rfl) (h p e s m args below meth c H locs la X hl hF)
theorem px_aload_5 {a0 a1 a2 a3 a4 : Option Value} {r : List (Option Value)} {x : Nat} (d : decode cc pc = .ok (.aload 5, 2)) (h : px_W l G y cc nL ret Rm Fn (pc + 2) (a0 :: a1 :: a2 :: a3 :: a4 :: some (.ref x) :: r) (.ref x :: st) k n μ) : px_W l G y cc nL ret Rm Fn (pc) (a0 :: a1 :: a2 :: a3 :: a4 :: some (.ref x) :: r) (st) k n μ := fun p e s m args below meth c H locs la X hl hF => lv_aload X.1 X.2.1 d (hl.at rfl) (h p e s m args below meth c H locs la X hl hF)
theorem px_lload_5 {a0 a1 a2 a3 a4 : Option Value} {r : List (Option Value)} {x : Int64} (d : decode cc pc = .ok (.lload 5, 2)) (h : px_W l G y cc nL ret Rm Fn (pc + 2) (a0 :: a1 :: a2 :: a3 :: a4 :: some (.long x) :: r) (.long x :: st) k n μ) : px_W l G y cc nL ret Rm Fn (pc) (a0 :: a1 :: a2 :: a3 :: a4 :: some (.long x) :: r) (st) k n μ := fun p e s m args below meth c H locs la X hl hF => lv_lload X.1 X.2.1 d (hl.at rfl) (h p e s m args below meth c H locs la X hl hF)
theorem px_istore_5 {a0 a1 a2 a3 a4 : Option Value} {r : List (Option Value)} {o : Option Value} {x : Int32} (d : decode cc pc = .ok (.istore 5, 2)) (hp : px_nl a4 = true) (h : px_W l G y cc nL ret Rm Fn (pc + 2) (a0 :: a1 :: a2 :: a3 :: a4 :: some (.int x) :: r) (st) k n μ) : px_W l G y cc nL ret Rm Fn (pc) (a0 :: a1 :: a2 :: a3 :: a4 :: o :: r) (.int x :: st) k n μ := by
  intro p e s m args below meth c H locs la X hl hF
  refine lv_istore X.1 X.2.1 d hl.1 (by have := hl.2; simp only [List.length_cons] at this; omega) rfl (fun la' h' => h p e s m args below meth c H locs la' X ?_ hF)
  exact hl.set (i := 5) (fun j w e q => by obtain rfl : j = 4 := (by omega); exact px_nl2 hp (Option.some.inj q)) h'
theorem px_astore_5 {a0 a1 a2 a3 a4 : Option Value} {r : List (Option Value)} {o : Option Value} {x : Nat} (d : decode cc pc = .ok (.astore 5, 2)) (hp : px_nl a4 = true) (h : px_W l G y cc nL ret Rm Fn (pc + 2) (a0 :: a1 :: a2 :: a3 :: a4 :: some (.ref x) :: r) (st) k n μ) : px_W l G y cc nL ret Rm Fn (pc) (a0 :: a1 :: a2 :: a3 :: a4 :: o :: r) (.ref x :: st) k n μ := by
  intro p e s m args below meth c H locs la X hl hF
  refine lv_astore X.1 X.2.1 d hl.1 (by have := hl.2; simp only [List.length_cons] at this; omega) rfl (fun la' h' => h p e s m args below meth c H locs la' X ?_ hF)
  exact hl.set (i := 5) (fun j w e q => by obtain rfl : j = 4 := (by omega); exact px_nl2 hp (Option.some.inj q)) h'
theorem px_lstore_5 {a0 a1 a2 a3 a4 : Option Value} {r : List (Option Value)} {o o2 : Option Value} {x : Int64} (d : decode cc pc = .ok (.lstore 5, 2)) (hp : px_nl a4 = true) (h : px_W l G y cc nL ret Rm Fn (pc + 2) (a0 :: a1 :: a2 :: a3 :: a4 :: some (.long x) :: none :: r) (st) k n μ) : px_W l G y cc nL ret Rm Fn (pc) (a0 :: a1 :: a2 :: a3 :: a4 :: o :: o2 :: r) (.long x :: st) k n μ := by
  intro p e s m args below meth c H locs la X hl hF
  refine lv_lstore X.1 X.2.1 d hl.1 (by have := hl.2; simp only [List.length_cons] at this; omega) rfl (fun la' h' => h p e s m args below meth c H locs la' X ?_ hF)
  exact hl.set2 (i := 5) (fun j w e q => by obtain rfl : j = 4 := (by omega); exact px_nl2 hp (Option.some.inj q)) h'
theorem px_iinc_5 {a0 a1 a2 a3 a4 : Option Value} {r : List (Option Value)} {x : Int32} {z : Int} (d : decode cc pc = .ok (.iinc 5 z, 3)) (hp : px_nl a4 = true) (h : px_W l G y cc nL ret Rm Fn (pc + 3) (a0 :: a1 :: a2 :: a3 :: a4 :: some (.int (x + Int32.ofInt z)) :: r) (st) k n μ) : px_W l G y cc nL ret Rm Fn (pc) (a0 :: a1 :: a2 :: a3 :: a4 :: some (.int x) :: r) (st) k n μ := by
  intro p e s m args below meth c H locs la X hl hF
  obtain ⟨q, hq⟩ := List.getElem?_of_mem ((px_lv_mem (a0 :: a1 :: a2 :: a3 :: a4 :: some (.int x) :: r) 0 5 (.int x)).mpr ⟨5, by omega, rfl⟩)
  refine lv_iinc X.1 X.2.1 d hl.1 hq rfl (by have := hl.2; simp only [List.length_cons] at this; omega) rfl (fun la' h' => h p e s m args below meth c H locs la' X ?_ hF)
  exact hl.set (i := 5) (fun j w e q => by obtain rfl : j = 4 := (by omega); exact px_nl2 hp (Option.some.inj q)) h'
theorem px_iload_6 {a0 a1 a2 a3 a4 a5 : Option Value} {r : List (Option Value)} {x : Int32} (d : decode cc pc = .ok (.iload 6, 2)) (h : px_W l G y cc nL ret Rm Fn (pc + 2) (a0 :: a1 :: a2 :: a3 :: a4 :: a5 :: some (.int x) :: r) (.int x :: st) k n μ) : px_W l G y cc nL ret Rm Fn (pc) (a0 :: a1 :: a2 :: a3 :: a4 :: a5 :: some (.int x) :: r) (st) k n μ := fun p e s m args below meth c H locs la X hl hF => lv_iload X.1 X.2.1 d (hl.at rfl) (h p e s m args below meth c H locs la X hl hF)
theorem px_aload_6 {a0 a1 a2 a3 a4 a5 : Option Value} {r : List (Option Value)} {x : Nat} (d : decode cc pc = .ok (.aload 6, 2)) (h : px_W l G y cc nL ret Rm Fn (pc + 2) (a0 :: a1 :: a2 :: a3 :: a4 :: a5 :: some (.ref x) :: r) (.ref x :: st) k n μ) : px_W l G y cc nL ret Rm Fn (pc) (a0 :: a1 :: a2 :: a3 :: a4 :: a5 :: some (.ref x) :: r) (st) k n μ := fun p e s m args below meth c H locs la X hl hF => lv_aload X.1 X.2.1 d (hl.at rfl) (h p e s m args below meth c H locs la X hl hF)
theorem px_lload_6 {a0 a1 a2 a3 a4 a5 : Option Value} {r : List (Option Value)} {x : Int64} (d : decode cc pc = .ok (.lload 6, 2)) (h : px_W l G y cc nL ret Rm Fn (pc + 2) (a0 :: a1 :: a2 :: a3 :: a4 :: a5 :: some (.long x) :: r) (.long x :: st) k n μ) : px_W l G y cc nL ret Rm Fn (pc) (a0 :: a1 :: a2 :: a3 :: a4 :: a5 :: some (.long x) :: r) (st) k n μ := fun p e s m args below meth c H locs la X hl hF => lv_lload X.1 X.2.1 d (hl.at rfl) (h p e s m args below meth c H locs la X hl hF)
theorem px_istore_6 {a0 a1 a2 a3 a4 a5 : Option Value} {r : List (Option Value)} {o : Option Value} {x : Int32} (d : decode cc pc = .ok (.istore 6, 2)) (hp : px_nl a5 = true) (h : px_W l G y cc nL ret Rm Fn (pc + 2) (a0 :: a1 :: a2 :: a3 :: a4 :: a5 :: some (.int x) :: r) (st) k n μ) : px_W l G y cc nL ret Rm Fn (pc) (a0 :: a1 :: a2 :: a3 :: a4 :: a5 :: o :: r) (.int x :: st) k n μ := by
  intro p e s m args below meth c H locs la X hl hF
  refine lv_istore X.1 X.2.1 d hl.1 (by have := hl.2; simp only [List.length_cons] at this; omega) rfl (fun la' h' => h p e s m args below meth c H locs la' X ?_ hF)
  exact hl.set (i := 6) (fun j w e q => by obtain rfl : j = 5 := (by omega); exact px_nl2 hp (Option.some.inj q)) h'
theorem px_astore_6 {a0 a1 a2 a3 a4 a5 : Option Value} {r : List (Option Value)} {o : Option Value} {x : Nat} (d : decode cc pc = .ok (.astore 6, 2)) (hp : px_nl a5 = true) (h : px_W l G y cc nL ret Rm Fn (pc + 2) (a0 :: a1 :: a2 :: a3 :: a4 :: a5 :: some (.ref x) :: r) (st) k n μ) : px_W l G y cc nL ret Rm Fn (pc) (a0 :: a1 :: a2 :: a3 :: a4 :: a5 :: o :: r) (.ref x :: st) k n μ := by
  intro p e s m args below meth c H locs la X hl hF
  refine lv_astore X.1 X.2.1 d hl.1 (by have := hl.2; simp only [List.length_cons] at this; omega) rfl (fun la' h' => h p e s m args below meth c H locs la' X ?_ hF)
  exact hl.set (i := 6) (fun j w e q => by obtain rfl : j = 5 := (by omega); exact px_nl2 hp (Option.some.inj q)) h'
theorem px_lstore_6 {a0 a1 a2 a3 a4 a5 : Option Value} {r : List (Option Value)} {o o2 : Option Value} {x : Int64} (d : decode cc pc = .ok (.lstore 6, 2)) (hp : px_nl a5 = true) (h : px_W l G y cc nL ret Rm Fn (pc + 2) (a0 :: a1 :: a2 :: a3 :: a4 :: a5 :: some (.long x) :: none :: r) (st) k n μ) : px_W l G y cc nL ret Rm Fn (pc) (a0 :: a1 :: a2 :: a3 :: a4 :: a5 :: o :: o2 :: r) (.long x :: st) k n μ := by
  intro p e s m args below meth c H locs la X hl hF
  refine lv_lstore X.1 X.2.1 d hl.1 (by have := hl.2; simp only [List.length_cons] at this; omega) rfl (fun la' h' => h p e s m args below meth c H locs la' X ?_ hF)
  exact hl.set2 (i := 6) (fun j w e q => by obtain rfl : j = 5 := (by omega); exact px_nl2 hp (Option.some.inj q)) h'
theorem px_iinc_6 {a0 a1 a2 a3 a4 a5 : Option Value} {r : List (Option Value)} {x : Int32} {z : Int} (d : decode cc pc = .ok (.iinc 6 z, 3)) (hp : px_nl a5 = true) (h : px_W l G y cc nL ret Rm Fn (pc + 3) (a0 :: a1 :: a2 :: a3 :: a4 :: a5 :: some (.int (x + Int32.ofInt z)) :: r) (st) k n μ) : px_W l G y cc nL ret Rm Fn (pc) (a0 :: a1 :: a2 :: a3 :: a4 :: a5 :: some (.int x) :: r) (st) k n μ := by
  intro p e s m args below meth c H locs la X hl hF
  obtain ⟨q, hq⟩ := List.getElem?_of_mem ((px_lv_mem (a0 :: a1 :: a2 :: a3 :: a4 :: a5 :: some (.int x) :: r) 0 6 (.int x)).mpr ⟨6, by omega, rfl⟩)
  refine lv_iinc X.1 X.2.1 d hl.1 hq rfl (by have := hl.2; simp only [List.length_cons] at this; omega) rfl (fun la' h' => h p e s m args below meth c H locs la' X ?_ hF)
  exact hl.set (i := 6) (fun j w e q => by obtain rfl : j = 5 := (by omega); exact px_nl2 hp (Option.some.inj q)) h'
theorem px_iload_7 {a0 a1 a2 a3 a4 a5 a6 : Option Value} {r : List (Option Value)} {x : Int32} (d : decode cc pc = .ok (.iload 7, 2)) (h : px_W l G y cc nL ret Rm Fn (pc + 2) (a0 :: a1 :: a2 :: a3 :: a4 :: a5 :: a6 :: some (.int x) :: r) (.int x :: st) k n μ) : px_W l G y cc nL ret Rm Fn (pc) (a0 :: a1 :: a2 :: a3 :: a4 :: a5 :: a6 :: some (.int x) :: r) (st) k n μ := fun p e s m args below meth c H locs la X hl hF => lv_iload X.1 X.2.1 d (hl.at rfl) (h p e s m args below meth c H locs la X hl hF)
theorem px_aload_7 {a0 a1 a2 a3 a4 a5 a6 : Option Value} {r : List (Option Value)} {x : Nat} (d : decode cc pc = .ok (.aload 7, 2)) (h : px_W l G y cc nL ret Rm Fn (pc + 2) (a0 :: a1 :: a2 :: a3 :: a4 :: a5 :: a6 :: some (.ref x) :: r) (.ref x :: st) k n μ) : px_W l G y cc nL ret Rm Fn (pc) (a0 :: a1 :: a2 :: a3 :: a4 :: a5 :: a6 :: some (.ref x) :: r) (st) k n μ := fun p e s m args below meth c H locs la X hl hF => lv_aload X.1 X.2.1 d (hl.at rfl) (h p e s m args below meth c H locs la X hl hF)
theorem px_lload_7 {a0 a1 a2 a3 a4 a5 a6 : Option Value} {r : List (Option Value)} {x : Int64} (d : decode cc pc = .ok (.lload 7, 2)) (h : px_W l G y cc nL ret Rm Fn (pc + 2) (a0 :: a1 :: a2 :: a3 :: a4 :: a5 :: a6 :: some (.long x) :: r) (.long x :: st) k n μ) : px_W l G y cc nL ret Rm Fn (pc) (a0 :: a1 :: a2 :: a3 :: a4 :: a5 :: a6 :: some (.long x) :: r) (st) k n μ := fun p e s m args below meth c H locs la X hl hF => lv_lload X.1 X.2.1 d (hl.at rfl) (h p e s m args below meth c H locs la X hl hF)
theorem px_istore_7 {a0 a1 a2 a3 a4 a5 a6 : Option Value} {r : List (Option Value)} {o : Option Value} {x : Int32} (d : decode cc pc = .ok (.istore 7, 2)) (hp : px_nl a6 = true) (h : px_W l G y cc nL ret Rm Fn (pc + 2) (a0 :: a1 :: a2 :: a3 :: a4 :: a5 :: a6 :: some (.int x) :: r) (st) k n μ) : px_W l G y cc nL ret Rm Fn (pc) (a0 :: a1 :: a2 :: a3 :: a4 :: a5 :: a6 :: o :: r) (.int x :: st) k n μ := by
  intro p e s m args below meth c H locs la X hl hF
  refine lv_istore X.1 X.2.1 d hl.1 (by have := hl.2; simp only [List.length_cons] at this; omega) rfl (fun la' h' => h p e s m args below meth c H locs la' X ?_ hF)
  exact hl.set (i := 7) (fun j w e q => by obtain rfl : j = 6 := (by omega); exact px_nl2 hp (Option.some.inj q)) h'
theorem px_astore_7 {a0 a1 a2 a3 a4 a5 a6 : Option Value} {r : List (Option Value)} {o : Option Value} {x : Nat} (d : decode cc pc = .ok (.astore 7, 2)) (hp : px_nl a6 = true) (h : px_W l G y cc nL ret Rm Fn (pc + 2) (a0 :: a1 :: a2 :: a3 :: a4 :: a5 :: a6 :: some (.ref x) :: r) (st) k n μ) : px_W l G y cc nL ret Rm Fn (pc) (a0 :: a1 :: a2 :: a3 :: a4 :: a5 :: a6 :: o :: r) (.ref x :: st) k n μ := by
  intro p e s m args below meth c H locs la X hl hF
  refine lv_astore X.1 X.2.1 d hl.1 (by have := hl.2; simp only [List.length_cons] at this; omega) rfl (fun la' h' => h p e s m args below meth c H locs la' X ?_ hF)
  exact hl.set (i := 7) (fun j w e q => by obtain rfl : j = 6 := (by omega); exact px_nl2 hp (Option.some.inj q)) h'
theorem px_lstore_7 {a0 a1 a2 a3 a4 a5 a6 : Option Value} {r : List (Option Value)} {o o2 : Option Value} {x : Int64} (d : decode cc pc = .ok (.lstore 7, 2)) (hp : px_nl a6 = true) (h : px_W l G y cc nL ret Rm Fn (pc + 2) (a0 :: a1 :: a2 :: a3 :: a4 :: a5 :: a6 :: some (.long x) :: none :: r) (st) k n μ) : px_W l G y cc nL ret Rm Fn (pc) (a0 :: a1 :: a2 :: a3 :: a4 :: a5 :: a6 :: o :: o2 :: r) (.long x :: st) k n μ := by
  intro p e s m args below meth c H locs la X hl hF
  refine lv_lstore X.1 X.2.1 d hl.1 (by have := hl.2; simp only [List.length_cons] at this; omega) rfl (fun la' h' => h p e s m args below meth c H locs la' X ?_ hF)
  exact hl.set2 (i := 7) (fun j w e q => by obtain rfl : j = 6 := (by omega); exact px_nl2 hp (Option.some.inj q)) h'
theorem px_iinc_7 {a0 a1 a2 a3 a4 a5 a6 : Option Value} {r : List (Option Value)} {x : Int32} {z : Int} (d : decode cc pc = .ok (.iinc 7 z, 3)) (hp : px_nl a6 = true) (h : px_W l G y cc nL ret Rm Fn (pc + 3) (a0 :: a1 :: a2 :: a3 :: a4 :: a5 :: a6 :: some (.int (x + Int32.ofInt z)) :: r) (st) k n μ) : px_W l G y cc nL ret Rm Fn (pc) (a0 :: a1 :: a2 :: a3 :: a4 :: a5 :: a6 :: some (.int x) :: r) (st) k n μ := by
  intro p e s m args below meth c H locs la X hl hF
  obtain ⟨q, hq⟩ := List.getElem?_of_mem ((px_lv_mem (a0 :: a1 :: a2 :: a3 :: a4 :: a5 :: a6 :: some (.int x) :: r) 0 7 (.int x)).mpr ⟨7, by omega, rfl⟩)
  refine lv_iinc X.1 X.2.1 d hl.1 hq rfl (by have := hl.2; simp only [List.length_cons] at this; omega) rfl (fun la' h' => h p e s m args below meth c H locs la' X ?_ hF)
  exact hl.set (i := 7) (fun j w e q => by obtain rfl : j = 6 := (by omega); exact px_nl2 hp (Option.some.inj q)) h'
theorem px_iload_8 {a0 a1 a2 a3 a4 a5 a6 a7 : Option Value} {r : List (Option Value)} {x : Int32} (d : decode cc pc = .ok (.iload 8, 2)) (h : px_W l G y cc nL ret Rm Fn (pc + 2) (a0 :: a1 :: a2 :: a3 :: a4 :: a5 :: a6 :: a7 :: some (.int x) :: r) (.int x :: st) k n μ) : px_W l G y cc nL ret Rm Fn (pc) (a0 :: a1 :: a2 :: a3 :: a4 :: a5 :: a6 :: a7 :: some (.int x) :: r) (st) k n μ := fun p e s m args below meth c H locs la X hl hF => lv_iload X.1 X.2.1 d (hl.at rfl) (h p e s m args below meth c H locs la X hl hF)
theorem px_aload_8 {a0 a1 a2 a3 a4 a5 a6 a7 : Option Value} {r : List (Option Value)} {x : Nat} (d : decode cc pc = .ok (.aload 8, 2)) (h : px_W l G y cc nL ret Rm Fn (pc + 2) (a0 :: a1 :: a2 :: a3 :: a4 :: a5 :: a6 :: a7 :: some (.ref x) :: r) (.ref x :: st) k n μ) : px_W l G y cc nL ret Rm Fn (pc) (a0 :: a1 :: a2 :: a3 :: a4 :: a5 :: a6 :: a7 :: some (.ref x) :: r) (st) k n μ := fun p e s m args below meth c H locs la X hl hF => lv_aload X.1 X.2.1 d (hl.at rfl) (h p e s m args below meth c H locs la X hl hF)
theorem px_lload_8 {a0 a1 a2 a3 a4 a5 a6 a7 : Option Value} {r : List (Option Value)} {x : Int64} (d : decode cc pc = .ok (.lload 8, 2)) (h : px_W l G y cc nL ret Rm Fn (pc + 2) (a0 :: a1 :: a2 :: a3 :: a4 :: a5 :: a6 :: a7 :: some (.long x) :: r) (.long x :: st) k n μ) : px_W l G y cc nL ret Rm Fn (pc) (a0 :: a1 :: a2 :: a3 :: a4 :: a5 :: a6 :: a7 :: some (.long x) :: r) (st) k n μ := fun p e s m args below meth c H locs la X hl hF => lv_lload X.1 X.2.1 d (hl.at rfl) (h p e s m args below meth c H locs la X hl hF)
theorem px_istore_8 {a0 a1 a2 a3 a4 a5 a6 a7 : Option Value} {r : List (Option Value)} {o : Option Value} {x : Int32} (d : decode cc pc = .ok (.istore 8, 2)) (hp : px_nl a7 = true) (h : px_W l G y cc nL ret Rm Fn (pc + 2) (a0 :: a1 :: a2 :: a3 :: a4 :: a5 :: a6 :: a7 :: some (.int x) :: r) (st) k n μ) : px_W l G y cc nL ret Rm Fn (pc) (a0 :: a1 :: a2 :: a3 :: a4 :: a5 :: a6 :: a7 :: o :: r) (.int x :: st) k n μ := by
  intro p e s m args below meth c H locs la X hl hF
  refine lv_istore X.1 X.2.1 d hl.1 (by have := hl.2; simp only [List.length_cons] at this; omega) rfl (fun la' h' => h p e s m args below meth c H locs la' X ?_ hF)
  exact hl.set (i := 8) (fun j w e q => by obtain rfl : j = 7 := (by omega); exact px_nl2 hp (Option.some.inj q)) h'
theorem px_astore_8 {a0 a1 a2 a3 a4 a5 a6 a7 : Option Value} {r : List (Option Value)} {o : Option Value} {x : Nat} (d : decode cc pc = .ok (.astore 8, 2)) (hp : px_nl a7 = true) (h : px_W l G y cc nL ret Rm Fn (pc + 2) (a0 :: a1 :: a2 :: a3 :: a4 :: a5 :: a6 :: a7 :: some (.ref x) :: r) (st) k n μ) : px_W l G y cc nL ret Rm Fn (pc) (a0 :: a1 :: a2 :: a3 :: a4 :: a5 :: a6 :: a7 :: o :: r) (.ref x :: st) k n μ := by
  intro p e s m args below meth c H locs la X hl hF
  refine lv_astore X.1 X.2.1 d hl.1 (by have := hl.2; simp only [List.length_cons] at this; omega) rfl (fun la' h' => h p e s m args below meth c H locs la' X ?_ hF)
  exact hl.set (i := 8) (fun j w e q => by obtain rfl : j = 7 := (by omega); exact px_nl2 hp (Option.some.inj q)) h'
theorem px_lstore_8 {a0 a1 a2 a3 a4 a5 a6 a7 : Option Value} {r : List (Option Value)} {o o2 : Option Value} {x : Int64} (d : decode cc pc = .ok (.lstore 8, 2)) (hp : px_nl a7 = true) (h : px_W l G y cc nL ret Rm Fn (pc + 2) (a0 :: a1 :: a2 :: a3 :: a4 :: a5 :: a6 :: a7 :: some (.long x) :: none :: r) (st) k n μ) : px_W l G y cc nL ret Rm Fn (pc) (a0 :: a1 :: a2 :: a3 :: a4 :: a5 :: a6 :: a7 :: o :: o2 :: r) (.long x :: st) k n μ := by
  intro p e s m args below meth c H locs la X hl hF
  refine lv_lstore X.1 X.2.1 d hl.1 (by have := hl.2; simp only [List.length_cons] at this; omega) rfl (fun la' h' => h p e s m args below meth c H locs la' X ?_ hF)
  exact hl.set2 (i := 8) (fun j w e q => by obtain rfl : j = 7 := (by omega); exact px_nl2 hp (Option.some.inj q)) h'
theorem px_iinc_8 {a0 a1 a2 a3 a4 a5 a6 a7 : Option Value} {r : List (Option Value)} {x : Int32} {z : Int} (d : decode cc pc = .ok (.iinc 8 z, 3)) (hp : px_nl a7 = true) (h : px_W l G y cc nL ret Rm Fn (pc + 3) (a0 :: a1 :: a2 :: a3 :: a4 :: a5 :: a6 :: a7 :: some (.int (x + Int32.ofInt z)) :: r) (st) k n μ) : px_W l G y cc nL ret Rm Fn (pc) (a0 :: a1 :: a2 :: a3 :: a4 :: a5 :: a6 :: a7 :: some (.int x) :: r) (st) k n μ := by
  intro p e s m args below meth c H locs la X hl hF
  obtain ⟨q, hq⟩ := List.getElem?_of_mem ((px_lv_mem (a0 :: a1 :: a2 :: a3 :: a4 :: a5 :: a6 :: a7 :: some (.int x) :: r) 0 8 (.int x)).mpr ⟨8, by omega, rfl⟩)
  refine lv_iinc X.1 X.2.1 d hl.1 hq rfl (by have := hl.2; simp only [List.length_cons] at this; omega) rfl (fun la' h' => h p e s m args below meth c H locs la' X ?_ hF)
  exact hl.set (i := 8) (fun j w e q => by obtain rfl : j = 7 := (by omega); exact px_nl2 hp (Option.some.inj q)) h'
theorem px_iload_9 {a0 a1 a2 a3 a4 a5 a6 a7 a8 : Option Value} {r : List (Option Value)} {x : Int32} (d : decode cc pc = .ok (.iload 9, 2)) (h : px_W l G y cc nL ret Rm Fn (pc + 2) (a0 :: a1 :: a2 :: a3 :: a4 :: a5 :: a6 :: a7 :: a8 :: some (.int x) :: r) (.int x :: st) k n μ) : px_W l G y cc nL ret Rm Fn (pc) (a0 :: a1 :: a2 :: a3 :: a4 :: a5 :: a6 :: a7 :: a8 :: some (.int x) :: r) (st) k n μ := fun p e s m args below meth c H locs la X hl hF => lv_iload X.1 X.2.1 d (hl.at rfl) (h p e s m args below meth c H locs la X hl hF)
theorem px_aload_9 {a0 a1 a2 a3 a4 a5 a6 a7 a8 : Option Value} {r : List (Option Value)} {x : Nat} (d : decode cc pc = .ok (.aload 9, 2)) (h : px_W l G y cc nL ret Rm Fn (pc + 2) (a0 :: a1 :: a2 :: a3 :: a4 :: a5 :: a6 :: a7 :: a8 :: some (.ref x) :: r) (.ref x :: st) k n μ) : px_W l G y cc nL ret Rm Fn (pc) (a0 :: a1 :: a2 :: a3 :: a4 :: a5 :: a6 :: a7 :: a8 :: some (.ref x) :: r) (st) k n μ := fun p e s m args below meth c H locs la X hl hF => lv_aload X.1 X.2.1 d (hl.at rfl) (h p e s m args below meth c H locs la X hl hF)
theorem px_lload_9 {a0 a1 a2 a3 a4 a5 a6 a7 a8 : Option Value} {r : List (Option Value)} {x : Int64} (d : decode cc pc = .ok (.lload 9, 2)) (h : px_W l G y cc nL ret Rm Fn (pc + 2) (a0 :: a1 :: a2 :: a3 :: a4 :: a5 :: a6 :: a7 :: a8 :: some (.long x) :: r) (.long x :: st) k n μ) : px_W l G y cc nL ret Rm Fn (pc) (a0 :: a1 :: a2 :: a3 :: a4 :: a5 :: a6 :: a7 :: a8 :: some (.long x) :: r) (st) k n μ := fun p e s m args below meth c H locs la X hl hF => lv_lload X.1 X.2.1 d (hl.at rfl) (h p e s m args below meth c H locs la X hl hF)
theorem px_istore_9 {a0 a1 a2 a3 a4 a5 a6 a7 a8 : Option Value} {r : List (Option Value)} {o : Option Value} {x : Int32} (d : decode cc pc = .ok (.istore 9, 2)) (hp : px_nl a8 = true) (h : px_W l G y cc nL ret Rm Fn (pc + 2) (a0 :: a1 :: a2 :: a3 :: a4 :: a5 :: a6 :: a7 :: a8 :: some (.int x) :: r) (st) k n μ) : px_W l G y cc nL ret Rm Fn (pc) (a0 :: a1 :: a2 :: a3 :: a4 :: a5 :: a6 :: a7 :: a8 :: o :: r) (.int x :: st) k n μ := by
  intro p e s m args below meth c H locs la X hl hF
  refine lv_istore X.1 X.2.1 d hl.1 (by have := hl.2; simp only [List.length_cons] at this; omega) rfl (fun la' h' => h p e s m args below meth c H locs la' X ?_ hF)
  exact hl.set (i := 9) (fun j w e q => by obtain rfl : j = 8 := (by omega); exact px_nl2 hp (Option.some.inj q)) h'
theorem px_astore_9 {a0 a1 a2 a3 a4 a5 a6 a7 a8 : Option Value} {r : List (Option Value)} {o : Option Value} {x : Nat} (d : decode cc pc = .ok (.astore 9, 2)) (hp : px_nl a8 = true) (h : px_W l G y cc nL ret Rm Fn (pc + 2) (a0 :: a1 :: a2 :: a3 :: a4 :: a5 :: a6 :: a7 :: a8 :: some (.ref x) :: r) (st) k n μ) : px_W l G y cc nL ret Rm Fn (pc) (a0 :: a1 :: a2 :: a3 :: a4 :: a5 :: a6 :: a7 :: a8 :: o :: r) (.ref x :: st) k n μ := by
  intro p e s m args below meth c H locs la X hl hF
  refine lv_astore X.1 X.2.1 d hl.1 (by have := hl.2; simp only [List.length_cons] at this; omega) rfl (fun la' h' => h p e s m args below meth c H locs la' X ?_ hF)
  exact hl.set (i := 9) (fun j w e q => by obtain rfl : j = 8 := (by omega); exact px_nl2 hp (Option.some.inj q)) h'
theorem px_lstore_9 {a0 a1 a2 a3 a4 a5 a6 a7 a8 : Option Value} {r : List (Option Value)} {o o2 : Option Value} {x : Int64} (d : decode cc pc = .ok (.lstore 9, 2)) (hp : px_nl a8 = true) (h : px_W l G y cc nL ret Rm Fn (pc + 2) (a0 :: a1 :: a2 :: a3 :: a4 :: a5 :: a6 :: a7 :: a8 :: some (.long x) :: none :: r) (st) k n μ) : px_W l G y cc nL ret Rm Fn (pc) (a0 :: a1 :: a2 :: a3 :: a4 :: a5 :: a6 :: a7 :: a8 :: o :: o2 :: r) (.long x :: st) k n μ := by
  intro p e s m args below meth c H locs la X hl hF
  refine lv_lstore X.1 X.2.1 d hl.1 (by have := hl.2; simp only [List.length_cons] at this; omega) rfl (fun la' h' => h p e s m args below meth c H locs la' X ?_ hF)
  exact hl.set2 (i := 9) (fun j w e q => by obtain rfl : j = 8 := (by omega); exact px_nl2 hp (Option.some.inj q)) h'
theorem px_iinc_9 {a0 a1 a2 a3 a4 a5 a6 a7 a8 : Option Value} {r : List (Option Value)} {x : Int32} {z : Int} (d : decode cc pc = .ok (.iinc 9 z, 3)) (hp : px_nl a8 = true) (h : px_W l G y cc nL ret Rm Fn (pc + 3) (a0 :: a1 :: a2 :: a3 :: a4 :: a5 :: a6 :: a7 :: a8 :: some (.int (x + Int32.ofInt z)) :: r) (st) k n μ) : px_W l G y cc nL ret Rm Fn (pc) (a0 :: a1 :: a2 :: a3 :: a4 :: a5 :: a6 :: a7 :: a8 :: some (.int x) :: r) (st) k n μ := by
  intro p e s m args below meth c H locs la X hl hF
  obtain ⟨q, hq⟩ := List.getElem?_of_mem ((px_lv_mem (a0 :: a1 :: a2 :: a3 :: a4 :: a5 :: a6 :: a7 :: a8 :: some (.int x) :: r) 0 9 (.int x)).mpr ⟨9, by omega, rfl⟩)
  refine lv_iinc X.1 X.2.1 d hl.1 hq rfl (by have := hl.2; simp only [List.length_cons] at this; omega) rfl (fun la' h' => h p e s m args below meth c H locs la' X ?_ hF)
  exact hl.set (i := 9) (fun j w e q => by obtain rfl : j = 8 := (by omega); exact px_nl2 hp (Option.some.inj q)) h'
theorem px_iload_10 {a0 a1 a2 a3 a4 a5 a6 a7 a8 a9 : Option Value} {r : List (Option Value)} {x : Int32} (d : decode cc pc = .ok (.iload 10, 2)) (h : px_W l G y cc nL ret Rm Fn (pc + 2) (a0 :: a1 :: a2 :: a3 :: a4 :: a5 :: a6 :: a7 :: a8 :: a9 :: some (.int x) :: r) (.int x :: st) k n μ) : px_W l G y cc nL ret Rm Fn (pc) (a0 :: a1 :: a2 :: a3 :: a4 :: a5 :: a6 :: a7 :: a8 :: a9 :: some (.int x) :: r) (st) k n μ := fun p e s m args below meth c H locs la X hl hF => lv_iload X.1 X.2.1 d (hl.at rfl) (h p e s m args below meth c H locs la X hl hF)
theorem px_aload_10 {a0 a1 a2 a3 a4 a5 a6 a7 a8 a9 : Option Value} {r : List (Option Value)} {x : Nat} (d : decode cc pc = .ok (.aload 10, 2)) (h : px_W l G y cc nL ret Rm Fn (pc + 2) (a0 :: a1 :: a2 :: a3 :: a4 :: a5 :: a6 :: a7 :: a8 :: a9 :: some (.ref x) :: r) (.ref x :: st) k n μ) : px_W l G y cc nL ret Rm Fn (pc) (a0 :: a1 :: a2 :: a3 :: a4 :: a5 :: a6 :: a7 :: a8 :: a9 :: some (.ref x) :: r) (st) k n μ := fun p e s m args below meth c H locs la X hl hF => lv_aload X.1 X.2.1 d (hl.at rfl) (h p e s m args below meth c H locs la X hl hF)
theorem px_lload_10 {a0 a1 a2 a3 a4 a5 a6 a7 a8 a9 : Option Value} {r : List (Option Value)} {x : Int64} (d : decode cc pc = .ok (.lload 10, 2)) (h : px_W l G y cc nL ret Rm Fn (pc + 2) (a0 :: a1 :: a2 :: a3 :: a4 :: a5 :: a6 :: a7 :: a8 :: a9 :: some (.long x) :: r) (.long x :: st) k n μ) : px_W l G y cc nL ret Rm Fn (pc) (a0 :: a1 :: a2 :: a3 :: a4 :: a5 :: a6 :: a7 :: a8 :: a9 :: some (.long x) :: r) (st) k n μ := fun p e s m args below meth c H locs la X hl hF => lv_lload X.1 X.2.1 d (hl.at rfl) (h p e s m args below meth c H locs la X hl hF)
theorem px_istore_10 {a0 a1 a2 a3 a4 a5 a6 a7 a8 a9 : Option Value} {r : List (Option Value)} {o : Option Value} {x : Int32} (d : decode cc pc = .ok (.istore 10, 2)) (hp : px_nl a9 = true) (h : px_W l G y cc nL ret Rm Fn (pc + 2) (a0 :: a1 :: a2 :: a3 :: a4 :: a5 :: a6 :: a7 :: a8 :: a9 :: some (.int x) :: r) (st) k n μ) : px_W l G y cc nL ret Rm Fn (pc) (a0 :: a1 :: a2 :: a3 :: a4 :: a5 :: a6 :: a7 :: a8 :: a9 :: o :: r) (.int x :: st) k n μ := by
  intro p e s m args below meth c H locs la X hl hF
  refine lv_istore X.1 X.2.1 d hl.1 (by have := hl.2; simp only [List.length_cons] at this; omega) rfl (fun la' h' => h p e s m args below meth c H locs la' X ?_ hF)
  exact hl.set (i := 10) (fun j w e q => by obtain rfl : j = 9 := (by omega); exact px_nl2 hp (Option.some.inj q)) h'
theorem px_astore_10 {a0 a1 a2 a3 a4 a5 a6 a7 a8 a9 : Option Value} {r : List (Option Value)} {o : Option Value} {x : Nat} (d : decode cc pc = .ok (.astore 10, 2)) (hp : px_nl a9 = true) (h : px_W l G y cc nL ret Rm Fn (pc + 2) (a0 :: a1 :: a2 :: a3 :: a4 :: a5 :: a6 :: a7 :: a8 :: a9 :: some (.ref x) :: r) (st) k n μ) : px_W l G y cc nL ret Rm Fn (pc) (a0 :: a1 :: a2 :: a3 :: a4 :: a5 :: a6 :: a7 :: a8 :: a9 :: o :: r) (.ref x :: st) k n μ := by
  intro p e s m args below meth c H locs la X hl hF
  refine lv_astore X.1 X.2.1 d hl.1 (by have := hl.2; simp only [List.length_cons] at this; omega) rfl (fun la' h' => h p e s m args below meth c H locs la' X ?_ hF)
  exact hl.set (i := 10) (fun j w e q => by obtain rfl : j = 9 := (by omega); exact px_nl2 hp (Option.some.inj q)) h'
theorem px_lstore_10 {a0 a1 a2 a3 a4 a5 a6 a7 a8 a9 : Option Value} {r : List (Option Value)} {o o2 : Option Value} {x : Int64} (d : decode cc pc = .ok (.lstore 10, 2)) (hp : px_nl a9 = true) (h : px_W l G y cc nL ret Rm Fn (pc + 2) (a0 :: a1 :: a2 :: a3 :: a4 :: a5 :: a6 :: a7 :: a8 :: a9 :: some (.long x) :: none :: r) (st) k n μ) : px_W l G y cc nL ret Rm Fn (pc) (a0 :: a1 :: a2 :: a3 :: a4 :: a5 :: a6 :: a7 :: a8 :: a9 :: o :: o2 :: r) (.long x :: st) k n μ := by
  intro p e s m args below meth c H locs la X hl hF
  refine lv_lstore X.1 X.2.1 d hl.1 (by have := hl.2; simp only [List.length_cons] at this; omega) rfl (fun la' h' => h p e s m args below meth c H locs la' X ?_ hF)
  exact hl.set2 (i := 10) (fun j w e q => by obtain rfl : j = 9 := (by omega); exact px_nl2 hp (Option.some.inj q)) h'
theorem px_iinc_10 {a0 a1 a2 a3 a4 a5 a6 a7 a8 a9 : Option Value} {r : List (Option Value)} {x : Int32} {z : Int} (d : decode cc pc = .ok (.iinc 10 z, 3)) (hp : px_nl a9 = true) (h : px_W l G y cc nL ret Rm Fn (pc + 3) (a0 :: a1 :: a2 :: a3 :: a4 :: a5 :: a6 :: a7 :: a8 :: a9 :: some (.int (x + Int32.ofInt z)) :: r) (st) k n μ) : px_W l G y cc nL ret Rm Fn (pc) (a0 :: a1 :: a2 :: a3 :: a4 :: a5 :: a6 :: a7 :: a8 :: a9 :: some (.int x) :: r) (st) k n μ := by
  intro p e s m args below meth c H locs la X hl hF
  obtain ⟨q, hq⟩ := List.getElem?_of_mem ((px_lv_mem (a0 :: a1 :: a2 :: a3 :: a4 :: a5 :: a6 :: a7 :: a8 :: a9 :: some (.int x) :: r) 0 10 (.int x)).mpr ⟨10, by omega, rfl⟩)
  refine lv_iinc X.1 X.2.1 d hl.1 hq rfl (by have := hl.2; simp only [List.length_cons] at this; omega) rfl (fun la' h' => h p e s m args below meth c H locs la' X ?_ hF)
  exact hl.set (i := 10) (fun j w e q => by obtain rfl : j = 9 := (by omega); exact px_nl2 hp (Option.some.inj q)) h'
theorem px_iload_11 {a0 a1 a2 a3 a4 a5 a6 a7 a8 a9 a10 : Option Value} {r : List (Option Value)} {x : Int32} (d : decode cc pc = .ok (.iload 11, 2)) (h : px_W l G y cc nL ret Rm Fn (pc + 2) (a0 :: a1 :: a2 :: a3 :: a4 :: a5 :: a6 :: a7 :: a8 :: a9 :: a10 :: some (.int x) :: r) (.int x :: st) k n μ) : px_W l G y cc nL ret Rm Fn (pc) (a0 :: a1 :: a2 :: a3 :: a4 :: a5 :: a6 :: a7 :: a8 :: a9 :: a10 :: some (.int x) :: r) (st) k n μ := fun p e s m args below meth c H locs la X hl hF => lv_iload X.1 X.2.1 d (hl.at rfl) (h p e s m args below meth c H locs la X hl hF)
theorem px_aload_11 {a0 a1 a2 a3 a4 a5 a6 a7 a8 a9 a10 : Option Value} {r : List (Option Value)} {x : Nat} (d : decode cc pc = .ok (.aload 11, 2)) (h : px_W l G y cc nL ret Rm Fn (pc + 2) (a0 :: a1 :: a2 :: a3 :: a4 :: a5 :: a6 :: a7 :: a8 :: a9 :: a10 :: some (.ref x) :: r) (.ref x :: st) k n μ) : px_W l G y cc nL ret Rm Fn (pc) (a0 :: a1 :: a2 :: a3 :: a4 :: a5 :: a6 :: a7 :: a8 :: a9 :: a10 :: some (.ref x) :: r) (st) k n μ := fun p e s m args below meth c H locs la X hl hF => lv_aload X.1 X.2.1 d (hl.at rfl) (h p e s m args below meth c H locs la X hl hF)
theorem px_lload_11 {a0 a1 a2 a3 a4 a5 a6 a7 a8 a9 a10 : Option Value} {r : List (Option Value)} {x : Int64} (d : decode cc pc = .ok (.lload 11, 2)) (h : px_W l G y cc nL ret Rm Fn (pc + 2) (a0 :: a1 :: a2 :: a3 :: a4 :: a5 :: a6 :: a7 :: a8 :: a9 :: a10 :: some (.long x) :: r) (.long x :: st) k n μ) : px_W l G y cc nL ret Rm Fn (pc) (a0 :: a1 :: a2 :: a3 :: a4 :: a5 :: a6 :: a7 :: a8 :: a9 :: a10 :: some (.long x) :: r) (st) k n μ := fun p e s m args below meth c H locs la X hl hF => lv_lload X.1 X.2.1 d (hl.at rfl) (h p e s m args below meth c H locs la X hl hF)
theorem px_istore_11 {a0 a1 a2 a3 a4 a5 a6 a7 a8 a9 a10 : Option Value} {r : List (Option Value)} {o : Option Value} {x : Int32} (d : decode cc pc = .ok (.istore 11, 2)) (hp : px_nl a10 = true) (h : px_W l G y cc nL ret Rm Fn (pc + 2) (a0 :: a1 :: a2 :: a3 :: a4 :: a5 :: a6 :: a7 :: a8 :: a9 :: a10 :: some (.int x) :: r) (st) k n μ) : px_W l G y cc nL ret Rm Fn (pc) (a0 :: a1 :: a2 :: a3 :: a4 :: a5 :: a6 :: a7 :: a8 :: a9 :: a10 :: o :: r) (.int x :: st) k n μ := by
  intro p e s m args below meth c H locs la X hl hF
  refine lv_istore X.1 X.2.1 d hl.1 (by have := hl.2; simp only [List.length_cons] at this; omega) rfl (fun la' h' => h p e s m args below meth c H locs la' X ?_ hF)
  exact hl.set (i := 11) (fun j w e q => by obtain rfl : j = 10 := (by omega); exact px_nl2 hp (Option.some.inj q)) h'
theorem px_astore_11 {a0 a1 a2 a3 a4 a5 a6 a7 a8 a9 a10 : Option Value} {r : List (Option Value)} {o : Option Value} {x : Nat} (d : decode cc pc = .ok (.astore 11, 2)) (hp : px_nl a10 = true) (h : px_W l G y cc nL ret Rm Fn (pc + 2) (a0 :: a1 :: a2 :: a3 :: a4 :: a5 :: a6 :: a7 :: a8 :: a9 :: a10 :: some (.ref x) :: r) (st) k n μ) : px_W l G y cc nL ret Rm Fn (pc) (a0 :: a1 :: a2 :: a3 :: a4 :: a5 :: a6 :: a7 :: a8 :: a9 :: a10 :: o :: r) (.ref x :: st) k n μ := by
  intro p e s m args below meth c H locs la X hl hF
  refine lv_astore X.1 X.2.1 d hl.1 (by have := hl.2; simp only [List.length_cons] at this; omega) rfl (fun la' h' => h p e s m args below meth c H locs la' X ?_ hF)
  exact hl.set (i := 11) (fun j w e q => by obtain rfl : j = 10 := (by omega); exact px_nl2 hp (Option.some.inj q)) h'
theorem px_lstore_11 {a0 a1 a2 a3 a4 a5 a6 a7 a8 a9 a10 : Option Value} {r : List (Option Value)} {o o2 : Option Value} {x : Int64} (d : decode cc pc = .ok (.lstore 11, 2)) (hp : px_nl a10 = true) (h : px_W l G y cc nL ret Rm Fn (pc + 2) (a0 :: a1 :: a2 :: a3 :: a4 :: a5 :: a6 :: a7 :: a8 :: a9 :: a10 :: some (.long x) :: none :: r) (st) k n μ) : px_W l G y cc nL ret Rm Fn (pc) (a0 :: a1 :: a2 :: a3 :: a4 :: a5 :: a6 :: a7 :: a8 :: a9 :: a10 :: o :: o2 :: r) (.long x :: st) k n μ := by
  intro p e s m args below meth c H locs la X hl hF
  refine lv_lstore X.1 X.2.1 d hl.1 (by have := hl.2; simp only [List.length_cons] at this; omega) rfl (fun la' h' => h p e s m args below meth c H locs la' X ?_ hF)
  exact hl.set2 (i := 11) (fun j w e q => by obtain rfl : j = 10 := (by omega); exact px_nl2 hp (Option.some.inj q)) h'
theorem px_iinc_11 {a0 a1 a2 a3 a4 a5 a6 a7 a8 a9 a10 : Option Value} {r : List (Option Value)} {x : Int32} {z : Int} (d : decode cc pc = .ok (.iinc 11 z, 3)) (hp : px_nl a10 = true) (h : px_W l G y cc nL ret Rm Fn (pc + 3) (a0 :: a1 :: a2 :: a3 :: a4 :: a5 :: a6 :: a7 :: a8 :: a9 :: a10 :: some (.int (x + Int32.ofInt z)) :: r) (st) k n μ) : px_W l G y cc nL ret Rm Fn (pc) (a0 :: a1 :: a2 :: a3 :: a4 :: a5 :: a6 :: a7 :: a8 :: a9 :: a10 :: some (.int x) :: r) (st) k n μ := by
  intro p e s m args below meth c H locs la X hl hF
  obtain ⟨q, hq⟩ := List.getElem?_of_mem ((px_lv_mem (a0 :: a1 :: a2 :: a3 :: a4 :: a5 :: a6 :: a7 :: a8 :: a9 :: a10 :: some (.int x) :: r) 0 11 (.int x)).mpr ⟨11, by omega, rfl⟩)
  refine lv_iinc X.1 X.2.1 d hl.1 hq rfl (by have := hl.2; simp only [List.length_cons] at this; omega) rfl (fun la' h' => h p e s m args below meth c H locs la' X ?_ hF)
  exact hl.set (i := 11) (fun j w e q => by obtain rfl : j = 10 := (by omega); exact px_nl2 hp (Option.some.inj q)) h'
theorem px_iload_12 {a0 a1 a2 a3 a4 a5 a6 a7 a8 a9 a10 a11 : Option Value} {r : List (Option Value)} {x : Int32} (d : decode cc pc = .ok (.iload 12, 2)) (h : px_W l G y cc nL ret Rm Fn (pc + 2) (a0 :: a1 :: a2 :: a3 :: a4 :: a5 :: a6 :: a7 :: a8 :: a9 :: a10 :: a11 :: some (.int x) :: r) (.int x :: st) k n μ) : px_W l G y cc nL ret Rm Fn (pc) (a0 :: a1 :: a2 :: a3 :: a4 :: a5 :: a6 :: a7 :: a8 :: a9 :: a10 :: a11 :: some (.int x) :: r) (st) k n μ := fun p e s m args below meth c H locs la X hl hF => lv_iload X.1 X.2.1 d (hl.at rfl) (h p e s m args below meth c H locs la X hl hF)
theorem px_aload_12 {a0 a1 a2 a3 a4 a5 a6 a7 a8 a9 a10 a11 : Option Value} {r : List (Option Value)} {x : Nat} (d : decode cc pc = .ok (.aload 12, 2)) (h : px_W l G y cc nL ret Rm Fn (pc + 2) (a0 :: a1 :: a2 :: a3 :: a4 :: a5 :: a6 :: a7 :: a8 :: a9 :: a10 :: a11 :: some (.ref x) :: r) (.ref x :: st) k n μ) : px_W l G y cc nL ret Rm Fn (pc) (a0 :: a1 :: a2 :: a3 :: a4 :: a5 :: a6 :: a7 :: a8 :: a9 :: a10 :: a11 :: some (.ref x) :: r) (st) k n μ := fun p e s m args below meth c H locs la X hl hF => lv_aload X.1 X.2.1 d (hl.at rfl) (h p e s m args below meth c H locs la X hl hF)
theorem px_lload_12 {a0 a1 a2 a3 a4 a5 a6 a7 a8 a9 a10 a11 : Option Value} {r : List (Option Value)} {x : Int64} (d : decode cc pc = .ok (.lload 12, 2)) (h : px_W l G y cc nL ret Rm Fn (pc + 2) (a0 :: a1 :: a2 :: a3 :: a4 :: a5 :: a6 :: a7 :: a8 :: a9 :: a10 :: a11 :: some (.long x) :: r) (.long x :: st) k n μ) : px_W l G y cc nL ret Rm Fn (pc) (a0 :: a1 :: a2 :: a3 :: a4 :: a5 :: a6 :: a7 :: a8 :: a9 :: a10 :: a11 :: some (.long x) :: r) (st) k n μ := fun p e s m args below meth c H locs la X hl hF => lv_lload X.1 X.2.1 d (hl.at rfl) (h p e s m args below meth c H locs la X hl hF)
theorem px_istore_12 {a0 a1 a2 a3 a4 a5 a6 a7 a8 a9 a10 a11 : Option Value} {r : List (Option Value)} {o : Option Value} {x : Int32} (d : decode cc pc = .ok (.istore 12, 2)) (hp : px_nl a11 = true) (h : px_W l G y cc nL ret Rm Fn (pc + 2) (a0 :: a1 :: a2 :: a3 :: a4 :: a5 :: a6 :: a7 :: a8 :: a9 :: a10 :: a11 :: some (.int x) :: r) (st) k n μ) : px_W l G y cc nL ret Rm Fn (pc) (a0 :: a1 :: a2 :: a3 :: a4 :: a5 :: a6 :: a7 :: a8 :: a9 :: a10 :: a11 :: o :: r) (.int x :: st) k n μ := by
  intro p e s m args below meth c H locs la X hl hF
  refine lv_istore X.1 X.2.1 d hl.1 (by have := hl.2; simp only [List.length_cons] at this; omega) rfl (fun la' h' => h p e s m args below meth c H locs la' X ?_ hF)
  exact hl.set (i := 12) (fun j w e q => by obtain rfl : j = 11 := (by omega); exact px_nl2 hp (Option.some.inj q)) h'
theorem px_astore_12 {a0 a1 a2 a3 a4 a5 a6 a7 a8 a9 a10 a11 : Option Value} {r : List (Option Value)} {o : Option Value} {x : Nat} (d : decode cc pc = .ok (.astore 12, 2)) (hp : px_nl a11 = true) (h : px_W l G y cc nL ret Rm Fn (pc + 2) (a0 :: a1 :: a2 :: a3 :: a4 :: a5 :: a6 :: a7 :: a8 :: a9 :: a10 :: a11 :: some (.ref x) :: r) (st) k n μ) : px_W l G y cc nL ret Rm Fn (pc) (a0 :: a1 :: a2 :: a3 :: a4 :: a5 :: a6 :: a7 :: a8 :: a9 :: a10 :: a11 :: o :: r) (.ref x :: st) k n μ := by
  intro p e s m args below meth c H locs la X hl hF
  refine lv_astore X.1 X.2.1 d hl.1 (by have := hl.2; simp only [List.length_cons] at this; omega) rfl (fun la' h' => h p e s m args below meth c H locs la' X ?_ hF)
  exact hl.set (i := 12) (fun j w e q => by obtain rfl : j = 11 := (by omega); exact px_nl2 hp (Option.some.inj q)) h'
theorem px_lstore_12 {a0 a1 a2 a3 a4 a5 a6 a7 a8 a9 a10 a11 : Option Value} {r : List (Option Value)} {o o2 : Option Value} {x : Int64} (d : decode cc pc = .ok (.lstore 12, 2)) (hp : px_nl a11 = true) (h : px_W l G y cc nL ret Rm Fn (pc + 2) (a0 :: a1 :: a2 :: a3 :: a4 :: a5 :: a6 :: a7 :: a8 :: a9 :: a10 :: a11 :: some (.long x) :: none :: r) (st) k n μ) : px_W l G y cc nL ret Rm Fn (pc) (a0 :: a1 :: a2 :: a3 :: a4 :: a5 :: a6 :: a7 :: a8 :: a9 :: a10 :: a11 :: o :: o2 :: r) (.long x :: st) k n μ := by
  intro p e s m args below meth c H locs la X hl hF
  refine lv_lstore X.1 X.2.1 d hl.1 (by have := hl.2; simp only [List.length_cons] at this; omega) rfl (fun la' h' => h p e s m args below meth c H locs la' X ?_ hF)
  exact hl.set2 (i := 12) (fun j w e q => by obtain rfl : j = 11 := (by omega); exact px_nl2 hp (Option.some.inj q)) h'
theorem px_iinc_12 {a0 a1 a2 a3 a4 a5 a6 a7 a8 a9 a10 a11 : Option Value} {r : List (Option Value)} {x : Int32} {z : Int} (d : decode cc pc = .ok (.iinc 12 z, 3)) (hp : px_nl a11 = true) (h : px_W l G y cc nL ret Rm Fn (pc + 3) (a0 :: a1 :: a2 :: a3 :: a4 :: a5 :: a6 :: a7 :: a8 :: a9 :: a10 :: a11 :: some (.int (x + Int32.ofInt z)) :: r) (st) k n μ) : px_W l G y cc nL ret Rm Fn (pc) (a0 :: a1 :: a2 :: a3 :: a4 :: a5 :: a6 :: a7 :: a8 :: a9 :: a10 :: a11 :: some (.int x) :: r) (st) k n μ := by
  intro p e s m args below meth c H locs la X hl hF
  obtain ⟨q, hq⟩ := List.getElem?_of_mem ((px_lv_mem (a0 :: a1 :: a2 :: a3 :: a4 :: a5 :: a6 :: a7 :: a8 :: a9 :: a10 :: a11 :: some (.int x) :: r) 0 12 (.int x)).mpr ⟨12, by omega, rfl⟩)
  refine lv_iinc X.1 X.2.1 d hl.1 hq rfl (by have := hl.2; simp only [List.length_cons] at this; omega) rfl (fun la' h' => h p e s m args below meth c H locs la' X ?_ hF)
  exact hl.set (i := 12) (fun j w e q => by obtain rfl : j = 11 := (by omega); exact px_nl2 hp (Option.some.inj q)) h'
theorem px_iload_13 {a0 a1 a2 a3 a4 a5 a6 a7 a8 a9 a10 a11 a12 : Option Value} {r : List (Option Value)} {x : Int32} (d : decode cc pc = .ok (.iload 13, 2)) (h : px_W l G y cc nL ret Rm Fn (pc + 2) (a0 :: a1 :: a2 :: a3 :: a4 :: a5 :: a6 :: a7 :: a8 :: a9 :: a10 :: a11 :: a12 :: some (.int x) :: r) (.int x :: st) k n μ) : px_W l G y cc nL ret Rm Fn (pc) (a0 :: a1 :: a2 :: a3 :: a4 :: a5 :: a6 :: a7 :: a8 :: a9 :: a10 :: a11 :: a12 :: some (.int x) :: r) (st) k n μ := fun p e s m args below meth c H locs la X hl hF => lv_iload X.1 X.2.1 d (hl.at rfl) (h p e s m args below meth c H locs la X hl hF)
theorem px_aload_13 {a0 a1 a2 a3 a4 a5 a6 a7 a8 a9 a10 a11 a12 : Option Value} {r : List (Option Value)} {x : Nat} (d : decode cc pc = .ok (.aload 13, 2)) (h : px_W l G y cc nL ret Rm Fn (pc + 2) (a0 :: a1 :: a2 :: a3 :: a4 :: a5 :: a6 :: a7 :: a8 :: a9 :: a10 :: a11 :: a12 :: some (.ref x) :: r) (.ref x :: st) k n μ) : px_W l G y cc nL ret Rm Fn (pc) (a0 :: a1 :: a2 :: a3 :: a4 :: a5 :: a6 :: a7 :: a8 :: a9 :: a10 :: a11 :: a12 :: some (.ref x) :: r) (st) k n μ := fun p e s m args below meth c H locs la X hl hF => lv_aload X.1 X.2.1 d (hl.at rfl) (h p e s m args below meth c H locs la X hl hF)
theorem px_lload_13 {a0 a1 a2 a3 a4 a5 a6 a7 a8 a9 a10 a11 a12 : Option Value} {r : List (Option Value)} {x : Int64} (d : decode cc pc = .ok (.lload 13, 2)) (h : px_W l G y cc nL ret Rm Fn (pc + 2) (a0 :: a1 :: a2 :: a3 :: a4 :: a5 :: a6 :: a7 :: a8 :: a9 :: a10 :: a11 :: a12 :: some (.long x) :: r) (.long x :: st) k n μ) : px_W l G y cc nL ret Rm Fn (pc) (a0 :: a1 :: a2 :: a3 :: a4 :: a5 :: a6 :: a7 :: a8 :: a9 :: a10 :: a11 :: a12 :: some (.long x) :: r) (st) k n μ := fun p e s m args below meth c H locs la X hl hF => lv_lload X.1 X.2.1 d (hl.at rfl) (h p e s m args below meth c H locs la X hl hF)
theorem px_istore_13 {a0 a1 a2 a3 a4 a5 a6 a7 a8 a9 a10 a11 a12 : Option Value} {r : List (Option Value)} {o : Option Value} {x : Int32} (d : decode cc pc = .ok (.istore 13, 2)) (hp : px_nl a12 = true) (h : px_W l G y cc nL ret Rm Fn (pc + 2) (a0 :: a1 :: a2 :: a3 :: a4 :: a5 :: a6 :: a7 :: a8 :: a9 :: a10 :: a11 :: a12 :: some (.int x) :: r) (st) k n μ) : px_W l G y cc nL ret Rm Fn (pc) (a0 :: a1 :: a2 :: a3 :: a4 :: a5 :: a6 :: a7 :: a8 :: a9 :: a10 :: a11 :: a12 :: o :: r) (.int x :: st) k n μ := by
  intro p e s m args below meth c H locs la X hl hF
  refine lv_istore X.1 X.2.1 d hl.1 (by have := hl.2; simp only [List.length_cons] at this; omega) rfl (fun la' h' => h p e s m args below meth c H locs la' X ?_ hF)
  exact hl.set (i := 13) (fun j w e q => by obtain rfl : j = 12 := (by omega); exact px_nl2 hp (Option.some.inj q)) h'
theorem px_astore_13 {a0 a1 a2 a3 a4 a5 a6 a7 a8 a9 a10 a11 a12 : Option Value} {r : List (Option Value)} {o : Option Value} {x : Nat} (d : decode cc pc = .ok (.astore 13, 2)) (hp : px_nl a12 = true) (h : px_W l G y cc nL ret Rm Fn (pc + 2) (a0 :: a1 :: a2 :: a3 :: a4 :: a5 :: a6 :: a7 :: a8 :: a9 :: a10 :: a11 :: a12 :: some (.ref x) :: r) (st) k n μ) : px_W l G y cc nL ret Rm Fn (pc) (a0 :: a1 :: a2 :: a3 :: a4 :: a5 :: a6 :: a7 :: a8 :: a9 :: a10 :: a11 :: a12 :: o :: r) (.ref x :: st) k n μ := by
  intro p e s m args below meth c H locs la X hl hF
  refine lv_astore X.1 X.2.1 d hl.1 (by have := hl.2; simp only [List.length_cons] at this; omega) rfl (fun la' h' => h p e s m args below meth c H locs la' X ?_ hF)
  exact hl.set (i := 13) (fun j w e q => by obtain rfl : j = 12 := (by omega); exact px_nl2 hp (Option.some.inj q)) h'
theorem px_iinc_13 {a0 a1 a2 a3 a4 a5 a6 a7 a8 a9 a10 a11 a12 : Option Value} {r : List (Option Value)} {x : Int32} {z : Int} (d : decode cc pc = .ok (.iinc 13 z, 3)) (hp : px_nl a12 = true) (h : px_W l G y cc nL ret Rm Fn (pc + 3) (a0 :: a1 :: a2 :: a3 :: a4 :: a5 :: a6 :: a7 :: a8 :: a9 :: a10 :: a11 :: a12 :: some (.int (x + Int32.ofInt z)) :: r) (st) k n μ) : px_W l G y cc nL ret Rm Fn (pc) (a0 :: a1 :: a2 :: a3 :: a4 :: a5 :: a6 :: a7 :: a8 :: a9 :: a10 :: a11 :: a12 :: some (.int x) :: r) (st) k n μ := by
  intro p e s m args below meth c H locs la X hl hF
  obtain ⟨q, hq⟩ := List.getElem?_of_mem ((px_lv_mem (a0 :: a1 :: a2 :: a3 :: a4 :: a5 :: a6 :: a7 :: a8 :: a9 :: a10 :: a11 :: a12 :: some (.int x) :: r) 0 13 (.int x)).mpr ⟨13, by omega, rfl⟩)
  refine lv_iinc X.1 X.2.1 d hl.1 hq rfl (by have := hl.2; simp only [List.length_cons] at this; omega) rfl (fun la' h' => h p e s m args below meth c H locs la' X ?_ hF)
  exact hl.set (i := 13) (fun j w e q => by obtain rfl : j = 12 := (by omega); exact px_nl2 hp (Option.some.inj q)) h'
end PX
end
section
section PY
variable {l : Launch} {G : px_G} {y : MethodName} {cc : ByteArray} {nL : Nat} {ret : Option FieldType} {Rm : Room} {Fn : List Frame → Array Value → State → State → Prop} {pc : Nat} {ls : List (Option Value)} {st : List Value} {k n : Nat} {μ : px_M} {Tt : px_T} {I I' : px_I} {J J' : px_J} {R R' : px_R}
theorem px_e_obj {cy : Nat → ClassId} {c n : Nat} {i : Nat → Int32} {j : Nat → Int64} {r : Nat → Option Nat} (h : c < 9) : px_e cy c n i j r = .inr (c, px_o c i j r) := by
  match c, h with
  | 0, _ => rfl
  | 1, _ => rfl
  | 2, _ => rfl
  | 3, _ => rfl
  | 4, _ => rfl
  | 5, _ => rfl
  | 6, _ => rfl
  | 7, _ => rfl
  | 8, _ => rfl
/-- a class's table, and what a program decides of it -/
def px_cl (c : Nat) (C : String) (T : u_T) (N : Nat) (ty : Nat → FieldType) : Prop :=
  c < 9 ∧ vwCl[c]? = some (C, T, N) ∧ (∀ w ∈ u_ws C T N, w ∈ px_ws) ∧ (∀ k, k < N → parseFieldDescriptor (T k).2.2.1 = some (ty k)) ∧ (∀ a, a < N → ∀ b, b < N → a ≠ b → (T a).2.1 ≠ (T b).2.1)
theorem px_widen {k' n' : Nat} (h1 : k ≤ k') (h2 : n ≤ n') (h : px_W l G y cc nL ret Rm Fn (pc) ls (st) k' n' μ) : px_W l G y cc nL ret Rm Fn (pc) ls (st) k n μ := fun p e s m args below meth c H locs la X hl hF => W.widen h1 h2 (h p e s m args below meth c H locs la X hl hF)
theorem px_get {c C T N ty a f v idx} (hc : px_cl c C T N ty) (hf : f < N) (hl0 : Cond.fieldLink y.cls idx (T f).1 (T f).2.1 (T f).2.2.1 ∈ px_ws) (d : decode cc pc = .ok (.getfield idx, 3)) (ha : px_at G Tt a c 0) (hv : (px_o c (I a) (J a) (R a))[f]? = some v) (h : px_W l G y cc nL ret Rm Fn (pc + 3) ls (v :: st) k n (Tt, I, J, R)) : px_W l G y cc nL ret Rm Fn (pc) ls (.ref a :: st) k n (Tt, I, J, R) := by
  intro p e s m args below meth c' H locs la X hl hF
  obtain ⟨hx, hb, hr, hown, hts, hml, hlk, hnm, hle, hK, hTb, hXs, hZs⟩ := id X
  obtain ⟨hP, hD, hz, hS⟩ := id hF
  obtain ⟨q, hq⟩ := px_at_get (I := I) (J := J) (R := R) ha
  rw [px_e_obj hc.1] at hq
  exact va_get (D := G.1) (ci := c) hx hb hts hc.2.2.1 hown hK hP q hq hc.2.1 f hf (hts _ hl0) (fun _ h9 => h9) hv d (h p e s m args below meth c' H locs la X hl hF)
/-- behind a store at the cell a -/
theorem px_F_set {s : State} {H H' : Heap} {locs : List Loc} {a c w j : Nat} (hF : px_F G (Tt, I, J, R) s H locs) (ha : px_at G Tt a c w) (he : va_at G.1 vwCl (a, px_e (px_cy G) c w (I' a) (J' a) (R' a)) H') (z : H'.size = H.size) (oq : ∀ q : Nat, q ≠ a → H'[q]? = H[q]?)
    (hI : ∀ b, b ≠ a → I' b = I b) (hJ : ∀ b, b ≠ a → J' b = J b) (hR : ∀ b, b ≠ a → R' b = R b) : px_F G (Tt, I', J', R') s H' (locs ++ [⟨a, j⟩]) := by
  obtain ⟨hP, hD, hz, hS⟩ := hF
  obtain ⟨q, hq⟩ := px_at_get (I := I) (J := J) (R := R) ha
  have hP1 := hP.set hD hq he oq
  have hD1 := hD.set (e := px_e (px_cy G) c w (I' a) (J' a) (R' a)) hq
  rw [px_set_w hD ha hq hI hJ hR] at hP1 hD1
  exact ⟨hP1, hD1, z.trans hz, hS.put z oq (hD.2 q _ hq)⟩
theorem px_put {c C T N ty a f v idx ty0} (hc : px_cl c C T N ty) (hf : f < N) (hl0 : Cond.fieldLink y.cls idx (T f).1 (T f).2.1 (T f).2.2.1 ∈ px_ws) (hfin : (T f).2.2.2 = false) (d : decode cc pc = .ok (.putfield idx, 3)) (ha : px_at G Tt a c 0) (hd : parseFieldDescriptor (T f).2.2.1 = some ty0) (hn : narrow ty0 v = v) (hfit : fits ty0 v = true) (hlen : f < (px_o c (I a) (J a) (R a)).length)
    (hset : (px_o c (I a) (J a) (R a)).set f v = px_o c (I' a) (J' a) (R' a)) (hI : ∀ b, b ≠ a → I' b = I b) (hJ : ∀ b, b ≠ a → J' b = J b) (hR : ∀ b, b ≠ a → R' b = R b) (h : px_W l G y cc nL ret Rm Fn (pc + 3) ls (st) k n (Tt, I', J', R')) : px_W l G y cc nL ret Rm Fn (pc) ls (v :: .ref a :: st) k n (Tt, I, J, R) := by
  intro p e s m args below meth c' H locs la X hl hF
  obtain ⟨hx, hb, hr, hown, hts, hml, hlk, hnm, hle, hK, hTb, hXs, hZs⟩ := id X
  obtain ⟨hP, hD, hz, hS⟩ := id hF
  have hap := va_apart (own := y.cls) hts hc.2.2.1 ty hc.2.2.2.1 hc.2.2.2.2 hK hc.2.1
  obtain ⟨q, hq⟩ := px_at_get (I := I) (J := J) (R := R) ha
  rw [px_e_obj hc.1] at hq
  obtain ⟨r, h1, cell, q1, q2, q3, q4⟩ := hP q _ hq
  obtain rfl : r = (C, T, N) := Option.some.inj (h1.symm.trans hc.2.1)
  obtain ⟨hSl, hfc, kC, hkC, hkind⟩ := hK.1 c _ hc.2.1
  obtain ⟨cf, kf, fi, fd, hi, hsl⟩ := hSl f hf
  have hlay := hts _ (hc.2.2.1 _ (u_in_lay hf))
  unfold u_lay at hlay
  rw [if_neg (by rw [hfin]; decide)] at hlay
  have hst := (u_facts hfc hkC (u_lays hts hc.2.2.1 hf) hi).1
  have h6 := u_store hfc hkC hkind hlay hi hd hn hfit
  refine W.putK hx hb (f := fd) ⟨hown, hts _ hl0, ⟨_, _, _, hi⟩, hst⟩ (by rw [q2]; exact h6) q1 q3 (by rw [hsl]; exact k2_hasslot (q4 f hf)) rfl rfl d fun H' e1 e2 e3 => ?_
  rw [hsl] at e1 ⊢
  refine h p e s m args below meth c' H' _ la X hl (px_F_set hF ha ?_ e2 e3 hI hJ hR)
  rw [px_e_obj hc.1, ← hset]
  exact ⟨_, hc.2.1, t_OB.to (V := updV (vp_V (px_o c (I a) (J a) (R a))) f v) ⟨_, e1, q2, q3, t_set q4 hap hf v⟩ (fun j _ => vp_updV_set hlen v j)⟩
theorem px_putF {c C T N ty a f v idx ty0} (hc : px_cl c C T N ty) (hf : f < N) (hl0 : Cond.fieldLink y.cls idx (T f).1 (T f).2.1 (T f).2.2.1 ∈ px_ws) (hfin : (T f).2.2.2 = true) (hin : y.name = "<init>") (hdecl : (T f).1 = y.cls) (d : decode cc pc = .ok (.putfield idx, 3)) (ha : px_at G Tt a c 0) (hd : parseFieldDescriptor (T f).2.2.1 = some ty0) (hn : narrow ty0 v = v) (hfit : fits ty0 v = true) (hlen : f < (px_o c (I a) (J a) (R a)).length)
    (hset : (px_o c (I a) (J a) (R a)).set f v = px_o c (I' a) (J' a) (R' a)) (hI : ∀ b, b ≠ a → I' b = I b) (hJ : ∀ b, b ≠ a → J' b = J b) (hR : ∀ b, b ≠ a → R' b = R b) (h : px_W l G y cc nL ret Rm Fn (pc + 3) ls (st) k n (Tt, I', J', R')) : px_W l G y cc nL ret Rm Fn (pc) ls (v :: .ref a :: st) k n (Tt, I, J, R) := by
  intro p e s m args below meth c' H locs la X hl hF
  obtain ⟨hx, hb, hr, hown, hts, hml, hlk, hnm, hle, hK, hTb, hXs, hZs⟩ := id X
  obtain ⟨hP, hD, hz, hS⟩ := id hF
  have hap := va_apart (own := y.cls) hts hc.2.2.1 ty hc.2.2.2.1 hc.2.2.2.2 hK hc.2.1
  obtain ⟨q, hq⟩ := px_at_get (I := I) (J := J) (R := R) ha
  rw [px_e_obj hc.1] at hq
  obtain ⟨r, h1, cell, q1, q2, q3, q4⟩ := hP q _ hq
  obtain rfl : r = (C, T, N) := Option.some.inj (h1.symm.trans hc.2.1)
  obtain ⟨hSl, hfc, kC, hkC, hkind⟩ := hK.1 c _ hc.2.1
  obtain ⟨cf, kf, fi, fd, hi, hsl⟩ := hSl f hf
  have hlay := hts _ (hc.2.2.1 _ (u_in_lay hf))
  unfold u_lay at hlay
  rw [if_pos hfin] at hlay
  have hst := (u_facts hfc hkC (u_lays hts hc.2.2.1 hf) hi).1
  have hcf : m.cls = cf := by
    obtain ⟨_, _, c9, _, _, _, -, -, hf', -, -, -, hown2, -⟩ := Cond.laysFinal_spec hlay
    have e1 : c9 = cf := by have := hi.symm.trans hf'; simp at this; exact this.1.symm
    rw [hdecl] at hown2
    rw [← e1]; exact Option.some.inj (hown.symm.trans hown2)
  have h6 := u_fits hfc hkC hkind (Or.inr hlay) hi hd hn hfit
  refine W.putFinK hx hb hown (hts _ hl0) hi hst hcf (hnm.trans hin) (by rw [q2]; exact h6) q1 q3 (by rw [hsl]; exact k2_hasslot (q4 f hf)) rfl rfl d fun H' e1 e2 e3 => ?_
  rw [hsl] at e1 ⊢
  refine h p e s m args below meth c' H' _ la X hl (px_F_set hF ha ?_ e2 e3 hI hJ hR)
  rw [px_e_obj hc.1, ← hset]
  exact ⟨_, hc.2.1, t_OB.to (V := updV (vp_V (px_o c (I a) (J a) (R a))) f v) ⟨_, e1, q2, q3, t_set q4 hap hf v⟩ (fun j _ => vp_updV_set hlen v j)⟩
theorem px_iald {a w : Nat} {i : Int32} (d : decode cc pc = .ok (.iaload, 1)) (ha : px_at G Tt a 9 w) (hi : vp_in i w) (h : px_W l G y cc nL ret Rm Fn (pc + 1) ls (.int (I a i.toNatClampNeg) :: st) k n (Tt, I, J, R)) : px_W l G y cc nL ret Rm Fn (pc) ls (.int i :: .ref a :: st) k n (Tt, I, J, R) := by
  intro p e s m args below meth c' H locs la X hl hF
  obtain ⟨hx, hb, hr, hown, hts, hml, hlk, hnm, hle, hK, hTb, hXs, hZs⟩ := id X
  obtain ⟨hP, hD, hz, hS⟩ := id hF
  obtain ⟨q, hq⟩ := px_at_get (I := I) (J := J) (R := R) ha
  exact va_iald (D := G.1) hx hb hK hP q 0 hq rfl hi d (h p e s m args below meth c' H locs la X hl hF)
theorem px_lald {a w : Nat} {i : Int32} (d : decode cc pc = .ok (.laload, 1)) (ha : px_at G Tt a 10 w) (hi : vp_in i w) (h : px_W l G y cc nL ret Rm Fn (pc + 1) ls (.long (J a i.toNatClampNeg) :: st) k n (Tt, I, J, R)) : px_W l G y cc nL ret Rm Fn (pc) ls (.int i :: .ref a :: st) k n (Tt, I, J, R) := by
  intro p e s m args below meth c' H locs la X hl hF
  obtain ⟨hx, hb, hr, hown, hts, hml, hlk, hnm, hle, hK, hTb, hXs, hZs⟩ := id X
  obtain ⟨hP, hD, hz, hS⟩ := id hF
  obtain ⟨q, hq⟩ := px_at_get (I := I) (J := J) (R := R) ha
  exact va_lald (D := G.1) hx hb hK hP q 1 hq rfl hi d (h p e s m args below meth c' H locs la X hl hF)
theorem px_zald {a w : Nat} {i : Int32} (d : decode cc pc = .ok (.baload, 1)) (ha : px_at G Tt a 11 w) (hi : vp_in i w) (h : px_W l G y cc nL ret Rm Fn (pc + 1) ls (.int (I a i.toNatClampNeg) :: st) k n (Tt, I, J, R)) : px_W l G y cc nL ret Rm Fn (pc) ls (.int i :: .ref a :: st) k n (Tt, I, J, R) := by
  intro p e s m args below meth c' H locs la X hl hF
  obtain ⟨hx, hb, hr, hown, hts, hml, hlk, hnm, hle, hK, hTb, hXs, hZs⟩ := id X
  obtain ⟨hP, hD, hz, hS⟩ := id hF
  obtain ⟨q, hq⟩ := px_at_get (I := I) (J := J) (R := R) ha
  exact va_zald (D := G.1) hx hb hK hP q 2 hq rfl hi d (h p e s m args below meth c' H locs la X hl hF)
theorem px_aald12 {a b w : Nat} {i : Int32} (d : decode cc pc = .ok (.aaload, 1)) (ha : px_at G Tt a 12 w) (hi : vp_in i w) (hv : R a i.toNatClampNeg = some b) (h : px_W l G y cc nL ret Rm Fn (pc + 1) ls (.ref b :: st) k n (Tt, I, J, R)) : px_W l G y cc nL ret Rm Fn (pc) ls (.int i :: .ref a :: st) k n (Tt, I, J, R) := by
  intro p e s m args below meth c' H locs la X hl hF
  obtain ⟨hx, hb, hr, hown, hts, hml, hlk, hnm, hle, hK, hTb, hXs, hZs⟩ := id X
  obtain ⟨hP, hD, hz, hS⟩ := id hF
  obtain ⟨q, hq⟩ := px_at_get (I := I) (J := J) (R := R) ha
  have hlt : i.toNatClampNeg < w := Nat.not_le.mp fun z => hi (Or.inr z)
  refine W.aald (v := .ref b) (ty := .object "SaltPrices$Cart") hx hb (hP q _ hq) ((hK.2 3 _ rfl).1 w (fun j => va_rf (R a j))) rfl (fun z => by cases z) (by show ¬ (i < 0 ∨ (arrV _ _ _).slots.size ≤ _); rw [arrV_size]; exact hi) (by show (arrV _ _ _).slots[_]? = _; rw [arrV_read _ _ hlt, hv]; rfl) rfl rfl d (h p e s m args below meth c' H locs la X hl hF)
theorem px_aald13 {a b w : Nat} {i : Int32} (d : decode cc pc = .ok (.aaload, 1)) (ha : px_at G Tt a 13 w) (hi : vp_in i w) (hv : R a i.toNatClampNeg = some b) (h : px_W l G y cc nL ret Rm Fn (pc + 1) ls (.ref b :: st) k n (Tt, I, J, R)) : px_W l G y cc nL ret Rm Fn (pc) ls (.int i :: .ref a :: st) k n (Tt, I, J, R) := by
  intro p e s m args below meth c' H locs la X hl hF
  obtain ⟨hx, hb, hr, hown, hts, hml, hlk, hnm, hle, hK, hTb, hXs, hZs⟩ := id X
  obtain ⟨hP, hD, hz, hS⟩ := id hF
  obtain ⟨q, hq⟩ := px_at_get (I := I) (J := J) (R := R) ha
  have hlt : i.toNatClampNeg < w := Nat.not_le.mp fun z => hi (Or.inr z)
  refine W.aald (v := .ref b) (ty := .object "SaltPrices$Road") hx hb (hP q _ hq) ((hK.2 4 _ rfl).1 w (fun j => va_rf (R a j))) rfl (fun z => by cases z) (by show ¬ (i < 0 ∨ (arrV _ _ _).slots.size ≤ _); rw [arrV_size]; exact hi) (by show (arrV _ _ _).slots[_]? = _; rw [arrV_read _ _ hlt, hv]; rfl) rfl rfl d (h p e s m args below meth c' H locs la X hl hF)
theorem px_aald14 {a b w : Nat} {i : Int32} (d : decode cc pc = .ok (.aaload, 1)) (ha : px_at G Tt a 14 w) (hi : vp_in i w) (hv : R a i.toNatClampNeg = some b) (h : px_W l G y cc nL ret Rm Fn (pc + 1) ls (.ref b :: st) k n (Tt, I, J, R)) : px_W l G y cc nL ret Rm Fn (pc) ls (.int i :: .ref a :: st) k n (Tt, I, J, R) := by
  intro p e s m args below meth c' H locs la X hl hF
  obtain ⟨hx, hb, hr, hown, hts, hml, hlk, hnm, hle, hK, hTb, hXs, hZs⟩ := id X
  obtain ⟨hP, hD, hz, hS⟩ := id hF
  obtain ⟨q, hq⟩ := px_at_get (I := I) (J := J) (R := R) ha
  have hlt : i.toNatClampNeg < w := Nat.not_le.mp fun z => hi (Or.inr z)
  refine W.aald (v := .ref b) (ty := .object "SaltPrices$World") hx hb (hP q _ hq) ((hK.2 5 _ rfl).1 w (fun j => va_rf (R a j))) rfl (fun z => by cases z) (by show ¬ (i < 0 ∨ (arrV _ _ _).slots.size ≤ _); rw [arrV_size]; exact hi) (by show (arrV _ _ _).slots[_]? = _; rw [arrV_read _ _ hlt, hv]; rfl) rfl rfl d (h p e s m args below meth c' H locs la X hl hF)
theorem px_aald15 {a b w : Nat} {i : Int32} (d : decode cc pc = .ok (.aaload, 1)) (ha : px_at G Tt a 15 w) (hi : vp_in i w) (hv : R a i.toNatClampNeg = some b) (h : px_W l G y cc nL ret Rm Fn (pc + 1) ls (.ref b :: st) k n (Tt, I, J, R)) : px_W l G y cc nL ret Rm Fn (pc) ls (.int i :: .ref a :: st) k n (Tt, I, J, R) := by
  intro p e s m args below meth c' H locs la X hl hF
  obtain ⟨hx, hb, hr, hown, hts, hml, hlk, hnm, hle, hK, hTb, hXs, hZs⟩ := id X
  obtain ⟨hP, hD, hz, hS⟩ := id hF
  obtain ⟨q, hq⟩ := px_at_get (I := I) (J := J) (R := R) ha
  have hlt : i.toNatClampNeg < w := Nat.not_le.mp fun z => hi (Or.inr z)
  refine W.aald (v := .ref b) (ty := .array .long) hx hb (hP q _ hq) ((hK.2 6 _ rfl).1 w (fun j => va_rf (R a j))) rfl (fun z => by cases z) (by show ¬ (i < 0 ∨ (arrV _ _ _).slots.size ≤ _); rw [arrV_size]; exact hi) (by show (arrV _ _ _).slots[_]? = _; rw [arrV_read _ _ hlt, hv]; rfl) rfl rfl d (h p e s m args below meth c' H locs la X hl hF)
theorem px_iast {a w : Nat} {i : Int32} {x : Int32} (d : decode cc pc = .ok (.iastore, 1)) (ha : px_at G Tt a 9 w) (hi : vp_in i w) (h : px_W l G y cc nL ret Rm Fn (pc + 1) ls (st) k n (Tt, px_up I a i.toNatClampNeg x, J, R)) : px_W l G y cc nL ret Rm Fn (pc) ls (.int x :: .int i :: .ref a :: st) k n (Tt, I, J, R) := by
  intro p e s m args below meth c' H locs la X hl hF
  obtain ⟨hx, hb, hr, hown, hts, hml, hlk, hnm, hle, hK, hTb, hXs, hZs⟩ := id X
  obtain ⟨hP, hD, hz, hS⟩ := id hF
  obtain ⟨q, hq⟩ := px_at_get (I := I) (J := J) (R := R) ha
  refine W.iast hx hb (hP q _ hq) ((hK.2 0 _ rfl).1 w (fun j => .int (I a j))) (fun z => by cases z) (by show ¬ (i < 0 ∨ (arrV _ _ _).slots.size ≤ _); rw [arrV_size]; exact hi) rfl rfl d fun H1 e1 z oq => ?_
  refine h p e s m args below meth c' H1 _ la X hl (px_F_set hF ha ?_ z oq (fun b hb => by first | exact px_up_ne hb | rfl) (fun b hb => by first | exact px_up_ne hb | rfl) (fun b hb => rfl))
  show H1[a]? = some (vp_cell _ _)
  rw [e1, px_up_row]
  refine congrArg some ?_
  dsimp only
  rw [vp_cell_i, vp_cell_i, arrV_store]
  congr 1
  funext q
  by_cases hq : q = i.toNatClampNeg
  · subst hq
    simp [updV, vp_nar]
    try rfl
  · simp [updV, hq]
theorem px_last {a w : Nat} {i : Int32} {x : Int64} (d : decode cc pc = .ok (.lastore, 1)) (ha : px_at G Tt a 10 w) (hi : vp_in i w) (h : px_W l G y cc nL ret Rm Fn (pc + 1) ls (st) k n (Tt, I, px_up J a i.toNatClampNeg x, R)) : px_W l G y cc nL ret Rm Fn (pc) ls (.long x :: .int i :: .ref a :: st) k n (Tt, I, J, R) := by
  intro p e s m args below meth c' H locs la X hl hF
  obtain ⟨hx, hb, hr, hown, hts, hml, hlk, hnm, hle, hK, hTb, hXs, hZs⟩ := id X
  obtain ⟨hP, hD, hz, hS⟩ := id hF
  obtain ⟨q, hq⟩ := px_at_get (I := I) (J := J) (R := R) ha
  refine W.last hx hb (hP q _ hq) ((hK.2 1 _ rfl).1 w (fun j => .long (J a j))) (fun z => by cases z) (by show ¬ (i < 0 ∨ (arrV _ _ _).slots.size ≤ _); rw [arrV_size]; exact hi) rfl rfl d fun H1 e1 z oq => ?_
  refine h p e s m args below meth c' H1 _ la X hl (px_F_set hF ha ?_ z oq (fun b hb => by first | exact px_up_ne hb | rfl) (fun b hb => by first | exact px_up_ne hb | rfl) (fun b hb => rfl))
  show H1[a]? = some (vp_cell _ _)
  rw [e1, px_up_row]
  refine congrArg some ?_
  dsimp only
  rw [vp_cell_l, vp_cell_l, arrV_store]
  congr 1
  funext q
  by_cases hq : q = i.toNatClampNeg
  · subst hq
    simp [updV, vp_nar]
    try rfl
  · simp [updV, hq]
theorem px_zast {a w : Nat} {i : Int32} {x : Int32} (d : decode cc pc = .ok (.bastore, 1)) (ha : px_at G Tt a 11 w) (hi : vp_in i w) (h : px_W l G y cc nL ret Rm Fn (pc + 1) ls (st) k n (Tt, px_up I a i.toNatClampNeg (vp_nar .boolean x), J, R)) : px_W l G y cc nL ret Rm Fn (pc) ls (.int x :: .int i :: .ref a :: st) k n (Tt, I, J, R) := by
  intro p e s m args below meth c' H locs la X hl hF
  obtain ⟨hx, hb, hr, hown, hts, hml, hlk, hnm, hle, hK, hTb, hXs, hZs⟩ := id X
  obtain ⟨hP, hD, hz, hS⟩ := id hF
  obtain ⟨q, hq⟩ := px_at_get (I := I) (J := J) (R := R) ha
  refine W.zast hx hb (hP q _ hq) ((hK.2 2 _ rfl).1 w (fun j => .int (I a j))) (fun z => by cases z) (by show ¬ (i < 0 ∨ (arrV _ _ _).slots.size ≤ _); rw [arrV_size]; exact hi) rfl rfl d fun H1 e1 z oq => ?_
  refine h p e s m args below meth c' H1 _ la X hl (px_F_set hF ha ?_ z oq (fun b hb => by first | exact px_up_ne hb | rfl) (fun b hb => by first | exact px_up_ne hb | rfl) (fun b hb => rfl))
  show H1[a]? = some (vp_cell _ _)
  rw [e1, px_up_row]
  refine congrArg some ?_
  dsimp only
  rw [vp_cell_i, vp_cell_i, arrV_store]
  congr 1
  funext q
  by_cases hq : q = i.toNatClampNeg
  · subst hq
    simp [updV, vp_nar]
    try rfl
  · simp [updV, hq]
theorem px_aast12 {a b w : Nat} {i : Int32} (d : decode cc pc = .ok (.aastore, 1)) (ha : px_at G Tt a 12 w) (hv : px_at G Tt b 0 0) (hi : vp_in i w) (h : px_W l G y cc nL ret Rm Fn (pc + 1) ls (st) k n (Tt, I, J, px_up R a i.toNatClampNeg (some b))) : px_W l G y cc nL ret Rm Fn (pc) ls (.ref b :: .int i :: .ref a :: st) k n (Tt, I, J, R) := by
  intro p e s m args below meth c' H locs la X hl hF
  obtain ⟨hx, hb, hr, hown, hts, hml, hlk, hnm, hle, hK, hTb, hXs, hZs⟩ := id X
  obtain ⟨hP, hD, hz, hS⟩ := id hF
  obtain ⟨q, hq⟩ := px_at_get (I := I) (J := J) (R := R) ha
  obtain ⟨qk, hqk⟩ := px_at_get (I := I) (J := J) (R := R) hv
  rw [px_e_obj (by decide)] at hqk
  have hlt : i.toNatClampNeg < w := Nat.not_le.mp fun z => hi (Or.inr z)
  have h0 : ¬ i < 0 := fun z => hi (Or.inl z)
  obtain ⟨r', hr', cellV, g1, g2, g3, -⟩ := hP qk _ hqk
  have hcls := (hK.1 0 _ rfl).2
  obtain ⟨kA, comp, k1, k2, k3, -⟩ := (hK.2 3 _ rfl).2
  obtain rfl : comp = G.1.1 0 := Option.some.inj (k3.symm.trans hcls.1)
  obtain ⟨kC, hkC, -⟩ := hcls.2
  refine W.aast hx hb (hP q _ hq) (fun q h => by cases h) (fun h => by cases h) k1 k2 rfl hkC ⟨h0, by show _ < (arrV _ _ _).slots.size; rw [arrV_size]; exact hlt⟩ g1 (fun q h => by rw [g3] at h; cases h) (by rw [g2]; exact hkC) (by rw [g2]; exact va_assign hcls) rfl rfl d fun H1 e1 z oq => ?_
  refine h p e s m args below meth c' H1 _ la X hl (px_F_set hF ha ?_ z oq (fun b hb => rfl) (fun b hb => rfl) (fun b hb => px_up_ne hb))
  show H1[a]? = some (vp_cell _ _)
  rw [e1, px_up_row]
  refine congrArg some ?_
  dsimp only
  rw [vp_cell_q, vp_cell_q, arrV_store]
  congr 1
  funext q
  by_cases hq : q = i.toNatClampNeg
  · subst hq
    simp [updV, va_rf]
  · simp [updV, hq]
theorem px_aast13 {a b w : Nat} {i : Int32} (d : decode cc pc = .ok (.aastore, 1)) (ha : px_at G Tt a 13 w) (hv : px_at G Tt b 4 0) (hi : vp_in i w) (h : px_W l G y cc nL ret Rm Fn (pc + 1) ls (st) k n (Tt, I, J, px_up R a i.toNatClampNeg (some b))) : px_W l G y cc nL ret Rm Fn (pc) ls (.ref b :: .int i :: .ref a :: st) k n (Tt, I, J, R) := by
  intro p e s m args below meth c' H locs la X hl hF
  obtain ⟨hx, hb, hr, hown, hts, hml, hlk, hnm, hle, hK, hTb, hXs, hZs⟩ := id X
  obtain ⟨hP, hD, hz, hS⟩ := id hF
  obtain ⟨q, hq⟩ := px_at_get (I := I) (J := J) (R := R) ha
  obtain ⟨qk, hqk⟩ := px_at_get (I := I) (J := J) (R := R) hv
  rw [px_e_obj (by decide)] at hqk
  have hlt : i.toNatClampNeg < w := Nat.not_le.mp fun z => hi (Or.inr z)
  have h0 : ¬ i < 0 := fun z => hi (Or.inl z)
  obtain ⟨r', hr', cellV, g1, g2, g3, -⟩ := hP qk _ hqk
  have hcls := (hK.1 4 _ rfl).2
  obtain ⟨kA, comp, k1, k2, k3, -⟩ := (hK.2 4 _ rfl).2
  obtain rfl : comp = G.1.1 4 := Option.some.inj (k3.symm.trans hcls.1)
  obtain ⟨kC, hkC, -⟩ := hcls.2
  refine W.aast hx hb (hP q _ hq) (fun q h => by cases h) (fun h => by cases h) k1 k2 rfl hkC ⟨h0, by show _ < (arrV _ _ _).slots.size; rw [arrV_size]; exact hlt⟩ g1 (fun q h => by rw [g3] at h; cases h) (by rw [g2]; exact hkC) (by rw [g2]; exact va_assign hcls) rfl rfl d fun H1 e1 z oq => ?_
  refine h p e s m args below meth c' H1 _ la X hl (px_F_set hF ha ?_ z oq (fun b hb => rfl) (fun b hb => rfl) (fun b hb => px_up_ne hb))
  show H1[a]? = some (vp_cell _ _)
  rw [e1, px_up_row]
  refine congrArg some ?_
  dsimp only
  rw [vp_cell_q, vp_cell_q, arrV_store]
  congr 1
  funext q
  by_cases hq : q = i.toNatClampNeg
  · subst hq
    simp [updV, va_rf]
  · simp [updV, hq]
theorem px_aast14 {a b w : Nat} {i : Int32} (d : decode cc pc = .ok (.aastore, 1)) (ha : px_at G Tt a 14 w) (hv : px_at G Tt b 6 0) (hi : vp_in i w) (h : px_W l G y cc nL ret Rm Fn (pc + 1) ls (st) k n (Tt, I, J, px_up R a i.toNatClampNeg (some b))) : px_W l G y cc nL ret Rm Fn (pc) ls (.ref b :: .int i :: .ref a :: st) k n (Tt, I, J, R) := by
  intro p e s m args below meth c' H locs la X hl hF
  obtain ⟨hx, hb, hr, hown, hts, hml, hlk, hnm, hle, hK, hTb, hXs, hZs⟩ := id X
  obtain ⟨hP, hD, hz, hS⟩ := id hF
  obtain ⟨q, hq⟩ := px_at_get (I := I) (J := J) (R := R) ha
  obtain ⟨qk, hqk⟩ := px_at_get (I := I) (J := J) (R := R) hv
  rw [px_e_obj (by decide)] at hqk
  have hlt : i.toNatClampNeg < w := Nat.not_le.mp fun z => hi (Or.inr z)
  have h0 : ¬ i < 0 := fun z => hi (Or.inl z)
  obtain ⟨r', hr', cellV, g1, g2, g3, -⟩ := hP qk _ hqk
  have hcls := (hK.1 6 _ rfl).2
  obtain ⟨kA, comp, k1, k2, k3, -⟩ := (hK.2 5 _ rfl).2
  obtain rfl : comp = G.1.1 6 := Option.some.inj (k3.symm.trans hcls.1)
  obtain ⟨kC, hkC, -⟩ := hcls.2
  refine W.aast hx hb (hP q _ hq) (fun q h => by cases h) (fun h => by cases h) k1 k2 rfl hkC ⟨h0, by show _ < (arrV _ _ _).slots.size; rw [arrV_size]; exact hlt⟩ g1 (fun q h => by rw [g3] at h; cases h) (by rw [g2]; exact hkC) (by rw [g2]; exact va_assign hcls) rfl rfl d fun H1 e1 z oq => ?_
  refine h p e s m args below meth c' H1 _ la X hl (px_F_set hF ha ?_ z oq (fun b hb => rfl) (fun b hb => rfl) (fun b hb => px_up_ne hb))
  show H1[a]? = some (vp_cell _ _)
  rw [e1, px_up_row]
  refine congrArg some ?_
  dsimp only
  rw [vp_cell_q, vp_cell_q, arrV_store]
  congr 1
  funext q
  by_cases hq : q = i.toNatClampNeg
  · subst hq
    simp [updV, va_rf]
  · simp [updV, hq]
theorem px_ti {t N q : Nat} {f : Nat → Value} {i : Int32} {v : Value} (d : decode cc pc = .ok (.iaload, 1)) (hq : G.2.2.2.1[q]? = some (.int, t, N, f)) (hi : vp_in i N) (hv : f i.toNatClampNeg = v) (h : px_W l G y cc nL ret Rm Fn (pc + 1) ls (v :: st) k n μ) : px_W l G y cc nL ret Rm Fn (pc) ls (.int i :: .ref t :: st) k n μ := by
  intro p e s m args below meth c' H locs la X hl hF
  obtain ⟨hx, hb, hr, hown, hts, hml, hlk, hnm, hle, hK, hTb, hXs, hZs⟩ := id X
  obtain ⟨hP, hD, hz, hS⟩ := id hF
  exact va_ti hx hb (hTb q _ hq) hS hi hv d (h p e s m args below meth c' H locs la X hl hF)
theorem px_tl {t N q : Nat} {f : Nat → Value} {i : Int32} {v : Value} (d : decode cc pc = .ok (.laload, 1)) (hq : G.2.2.2.1[q]? = some (.long, t, N, f)) (hi : vp_in i N) (hv : f i.toNatClampNeg = v) (h : px_W l G y cc nL ret Rm Fn (pc + 1) ls (v :: st) k n μ) : px_W l G y cc nL ret Rm Fn (pc) ls (.int i :: .ref t :: st) k n μ := by
  intro p e s m args below meth c' H locs la X hl hF
  obtain ⟨hx, hb, hr, hown, hts, hml, hlk, hnm, hle, hK, hTb, hXs, hZs⟩ := id X
  obtain ⟨hP, hD, hz, hS⟩ := id hF
  exact va_tl hx hb (hTb q _ hq) hS hi hv d (h p e s m args below meth c' H locs la X hl hF)
theorem px_sld {b w q : Nat} {f : Nat → Int32} {i : Int32} (d : decode cc pc = .ok (.iaload, 1)) (hq : G.2.2.2.2.1[q]? = some (b, w, f)) (hi : vp_in i w) (h : px_W l G y cc nL ret Rm Fn (pc + 1) ls (.int (f i.toNatClampNeg) :: st) k n μ) : px_W l G y cc nL ret Rm Fn (pc) ls (.int i :: .ref b :: st) k n μ := by
  intro p e s m args below meth c' H locs la X hl hF
  obtain ⟨hx, hb, hr, hown, hts, hml, hlk, hnm, hle, hK, hTb, hXs, hZs⟩ := id X
  obtain ⟨hP, hD, hz, hS⟩ := id hF
  obtain ⟨g1, g2⟩ := hXs q _ hq
  have g2 : b < px_h G := g2
  exact va_sld hx hb g1 (show b < s.heap.size by omega) (fun z => by unfold px_A at z; omega) hS hi d (h p e s m args below meth c' H locs la X hl hF)
theorem px_slen {b w q : Nat} {f : Nat → Int32} (d : decode cc pc = .ok (.arraylength, 1)) (hq : G.2.2.2.2.1[q]? = some (b, w, f)) (h : px_W l G y cc nL ret Rm Fn (pc + 1) ls (.int (Int32.ofNat w) :: st) k n μ) : px_W l G y cc nL ret Rm Fn (pc) ls (.ref b :: st) k n μ := by
  intro p e s m args below meth c' H locs la X hl hF
  obtain ⟨hx, hb, hr, hown, hts, hml, hlk, hnm, hle, hK, hTb, hXs, hZs⟩ := id X
  obtain ⟨hP, hD, hz, hS⟩ := id hF
  obtain ⟨g1, g2⟩ := hXs q _ hq
  have g2 : b < px_h G := g2
  exact va_slen hx hb g1 (show b < s.heap.size by omega) (fun z => by unfold px_A at z; omega) hS d (h p e s m args below meth c' H locs la X hl hF)
theorem px_gets {C nm ds : String} {v : Value} {q idx : Nat} (hl0 : Cond.fieldLink y.cls idx C nm ds ∈ px_ws) (d : decode cc pc = .ok (.getstatic idx, 3)) (hq : G.2.2.2.2.2[q]? = some (C, nm, ds, v)) (h : px_W l G y cc nL ret Rm Fn (pc + 3) ls (v :: st) k n μ) : px_W l G y cc nL ret Rm Fn (pc) ls (st) k n μ := by
  intro p e s m args below meth c' H locs la X hl hF
  obtain ⟨hx, hb, hr, hown, hts, hml, hlk, hnm, hle, hK, hTb, hXs, hZs⟩ := id X
  obtain ⟨hP, hD, hz, hS⟩ := id hF
  exact va_gets hx hb (hZs q _ hq) hS hown (hts _ hl0) (fun _ h9 => h9) d (h p e s m args below meth c' H locs la X hl hF)
theorem px_getsN {C nm ds host : String} {v : Value} {q idx : Nat} (hl0 : Cond.fieldLinkNest y.cls idx C nm ds host ∈ px_ws) (d : decode cc pc = .ok (.getstatic idx, 3)) (hq : G.2.2.2.2.2[q]? = some (C, nm, ds, v)) (h : px_W l G y cc nL ret Rm Fn (pc + 3) ls (v :: st) k n μ) : px_W l G y cc nL ret Rm Fn (pc) ls (st) k n μ := by
  intro p e s m args below meth c' H locs la X hl hF
  obtain ⟨hx, hb, hr, hown, hts, hml, hlk, hnm, hle, hK, hTb, hXs, hZs⟩ := id X
  obtain ⟨hP, hD, hz, hS⟩ := id hF
  exact va_getsN hx hb (hZs q _ hq) hS hown (hts _ hl0) (fun _ h9 => h9) d (h p e s m args below meth c' H locs la X hl hF)
def px_jmin : Prop := Cond.static Lib.Math.min.name ∈ px_ws ∧ Cond.initialized "java/lang/Math" ∈ px_ws ∧ Cond.code Lib.Math.min.name Lib.Math.min.code 2 (some .int) ∈ px_ws
def px_jmax : Prop := Cond.static Lib.MathLoose.max_long.x ∈ px_ws ∧ Cond.initialized "java/lang/Math" ∈ px_ws ∧ Cond.code Lib.MathLoose.max_long.x Lib.MathLoose.max_long.code 4 (some .long) ∈ px_ws
theorem px_mmin {a b : Int32} {idx : Nat} (hw : px_jmin) (hl0 : Cond.methodLink y.cls idx Lib.Math.min.name ∈ px_ws) (hR : 1 ≤ Rm.frames ∧ (st.map fun v => v.category).sum + 13 ≤ Rm.locals ∧ k ≤ Rm.cells ∧ n ≤ Rm.slots) (d : decode cc pc = .ok (.invokestatic idx, 3)) (h : px_W l G y cc nL ret Rm Fn (pc + 3) ls (.int (if b < a then b else a) :: st) k n μ) : px_W l G y cc nL ret Rm Fn (pc) ls (.int b :: .int a :: st) k n μ := by
  intro p e s m args below meth c' H locs la X hl hF
  obtain ⟨hx, hb, hr, hown, hts, hml, hlk, hnm, hle, hK, hTb, hXs, hZs⟩ := id X
  obtain ⟨hP, hD, hz, hS⟩ := id hF
  exact va_mmin hx hb (hml.trans hl.1.1.symm) hown (hts _ hl0) (hts _ hw.1) (hts _ hw.2.1) (hts _ hw.2.2) hR.1 hR.2.1 hR.2.2.1 hR.2.2.2 d (h p e s m args below meth c' H locs la X hl hF)
theorem px_mmaxl {a b : Int64} {idx : Nat} (hw : px_jmax) (hl0 : Cond.methodLink y.cls idx Lib.MathLoose.max_long.x ∈ px_ws) (hR : 1 ≤ Rm.frames ∧ (st.map fun v => v.category).sum + 15 ≤ Rm.locals ∧ k ≤ Rm.cells ∧ n ≤ Rm.slots) (d : decode cc pc = .ok (.invokestatic idx, 3)) (h : px_W l G y cc nL ret Rm Fn (pc + 3) ls (.long (if b < a then a else b) :: st) k n μ) : px_W l G y cc nL ret Rm Fn (pc) ls (.long b :: .long a :: st) k n μ := by
  intro p e s m args below meth c' H locs la X hl hF
  obtain ⟨hx, hb, hr, hown, hts, hml, hlk, hnm, hle, hK, hTb, hXs, hZs⟩ := id X
  obtain ⟨hP, hD, hz, hS⟩ := id hF
  exact va_mmax_long hx hb (hml.trans hl.1.1.symm) hown (hts _ hl0) (hts _ hw.1) (hts _ hw.2.1) (hts _ hw.2.2) hR.1 hR.2.1 hR.2.2.1 hR.2.2.2 d (h p e s m args below meth c' H locs la X hl hF)
def px_pl (y : MethodName) (na : Nat) : Prop := y.cls ≠ "java/lang/invoke/MethodHandle" ∧ y.cls ≠ "java/lang/invoke/VarHandle" ∧ (parseMethodDescriptor y.desc).map (fun d => d.parameters.length) = some na
/-- what the tables say of an instance method, a static one, a constructor -/
def px_mv (M : px_D) (na : Nat) : Prop := Cond.instanceMethod M.1 ∈ px_ws ∧ Cond.selects M.1.cls M.1 M.1 ∈ px_ws ∧ Cond.initialized M.1.cls ∈ px_ws ∧ Cond.code M.1 M.2.1 M.2.2.1 M.2.2.2 ∈ px_ws ∧ px_pl M.1 na
def px_ms (M : px_D) (na : Nat) : Prop := Cond.static M.1 ∈ px_ws ∧ Cond.initialized M.1.cls ∈ px_ws ∧ Cond.code M.1 M.2.1 M.2.2.1 M.2.2.2 ∈ px_ws ∧ px_pl M.1 na
def px_mi (M : px_D) (na : Nat) : Prop := Cond.instanceMethod M.1 ∈ px_ws ∧ Cond.initialized M.1.cls ∈ px_ws ∧ Cond.code M.1 M.2.1 M.2.2.1 none ∈ px_ws ∧ M.1.name = "<init>" ∧ M.2.2.2 = none ∧ px_pl M.1 na
theorem px_gc {c : Cond} (h : c ∈ px_ws) : GoodIn px_ws (c :: px_ws) := fun w hw => by
  rcases List.mem_cons.mp hw with rfl | hw
  · exact px_gi _ h
  · exact px_gi _ hw
theorem px_gV {own C : String} {idx : Nat} {z : MethodName} {c : Cond} (h1 : Cond.methodLink own idx z ∈ px_ws) (h2 : Cond.instanceMethod z ∈ px_ws) (h3 : Cond.selects C z z ∈ px_ws) (h4 : Cond.initialized C ∈ px_ws) (h5 : c ∈ px_ws) : GoodIn px_ws (wsV own idx C z (c :: px_ws)) := fun w hw => px_gi w (by
  simp only [wsV, List.cons_append, List.nil_append, List.mem_cons] at hw
  rcases hw with rfl | rfl | rfl | rfl | rfl | hw <;> assumption)
theorem px_gS {own : String} {idx : Nat} {z : MethodName} {c : Cond} (h1 : Cond.methodLink own idx z ∈ px_ws) (h2 : Cond.static z ∈ px_ws) (h4 : Cond.initialized z.cls ∈ px_ws) (h5 : c ∈ px_ws) : GoodIn px_ws (va_wsS own idx z (c :: px_ws)) := fun w hw => px_gi w (by
  simp only [va_wsS, List.cons_append, List.nil_append, List.mem_cons] at hw
  rcases hw with rfl | rfl | rfl | rfl | hw <;> assumption)
theorem px_back {p : Program} {e : Env} {s : State} {m : MethodId} {args : Array Value} {below : List Frame} {meth : Method} {c : Code} {H : Heap} {locs : List Loc} {Q : State → Prop} {mc ms : Nat} {la : Array Slot} {stk : List Value} {Q1 : Option Value → px_M → Prop} {a : Array Value} (hle : px_h G ≤ s.heap.size)
    (hr : va_Run p l e Rm s m args below meth c H locs k n mc ms (F0 m pc la stk) st (px_Qc G Q1 a) (px_A G)) (hF : px_F G μ s H locs)
    (kk : ∀ (v : Option Value) (μ' : px_M) (H1 : Heap) (locs1 : List Loc), Q1 v μ' → px_F G μ' s H1 locs1 → W p l e Rm s m args below meth c H1 locs1 (k + mc) (n + ms) Q (F0 m (pc + 3) la (v.toList ++ st))) : W p l e Rm s m args below meth c H locs k n Q (F0 m pc la stk) := by
  intro T hT Xs
  obtain ⟨v, st₀, t, T', L, h0, X', hL, e1, e2, ⟨⟨v', μ', hv, hq, hS1⟩, hz, hk⟩, stp⟩ := hr T hT Xs
  cases hv
  obtain ⟨-, -, -, hS⟩ := hF
  obtain ⟨-, hP1, hD1, hsz, -⟩ := hS1
  rw [h0] at hz hk
  obtain ⟨t2, a1, b1⟩ := kk v μ' T'.heap (locs ++ L) hq ⟨by rw [e1]; exact hP1, hD1, by rw [e1]; exact hsz, Nat.le_trans hS.1 (by rw [e1]; exact hz), fun q h1 h2 => by rw [e1, hk q (Nat.lt_of_lt_of_le h1 hS.1) h2]; exact hS.2.1 q h1 h2, fun q hq => by
      rcases List.mem_append.mp hq with h | h
      · exact hS.2.2 q h
      · exact hL q h⟩ T' rfl X'
  exact ⟨t2, stp t2 a1, b1⟩
theorem px_blind {As : List Value} : FrameBlind (va_Pc As (fun U => px_S G μ U)) := fun a U g mk q => ⟨q.1, px_S.moved (u := U) (U := U.calling g mk a) (Vm.Alike.refl U.vm) rfl q.2⟩
theorem px_callV {M : px_D} {lv mc ms idx : Nat} {b ci : Nat} {As : List Value} {Q1 : Option Value → px_M → Prop} {stk : List Value} (hm : px_mv M As.length) (hl0 : Cond.methodLink y.cls idx M.1 ∈ px_ws) (hR : (lv + 1 ≤ Rm.frames ∧ 8 + (M.2.2.1 + 11) + 33 * lv ≤ Rm.locals) ∧ k + mc ≤ Rm.cells ∧ n + ms ≤ Rm.slots ∧ (st.map fun v => v.category).sum ≤ 8) (hrc : px_at G μ.1 b ci 0) (hrk : ci < 9 ∧ ∃ C T N, vwCl[ci]? = some (C, T, N) ∧ M.1.cls = C) (d : decode cc pc = .ok (.invokevirtual idx, 3)) (hc : px_C l G lv mc ms M (.ref b :: As) μ Q1) (hstk : stk = As.reverse ++ .ref b :: st) (h : ∀ v μ', Q1 v μ' → px_W l G y cc nL ret Rm Fn (pc + 3) ls (v.toList ++ st) (k + mc) (n + ms) μ') : px_W l G y cc nL ret Rm Fn (pc) ls (stk) k n μ := by
  intro p e s m args below meth c' H locs la X hl hF
  obtain ⟨hx, hb, hr, hown, hts, hml, hlk, hnm, hle, hK, hTb, hXs, hZs⟩ := id X
  obtain ⟨hP, hD, hz, hS⟩ := id hF
  obtain ⟨h9, C0, T0, N0, hci, hcls⟩ := hrk
  obtain ⟨qb, hqb⟩ := px_at_get (I := μ.2.1) (J := μ.2.2.1) (R := μ.2.2.2) hrc
  rw [px_e_obj h9] at hqb
  have hrec := va_recv hK hP hci hqb
  rw [show (C0, T0, N0).1 = M.1.cls from hcls.symm] at hrec
  exact px_back hle (va_runV (As := As) (rest := st) ⟨hx, hb, hml, hown, hts⟩ hc (cwV (ws' := px_ws) As.length hts (px_gV hl0 hm.1 hm.2.1 hm.2.2.1 hm.2.2.2.1) rfl rfl rfl ⟨rfl, hm.2.2.2.2.1, hm.2.2.2.2.2.1, hm.2.2.2.2.2.2⟩ hR.1) ⟨px_blind, hrec, fun U hU hW => ⟨rfl, px_end X hF hU hW.alike⟩⟩ rfl rfl hl.1.1 hstk (lv_room hR.2.2.2) d ⟨hR.2.1, hR.2.2.1⟩) hF (fun v μ' H1 locs1 q hF1 => h v μ' q p e s m args below meth c' H1 locs1 la X hl hF1)
theorem px_callS {M : px_D} {lv mc ms idx : Nat} {As : List Value} {Q1 : Option Value → px_M → Prop} {stk : List Value} (hm : px_ms M As.length) (hl0 : Cond.methodLink y.cls idx M.1 ∈ px_ws) (hR : (lv + 1 ≤ Rm.frames ∧ 8 + (M.2.2.1 + 11) + 33 * lv ≤ Rm.locals) ∧ k + mc ≤ Rm.cells ∧ n + ms ≤ Rm.slots ∧ (st.map fun v => v.category).sum ≤ 8) (d : decode cc pc = .ok (.invokestatic idx, 3)) (hc : px_C l G lv mc ms M (As) μ Q1) (hstk : stk = As.reverse ++ st) (h : ∀ v μ', Q1 v μ' → px_W l G y cc nL ret Rm Fn (pc + 3) ls (v.toList ++ st) (k + mc) (n + ms) μ') : px_W l G y cc nL ret Rm Fn (pc) ls (stk) k n μ := by
  intro p e s m args below meth c' H locs la X hl hF
  obtain ⟨hx, hb, hr, hown, hts, hml, hlk, hnm, hle, hK, hTb, hXs, hZs⟩ := id X
  obtain ⟨hP, hD, hz, hS⟩ := id hF
  exact px_back hle (va_runS (As := As) (rest := st) ⟨hx, hb, hml, hown, hts⟩ hc (va_cwS (ws' := px_ws) As.length hts (px_gS hl0 hm.1 hm.2.1 hm.2.2.1) rfl rfl rfl hm.2.2.2 hR.1) ⟨px_blind, fun U hU hW => ⟨rfl, px_end X hF hU hW.alike⟩⟩ rfl rfl hl.1.1 hstk (lv_room hR.2.2.2) d ⟨hR.2.1, hR.2.2.1⟩) hF (fun v μ' H1 locs1 q hF1 => h v μ' q p e s m args below meth c' H1 locs1 la X hl hF1)
theorem px_callI {M : px_D} {lv mc ms idx : Nat} {b ci : Nat} {As : List Value} {Q1 : Option Value → px_M → Prop} {stk : List Value} (hm : px_mi M As.length) (hl0 : Cond.methodLink y.cls idx M.1 ∈ px_ws) (hR : (lv + 1 ≤ Rm.frames ∧ 8 + (M.2.2.1 + 11) + 33 * lv ≤ Rm.locals) ∧ k + mc ≤ Rm.cells ∧ n + ms ≤ Rm.slots ∧ (st.map fun v => v.category).sum ≤ 8) (d : decode cc pc = .ok (.invokespecial idx, 3)) (hc : px_C l G lv mc ms M (.ref b :: As) μ Q1) (hstk : stk = As.reverse ++ .ref b :: st) (h : ∀ v μ', Q1 v μ' → px_W l G y cc nL ret Rm Fn (pc + 3) ls (v.toList ++ st) (k + mc) (n + ms) μ') : px_W l G y cc nL ret Rm Fn (pc) ls (stk) k n μ := by
  intro p e s m args below meth c' H locs la X hl hF
  obtain ⟨hx, hb, hr, hown, hts, hml, hlk, hnm, hle, hK, hTb, hXs, hZs⟩ := id X
  obtain ⟨hP, hD, hz, hS⟩ := id hF
  have hc : Met l M.1 (.code M.1 M.2.1 M.2.2.1 none :: px_ws) (px_rm lv mc ms) (va_Pc (.ref b :: As) (fun U => px_S G μ U)) (px_Qc G Q1) mc ms (px_A G) := by have := hc; unfold px_C at this; rw [hm.2.2.2.2.1] at this; exact this
  exact px_back hle (va_runI (As := As) (rest := st) ⟨hx, hb, hml, hown, hts⟩ hc (cwI (ws' := px_ws) As.length hts (px_gc hm.2.2.1) rfl rfl rfl (hts _ hm.2.1) (hts _ hl0) (hts _ hm.1) hm.2.2.2.1 hm.2.2.2.2.2 hR.1) ⟨px_blind, fun U hU hW => ⟨rfl, px_end X hF hU hW.alike⟩⟩ rfl rfl hl.1.1 hstk (lv_room hR.2.2.2) d ⟨hR.2.1, hR.2.2.1⟩) hF (fun v μ' H1 locs1 q hF1 => h v μ' q p e s m args below meth c' H1 locs1 la X hl hF1)
theorem px_callVN {M : px_D} {lv mc ms idx : Nat} {host : String} {b ci : Nat} {As : List Value} {Q1 : Option Value → px_M → Prop} {stk : List Value} (hm : px_mv M As.length) (hl0 : Cond.methodLinkNest y.cls idx M.1 host ∈ px_ws) (hR : (lv + 1 ≤ Rm.frames ∧ 8 + (M.2.2.1 + 11) + 33 * lv ≤ Rm.locals) ∧ k + mc ≤ Rm.cells ∧ n + ms ≤ Rm.slots ∧ (st.map fun v => v.category).sum ≤ 8) (hrc : px_at G μ.1 b ci 0) (hrk : ci < 9 ∧ ∃ C T N, vwCl[ci]? = some (C, T, N) ∧ M.1.cls = C) (d : decode cc pc = .ok (.invokevirtual idx, 3)) (hc : px_C l G lv mc ms M (.ref b :: As) μ Q1) (hstk : stk = As.reverse ++ .ref b :: st) (h : ∀ v μ', Q1 v μ' → px_W l G y cc nL ret Rm Fn (pc + 3) ls (v.toList ++ st) (k + mc) (n + ms) μ') : px_W l G y cc nL ret Rm Fn (pc) ls (stk) k n μ := by
  intro p e s m args below meth c' H locs la X hl hF
  obtain ⟨hx, hb, hr, hown, hts, hml, hlk, hnm, hle, hK, hTb, hXs, hZs⟩ := id X
  obtain ⟨hP, hD, hz, hS⟩ := id hF
  obtain ⟨h9, C0, T0, N0, hci, hcls⟩ := hrk
  obtain ⟨qb, hqb⟩ := px_at_get (I := μ.2.1) (J := μ.2.2.1) (R := μ.2.2.2) hrc
  rw [px_e_obj h9] at hqb
  have hrec := va_recv hK hP hci hqb
  rw [show (C0, T0, N0).1 = M.1.cls from hcls.symm] at hrec
  exact px_back hle (va_runVN (As := As) (rest := st) ⟨hx, hb, hml, hown, hts⟩ hc ⟨va_cnB (ws' := px_ws) As.length hts (px_gc hm.2.2.2.1) rfl rfl rfl (va_tabs rfl rfl (hts _ hl0)) (hts _ hm.2.2.1) hm.2.2.2.2 hR.1, hts _ hm.1, hts _ hm.2.1⟩ ⟨px_blind, hrec, fun U hU hW => ⟨rfl, px_end X hF hU hW.alike⟩⟩ rfl rfl hl.1.1 hstk (lv_room hR.2.2.2) d ⟨hR.2.1, hR.2.2.1⟩) hF (fun v μ' H1 locs1 q hF1 => h v μ' q p e s m args below meth c' H1 locs1 la X hl hF1)
theorem px_callSN {M : px_D} {lv mc ms idx : Nat} {host : String} {As : List Value} {Q1 : Option Value → px_M → Prop} {stk : List Value} (hm : px_ms M As.length) (hl0 : Cond.methodLinkNest y.cls idx M.1 host ∈ px_ws) (hR : (lv + 1 ≤ Rm.frames ∧ 8 + (M.2.2.1 + 11) + 33 * lv ≤ Rm.locals) ∧ k + mc ≤ Rm.cells ∧ n + ms ≤ Rm.slots ∧ (st.map fun v => v.category).sum ≤ 8) (d : decode cc pc = .ok (.invokestatic idx, 3)) (hc : px_C l G lv mc ms M (As) μ Q1) (hstk : stk = As.reverse ++ st) (h : ∀ v μ', Q1 v μ' → px_W l G y cc nL ret Rm Fn (pc + 3) ls (v.toList ++ st) (k + mc) (n + ms) μ') : px_W l G y cc nL ret Rm Fn (pc) ls (stk) k n μ := by
  intro p e s m args below meth c' H locs la X hl hF
  obtain ⟨hx, hb, hr, hown, hts, hml, hlk, hnm, hle, hK, hTb, hXs, hZs⟩ := id X
  obtain ⟨hP, hD, hz, hS⟩ := id hF
  exact px_back hle (va_runSN (As := As) (rest := st) ⟨hx, hb, hml, hown, hts⟩ hc ⟨va_cnB (ws' := px_ws) As.length hts (px_gc hm.2.2.1) rfl rfl rfl (va_tabs rfl rfl (hts _ hl0)) (hts _ hm.2.1) hm.2.2.2 hR.1, hts _ hm.1, trivial⟩ ⟨px_blind, fun U hU hW => ⟨rfl, px_end X hF hU hW.alike⟩⟩ rfl rfl hl.1.1 hstk (lv_room hR.2.2.2) d ⟨hR.2.1, hR.2.2.1⟩) hF (fun v μ' H1 locs1 q hF1 => h v μ' q p e s m args below meth c' H1 locs1 la X hl hF1)
theorem px_callIN {M : px_D} {lv mc ms idx : Nat} {host : String} {b ci : Nat} {As : List Value} {Q1 : Option Value → px_M → Prop} {stk : List Value} (hm : px_mi M As.length) (hl0 : Cond.methodLinkNest y.cls idx M.1 host ∈ px_ws) (hR : (lv + 1 ≤ Rm.frames ∧ 8 + (M.2.2.1 + 11) + 33 * lv ≤ Rm.locals) ∧ k + mc ≤ Rm.cells ∧ n + ms ≤ Rm.slots ∧ (st.map fun v => v.category).sum ≤ 8) (d : decode cc pc = .ok (.invokespecial idx, 3)) (hc : px_C l G lv mc ms M (.ref b :: As) μ Q1) (hstk : stk = As.reverse ++ .ref b :: st) (h : ∀ v μ', Q1 v μ' → px_W l G y cc nL ret Rm Fn (pc + 3) ls (v.toList ++ st) (k + mc) (n + ms) μ') : px_W l G y cc nL ret Rm Fn (pc) ls (stk) k n μ := by
  intro p e s m args below meth c' H locs la X hl hF
  obtain ⟨hx, hb, hr, hown, hts, hml, hlk, hnm, hle, hK, hTb, hXs, hZs⟩ := id X
  obtain ⟨hP, hD, hz, hS⟩ := id hF
  have hc : Met l M.1 (.code M.1 M.2.1 M.2.2.1 none :: px_ws) (px_rm lv mc ms) (va_Pc (.ref b :: As) (fun U => px_S G μ U)) (px_Qc G Q1) mc ms (px_A G) := by have := hc; unfold px_C at this; rw [hm.2.2.2.2.1] at this; exact this
  exact px_back hle (va_runIN (As := As) (rest := st) ⟨hx, hb, hml, hown, hts⟩ hc ⟨va_cnB (ws' := px_ws) As.length hts (px_gc hm.2.2.1) rfl rfl rfl (va_tabs rfl rfl (hts _ hl0)) (hts _ hm.2.1) hm.2.2.2.2.2 hR.1, hm.2.2.2.1, hts _ hm.1⟩ ⟨px_blind, fun U hU hW => ⟨rfl, px_end X hF hU hW.alike⟩⟩ rfl rfl hl.1.1 hstk (lv_room hR.2.2.2) d ⟨hR.2.1, hR.2.2.1⟩) hF (fun v μ' H1 locs1 q hF1 => h v μ' q p e s m args below meth c' H1 locs1 la X hl hF1)
def px_oi : Prop := Cond.instanceMethod Lib.objectInit ∈ px_ws ∧ Cond.code Lib.objectInit ⟨#[0xb1]⟩ 1 none ∈ px_ws
theorem px_objInit {a idx : Nat} (hw : px_oi) (hl0 : Cond.methodLink y.cls idx Lib.objectInit ∈ px_ws) (hR : 1 ≤ Rm.frames ∧ (st.map fun v => v.category).sum + 12 ≤ Rm.locals) (d : decode cc pc = .ok (.invokespecial idx, 3)) (h : px_W l G y cc nL ret Rm Fn (pc + 3) ls (st) k n μ) : px_W l G y cc nL ret Rm Fn (pc) ls (.ref a :: st) k n μ := by
  intro p e s m args below meth c' H locs la X hl hF
  obtain ⟨hx, hb, hr, hown, hts, hml, hlk, hnm, hle, hK, hTb, hXs, hZs⟩ := id X
  obtain ⟨hP, hD, hz, hS⟩ := id hF
  exact W.objInit hx hb hown (hts _ hl0) (hts _ hw.1) (hts _ hw.2) rfl (hl.1.1.trans hml.symm) rfl d hR.1 (by show 2 * 0 + _ + 12 ≤ _; omega) (h p e s m args below meth c' H locs la X hl hF)
end PY
section PZ
variable {l : Launch} {G : px_G} {y : MethodName} {cc : ByteArray} {nL : Nat} {lv mc ms : Nat} {Q : Option Value → px_M → Prop} {pc : Nat} {ls : List (Option Value)} {μ : px_M}
theorem px_iret {v : Int32} (d : decode cc pc = .ok (.ireturn, 1)) (hq : Q (some (.int v)) μ) : px_W l G y cc nL (some .int) (px_rm lv mc ms) (px_Fn G Q mc ms) pc ls [.int v] mc ms μ := by
  intro p e s m args below meth c' H locs la X hl hF
  obtain ⟨hx, hb, hr, hown, hts, hml, hlk, hnm, hle, hK, hTb, hXs, hZs⟩ := id X
  obtain ⟨hP, hD, hz, hS⟩ := id hF
  exact W.iret hx hb hr (fun t ht hW => ⟨⟨_, μ, rfl, hq, px_end X hF ht hW.alike⟩, hS.F ht⟩) hS.2.2 d hlk
theorem px_lret {v : Int64} (d : decode cc pc = .ok (.lreturn, 1)) (hq : Q (some (.long v)) μ) : px_W l G y cc nL (some .long) (px_rm lv mc ms) (px_Fn G Q mc ms) pc ls [.long v] mc ms μ := by
  intro p e s m args below meth c' H locs la X hl hF
  obtain ⟨hx, hb, hr, hown, hts, hml, hlk, hnm, hle, hK, hTb, hXs, hZs⟩ := id X
  obtain ⟨hP, hD, hz, hS⟩ := id hF
  exact W.lret hx hb hr (fun t ht hW => ⟨⟨_, μ, rfl, hq, px_end X hF ht hW.alike⟩, hS.F ht⟩) hS.2.2 d hlk
theorem px_zret {v : Int32} (d : decode cc pc = .ok (.ireturn, 1)) (hn : narrow .boolean (.int v) = .int v) (hq : Q (some (.int v)) μ) : px_W l G y cc nL (some .boolean) (px_rm lv mc ms) (px_Fn G Q mc ms) pc ls [.int v] mc ms μ := by
  intro p e s m args below meth c' H locs la X hl hF
  obtain ⟨hx, hb, hr, hown, hts, hml, hlk, hnm, hle, hK, hTb, hXs, hZs⟩ := id X
  obtain ⟨hP, hD, hz, hS⟩ := id hF
  exact W.zret hx hb hr hn (fun t ht hW => ⟨⟨_, μ, rfl, hq, px_end X hF ht hW.alike⟩, hS.F ht⟩) hS.2.2 d hlk
theorem px_vret (d : decode cc pc = .ok (.return_, 1)) (hq : Q none μ) : px_W l G y cc nL none (px_rm lv mc ms) (px_Fn G Q mc ms) pc ls [] mc ms μ := by
  intro p e s m args below meth c' H locs la X hl hF
  obtain ⟨hx, hb, hr, hown, hts, hml, hlk, hnm, hle, hK, hTb, hXs, hZs⟩ := id X
  obtain ⟨hP, hD, hz, hS⟩ := id hF
  exact W.vret hx hb hr (fun t ht hW => ⟨⟨_, μ, rfl, hq, px_end X hF ht hW.alike⟩, hS.F ht⟩) hS.2.2 d hlk
end PZ
end
