-- ===== PART A: goes FIRST, ahead of the names: the tables' words, and 'selects' of the private methods out of them =====
/-- a private method of a class that the tables say can be made, by its rows of tables_1 -/
def lw_okq (q : MethodName × Nat) : Prop := (q.1.cls ≠ "java/lang/invoke/MethodHandle" ∧ q.1.cls ≠ "java/lang/invoke/VarHandle") ∧ Cond.instantiable q.1.cls q.2 ∈ tables_1 ∧ Cond.privateMethod q.1 ∈ tables_1 ∧ Cond.instanceMethod q.1 ∈ tables_1
theorem lw_p0 : lw_okq (⟨"SaltPrices$History", "placeBehind", "(I)I"⟩, 3) := ⟨⟨by decide +kernel, by decide +kernel⟩, List.mem_of_getElem? (i := 171) (by decide +kernel), List.mem_of_getElem? (i := 299) (by decide +kernel), List.mem_of_getElem? (i := 300) (by decide +kernel)⟩
theorem lw_p1 : lw_okq (⟨"SaltPrices", "recorded", "(I)I"⟩, 9) := ⟨⟨by decide +kernel, by decide +kernel⟩, List.mem_of_getElem? (i := 13) (by decide +kernel), List.mem_of_getElem? (i := 330) (by decide +kernel), List.mem_of_getElem? (i := 331) (by decide +kernel)⟩
theorem lw_p2 : lw_okq (⟨"SaltPrices", "findHonestPrices", "()I"⟩, 9) := ⟨⟨by decide +kernel, by decide +kernel⟩, List.mem_of_getElem? (i := 13) (by decide +kernel), List.mem_of_getElem? (i := 386) (by decide +kernel), List.mem_of_getElem? (i := 387) (by decide +kernel)⟩
theorem lw_p3 : lw_okq (⟨"SaltPrices", "lowerEnd", "(LSaltPrices$Road;II)V"⟩, 9) := ⟨⟨by decide +kernel, by decide +kernel⟩, List.mem_of_getElem? (i := 13) (by decide +kernel), List.mem_of_getElem? (i := 391) (by decide +kernel), List.mem_of_getElem? (i := 392) (by decide +kernel)⟩
theorem lw_p4 : lw_okq (⟨"SaltPrices$World", "sneak", "(LSaltPrices$Cart;LSaltPrices$Road;)I"⟩, 11) := ⟨⟨by decide +kernel, by decide +kernel⟩, List.mem_of_getElem? (i := 21) (by decide +kernel), List.mem_of_getElem? (i := 463) (by decide +kernel), List.mem_of_getElem? (i := 464) (by decide +kernel)⟩
theorem lw_p5 : lw_okq (⟨"SaltPrices$World", "draw", "()I"⟩, 11) := ⟨⟨by decide +kernel, by decide +kernel⟩, List.mem_of_getElem? (i := 21) (by decide +kernel), List.mem_of_getElem? (i := 467) (by decide +kernel), List.mem_of_getElem? (i := 468) (by decide +kernel)⟩
theorem lw_p6 : lw_okq (⟨"SaltPrices$World", "payToll", "(LSaltPrices$Cart;LSaltPrices$Road;)V"⟩, 11) := ⟨⟨by decide +kernel, by decide +kernel⟩, List.mem_of_getElem? (i := 21) (by decide +kernel), List.mem_of_getElem? (i := 476) (by decide +kernel), List.mem_of_getElem? (i := 477) (by decide +kernel)⟩
theorem lw_p7 : lw_okq (⟨"SaltPrices", "hidingTowns", "()I"⟩, 9) := ⟨⟨by decide +kernel, by decide +kernel⟩, List.mem_of_getElem? (i := 13) (by decide +kernel), List.mem_of_getElem? (i := 510) (by decide +kernel), List.mem_of_getElem? (i := 511) (by decide +kernel)⟩
theorem lw_p8 : lw_okq (⟨"SaltPrices$Routes", "fillRow", "(LSaltPrices$World;I)V"⟩, 4) := ⟨⟨by decide +kernel, by decide +kernel⟩, List.mem_of_getElem? (i := 240) (by decide +kernel), List.mem_of_getElem? (i := 519) (by decide +kernel), List.mem_of_getElem? (i := 520) (by decide +kernel)⟩
theorem lw_p9 : lw_okq (⟨"SaltPrices$Routes", "byWaiting", "(II)J"⟩, 4) := ⟨⟨by decide +kernel, by decide +kernel⟩, List.mem_of_getElem? (i := 240) (by decide +kernel), List.mem_of_getElem? (i := 523) (by decide +kernel), List.mem_of_getElem? (i := 524) (by decide +kernel)⟩
theorem lw_p10 : lw_okq (⟨"SaltPrices$Routes", "raise", "(ILSaltPrices$Road;II)V"⟩, 4) := ⟨⟨by decide +kernel, by decide +kernel⟩, List.mem_of_getElem? (i := 240) (by decide +kernel), List.mem_of_getElem? (i := 528) (by decide +kernel), List.mem_of_getElem? (i := 529) (by decide +kernel)⟩
theorem lw_p11 : lw_okq (⟨"SaltPrices$Routes", "openly", "(LSaltPrices$Road;II)J"⟩, 4) := ⟨⟨by decide +kernel, by decide +kernel⟩, List.mem_of_getElem? (i := 240) (by decide +kernel), List.mem_of_getElem? (i := 532) (by decide +kernel), List.mem_of_getElem? (i := 533) (by decide +kernel)⟩
theorem lw_p12 : lw_okq (⟨"SaltPrices$Routes", "hiding", "(ILSaltPrices$Road;II)J"⟩, 4) := ⟨⟨by decide +kernel, by decide +kernel⟩, List.mem_of_getElem? (i := 240) (by decide +kernel), List.mem_of_getElem? (i := 542) (by decide +kernel), List.mem_of_getElem? (i := 543) (by decide +kernel)⟩
theorem lw_p13 : lw_okq (⟨"SaltPrices$Routes", "isBest", "(ILSaltPrices$Road;II)Z"⟩, 4) := ⟨⟨by decide +kernel, by decide +kernel⟩, List.mem_of_getElem? (i := 240) (by decide +kernel), List.mem_of_getElem? (i := 604) (by decide +kernel), List.mem_of_getElem? (i := 605) (by decide +kernel)⟩
theorem lw_p14 : lw_okq (⟨"SaltPrices$Reader", "readSubject", "()Z"⟩, 7) := ⟨⟨by decide +kernel, by decide +kernel⟩, List.mem_of_getElem? (i := 207) (by decide +kernel), List.mem_of_getElem? (i := 662) (by decide +kernel), List.mem_of_getElem? (i := 663) (by decide +kernel)⟩
theorem lw_p15 : lw_okq (⟨"SaltPrices$Reader", "readNumber", "()Z"⟩, 7) := ⟨⟨by decide +kernel, by decide +kernel⟩, List.mem_of_getElem? (i := 207) (by decide +kernel), List.mem_of_getElem? (i := 666) (by decide +kernel), List.mem_of_getElem? (i := 667) (by decide +kernel)⟩
def lw_privs_1 : List (MethodName × Nat) := [(⟨"SaltPrices$History", "placeBehind", "(I)I"⟩, 3), (⟨"SaltPrices", "recorded", "(I)I"⟩, 9), (⟨"SaltPrices", "findHonestPrices", "()I"⟩, 9), (⟨"SaltPrices", "lowerEnd", "(LSaltPrices$Road;II)V"⟩, 9), (⟨"SaltPrices$World", "sneak", "(LSaltPrices$Cart;LSaltPrices$Road;)I"⟩, 11), (⟨"SaltPrices$World", "draw", "()I"⟩, 11), (⟨"SaltPrices$World", "payToll", "(LSaltPrices$Cart;LSaltPrices$Road;)V"⟩, 11), (⟨"SaltPrices", "hidingTowns", "()I"⟩, 9), (⟨"SaltPrices$Routes", "fillRow", "(LSaltPrices$World;I)V"⟩, 4), (⟨"SaltPrices$Routes", "byWaiting", "(II)J"⟩, 4), (⟨"SaltPrices$Routes", "raise", "(ILSaltPrices$Road;II)V"⟩, 4), (⟨"SaltPrices$Routes", "openly", "(LSaltPrices$Road;II)J"⟩, 4), (⟨"SaltPrices$Routes", "hiding", "(ILSaltPrices$Road;II)J"⟩, 4), (⟨"SaltPrices$Routes", "isBest", "(ILSaltPrices$Road;II)Z"⟩, 4), (⟨"SaltPrices$Reader", "readSubject", "()Z"⟩, 7), (⟨"SaltPrices$Reader", "readNumber", "()Z"⟩, 7)]
theorem lw_r1 : ∀ q ∈ lw_privs_1, lw_okq q := List.forall_mem_cons.mpr ⟨lw_p0, List.forall_mem_cons.mpr ⟨lw_p1, List.forall_mem_cons.mpr ⟨lw_p2, List.forall_mem_cons.mpr ⟨lw_p3, List.forall_mem_cons.mpr ⟨lw_p4, List.forall_mem_cons.mpr ⟨lw_p5, List.forall_mem_cons.mpr ⟨lw_p6, List.forall_mem_cons.mpr ⟨lw_p7, List.forall_mem_cons.mpr ⟨lw_p8, List.forall_mem_cons.mpr ⟨lw_p9, List.forall_mem_cons.mpr ⟨lw_p10, List.forall_mem_cons.mpr ⟨lw_p11, List.forall_mem_cons.mpr ⟨lw_p12, List.forall_mem_cons.mpr ⟨lw_p13, List.forall_mem_cons.mpr ⟨lw_p14, List.forall_mem_cons.mpr ⟨lw_p15, fun _ h => absurd h List.not_mem_nil⟩⟩⟩⟩⟩⟩⟩⟩⟩⟩⟩⟩⟩⟩⟩⟩
theorem lw_p16 : lw_okq (⟨"SaltPrices$Reader", "readDigit", "()Z"⟩, 7) := ⟨⟨by decide +kernel, by decide +kernel⟩, List.mem_of_getElem? (i := 207) (by decide +kernel), List.mem_of_getElem? (i := 670) (by decide +kernel), List.mem_of_getElem? (i := 671) (by decide +kernel)⟩
theorem lw_p17 : lw_okq (⟨"SaltPrices$Reader", "isDigit", "()Z"⟩, 7) := ⟨⟨by decide +kernel, by decide +kernel⟩, List.mem_of_getElem? (i := 207) (by decide +kernel), List.mem_of_getElem? (i := 674) (by decide +kernel), List.mem_of_getElem? (i := 675) (by decide +kernel)⟩
theorem lw_p18 : lw_okq (⟨"SaltPrices", "obey", "()I"⟩, 9) := ⟨⟨by decide +kernel, by decide +kernel⟩, List.mem_of_getElem? (i := 13) (by decide +kernel), List.mem_of_getElem? (i := 688) (by decide +kernel), List.mem_of_getElem? (i := 689) (by decide +kernel)⟩
theorem lw_p19 : lw_okq (⟨"SaltPricesModel", "putAside", "()V"⟩, 15) := ⟨⟨by decide +kernel, by decide +kernel⟩, List.mem_of_getElem? (i := 710) (by decide +kernel), List.mem_of_getElem? (i := 766) (by decide +kernel), List.mem_of_getElem? (i := 767) (by decide +kernel)⟩
theorem lw_p20 : lw_okq (⟨"SaltPricesModel", "guards", "()I"⟩, 15) := ⟨⟨by decide +kernel, by decide +kernel⟩, List.mem_of_getElem? (i := 710) (by decide +kernel), List.mem_of_getElem? (i := 779) (by decide +kernel), List.mem_of_getElem? (i := 780) (by decide +kernel)⟩
theorem lw_p21 : lw_okq (⟨"SaltPricesModel", "becomes", "(II)I"⟩, 15) := ⟨⟨by decide +kernel, by decide +kernel⟩, List.mem_of_getElem? (i := 710) (by decide +kernel), List.mem_of_getElem? (i := 786) (by decide +kernel), List.mem_of_getElem? (i := 787) (by decide +kernel)⟩
theorem lw_p22 : lw_okq (⟨"SaltPricesModel", "changed", "(I)I"⟩, 15) := ⟨⟨by decide +kernel, by decide +kernel⟩, List.mem_of_getElem? (i := 710) (by decide +kernel), List.mem_of_getElem? (i := 790) (by decide +kernel), List.mem_of_getElem? (i := 791) (by decide +kernel)⟩
theorem lw_p23 : lw_okq (⟨"SaltPricesModel", "record", "()V"⟩, 15) := ⟨⟨by decide +kernel, by decide +kernel⟩, List.mem_of_getElem? (i := 710) (by decide +kernel), List.mem_of_getElem? (i := 794) (by decide +kernel), List.mem_of_getElem? (i := 795) (by decide +kernel)⟩
theorem lw_p24 : lw_okq (⟨"SaltPricesModel", "addsRoad", "(III)I"⟩, 15) := ⟨⟨by decide +kernel, by decide +kernel⟩, List.mem_of_getElem? (i := 710) (by decide +kernel), List.mem_of_getElem? (i := 802) (by decide +kernel), List.mem_of_getElem? (i := 803) (by decide +kernel)⟩
theorem lw_p25 : lw_okq (⟨"SaltPricesModel", "prices", "(II)I"⟩, 15) := ⟨⟨by decide +kernel, by decide +kernel⟩, List.mem_of_getElem? (i := 710) (by decide +kernel), List.mem_of_getElem? (i := 813) (by decide +kernel), List.mem_of_getElem? (i := 814) (by decide +kernel)⟩
theorem lw_p26 : lw_okq (⟨"SaltPricesModel", "setsGuards", "(II)I"⟩, 15) := ⟨⟨by decide +kernel, by decide +kernel⟩, List.mem_of_getElem? (i := 710) (by decide +kernel), List.mem_of_getElem? (i := 821) (by decide +kernel), List.mem_of_getElem? (i := 822) (by decide +kernel)⟩
theorem lw_p27 : lw_okq (⟨"SaltPricesModel", "isRoad", "(I)Z"⟩, 15) := ⟨⟨by decide +kernel, by decide +kernel⟩, List.mem_of_getElem? (i := 710) (by decide +kernel), List.mem_of_getElem? (i := 825) (by decide +kernel), List.mem_of_getElem? (i := 826) (by decide +kernel)⟩
theorem lw_p28 : lw_okq (⟨"SaltPricesModel", "makes", "()I"⟩, 15) := ⟨⟨by decide +kernel, by decide +kernel⟩, List.mem_of_getElem? (i := 710) (by decide +kernel), List.mem_of_getElem? (i := 837) (by decide +kernel), List.mem_of_getElem? (i := 838) (by decide +kernel)⟩
theorem lw_p29 : lw_okq (⟨"SaltPricesModel", "dishonest", "()I"⟩, 15) := ⟨⟨by decide +kernel, by decide +kernel⟩, List.mem_of_getElem? (i := 710) (by decide +kernel), List.mem_of_getElem? (i := 841) (by decide +kernel), List.mem_of_getElem? (i := 842) (by decide +kernel)⟩
theorem lw_p30 : lw_okq (⟨"SaltPricesModel", "isHonest", "(II)Z"⟩, 15) := ⟨⟨by decide +kernel, by decide +kernel⟩, List.mem_of_getElem? (i := 710) (by decide +kernel), List.mem_of_getElem? (i := 845) (by decide +kernel), List.mem_of_getElem? (i := 846) (by decide +kernel)⟩
theorem lw_p31 : lw_okq (⟨"SaltPricesModel", "end", "(II)I"⟩, 15) := ⟨⟨by decide +kernel, by decide +kernel⟩, List.mem_of_getElem? (i := 710) (by decide +kernel), List.mem_of_getElem? (i := 849) (by decide +kernel), List.mem_of_getElem? (i := 850) (by decide +kernel)⟩
def lw_privs_2 : List (MethodName × Nat) := [(⟨"SaltPrices$Reader", "readDigit", "()Z"⟩, 7), (⟨"SaltPrices$Reader", "isDigit", "()Z"⟩, 7), (⟨"SaltPrices", "obey", "()I"⟩, 9), (⟨"SaltPricesModel", "putAside", "()V"⟩, 15), (⟨"SaltPricesModel", "guards", "()I"⟩, 15), (⟨"SaltPricesModel", "becomes", "(II)I"⟩, 15), (⟨"SaltPricesModel", "changed", "(I)I"⟩, 15), (⟨"SaltPricesModel", "record", "()V"⟩, 15), (⟨"SaltPricesModel", "addsRoad", "(III)I"⟩, 15), (⟨"SaltPricesModel", "prices", "(II)I"⟩, 15), (⟨"SaltPricesModel", "setsGuards", "(II)I"⟩, 15), (⟨"SaltPricesModel", "isRoad", "(I)Z"⟩, 15), (⟨"SaltPricesModel", "makes", "()I"⟩, 15), (⟨"SaltPricesModel", "dishonest", "()I"⟩, 15), (⟨"SaltPricesModel", "isHonest", "(II)Z"⟩, 15), (⟨"SaltPricesModel", "end", "(II)I"⟩, 15)]
theorem lw_r2 : ∀ q ∈ lw_privs_2, lw_okq q := List.forall_mem_cons.mpr ⟨lw_p16, List.forall_mem_cons.mpr ⟨lw_p17, List.forall_mem_cons.mpr ⟨lw_p18, List.forall_mem_cons.mpr ⟨lw_p19, List.forall_mem_cons.mpr ⟨lw_p20, List.forall_mem_cons.mpr ⟨lw_p21, List.forall_mem_cons.mpr ⟨lw_p22, List.forall_mem_cons.mpr ⟨lw_p23, List.forall_mem_cons.mpr ⟨lw_p24, List.forall_mem_cons.mpr ⟨lw_p25, List.forall_mem_cons.mpr ⟨lw_p26, List.forall_mem_cons.mpr ⟨lw_p27, List.forall_mem_cons.mpr ⟨lw_p28, List.forall_mem_cons.mpr ⟨lw_p29, List.forall_mem_cons.mpr ⟨lw_p30, List.forall_mem_cons.mpr ⟨lw_p31, fun _ h => absurd h List.not_mem_nil⟩⟩⟩⟩⟩⟩⟩⟩⟩⟩⟩⟩⟩⟩⟩⟩
theorem lw_p32 : lw_okq (⟨"SaltPricesModel", "mostAt", "(II)I"⟩, 15) := ⟨⟨by decide +kernel, by decide +kernel⟩, List.mem_of_getElem? (i := 710) (by decide +kernel), List.mem_of_getElem? (i := 853) (by decide +kernel), List.mem_of_getElem? (i := 854) (by decide +kernel)⟩
theorem lw_p33 : lw_okq (⟨"SaltPricesModel", "chanceOf", "(I)I"⟩, 15) := ⟨⟨by decide +kernel, by decide +kernel⟩, List.mem_of_getElem? (i := 710) (by decide +kernel), List.mem_of_getElem? (i := 857) (by decide +kernel), List.mem_of_getElem? (i := 858) (by decide +kernel)⟩
theorem lw_p34 : lw_okq (⟨"SaltPricesModel", "chanceBy", "(I)I"⟩, 15) := ⟨⟨by decide +kernel, by decide +kernel⟩, List.mem_of_getElem? (i := 710) (by decide +kernel), List.mem_of_getElem? (i := 861) (by decide +kernel), List.mem_of_getElem? (i := 862) (by decide +kernel)⟩
theorem lw_p35 : lw_okq (⟨"SaltPricesModel", "mostHidden", "(II)I"⟩, 15) := ⟨⟨by decide +kernel, by decide +kernel⟩, List.mem_of_getElem? (i := 710) (by decide +kernel), List.mem_of_getElem? (i := 865) (by decide +kernel), List.mem_of_getElem? (i := 866) (by decide +kernel)⟩
theorem lw_p36 : lw_okq (⟨"SaltPricesModel", "addsCart", "(II)I"⟩, 15) := ⟨⟨by decide +kernel, by decide +kernel⟩, List.mem_of_getElem? (i := 710) (by decide +kernel), List.mem_of_getElem? (i := 873) (by decide +kernel), List.mem_of_getElem? (i := 874) (by decide +kernel)⟩
theorem lw_p37 : lw_okq (⟨"SaltPricesModel", "buys", "(II)I"⟩, 15) := ⟨⟨by decide +kernel, by decide +kernel⟩, List.mem_of_getElem? (i := 710) (by decide +kernel), List.mem_of_getElem? (i := 885) (by decide +kernel), List.mem_of_getElem? (i := 886) (by decide +kernel)⟩
theorem lw_p38 : lw_okq (⟨"SaltPricesModel", "isCart", "(I)Z"⟩, 15) := ⟨⟨by decide +kernel, by decide +kernel⟩, List.mem_of_getElem? (i := 710) (by decide +kernel), List.mem_of_getElem? (i := 889) (by decide +kernel), List.mem_of_getElem? (i := 890) (by decide +kernel)⟩
theorem lw_p39 : lw_okq (⟨"SaltPricesModel", "sells", "(II)I"⟩, 15) := ⟨⟨by decide +kernel, by decide +kernel⟩, List.mem_of_getElem? (i := 710) (by decide +kernel), List.mem_of_getElem? (i := 897) (by decide +kernel), List.mem_of_getElem? (i := 898) (by decide +kernel)⟩
theorem lw_p40 : lw_okq (⟨"SaltPricesModel", "goes", "(III)I"⟩, 15) := ⟨⟨by decide +kernel, by decide +kernel⟩, List.mem_of_getElem? (i := 710) (by decide +kernel), List.mem_of_getElem? (i := 905) (by decide +kernel), List.mem_of_getElem? (i := 906) (by decide +kernel)⟩
theorem lw_p41 : lw_okq (⟨"SaltPricesModel", "endOf", "(II)I"⟩, 15) := ⟨⟨by decide +kernel, by decide +kernel⟩, List.mem_of_getElem? (i := 710) (by decide +kernel), List.mem_of_getElem? (i := 909) (by decide +kernel), List.mem_of_getElem? (i := 910) (by decide +kernel)⟩
theorem lw_p42 : lw_okq (⟨"SaltPricesModel", "sneaks", "(II)I"⟩, 15) := ⟨⟨by decide +kernel, by decide +kernel⟩, List.mem_of_getElem? (i := 710) (by decide +kernel), List.mem_of_getElem? (i := 913) (by decide +kernel), List.mem_of_getElem? (i := 914) (by decide +kernel)⟩
theorem lw_p43 : lw_okq (⟨"SaltPricesModel", "fineFor", "(I)I"⟩, 15) := ⟨⟨by decide +kernel, by decide +kernel⟩, List.mem_of_getElem? (i := 710) (by decide +kernel), List.mem_of_getElem? (i := 918) (by decide +kernel), List.mem_of_getElem? (i := 919) (by decide +kernel)⟩
theorem lw_p44 : lw_okq (⟨"SaltPricesModel", "pads", "(I)V"⟩, 15) := ⟨⟨by decide +kernel, by decide +kernel⟩, List.mem_of_getElem? (i := 710) (by decide +kernel), List.mem_of_getElem? (i := 926) (by decide +kernel), List.mem_of_getElem? (i := 927) (by decide +kernel)⟩
theorem lw_p45 : lw_okq (⟨"SaltPricesModel", "setAt", "(II)I"⟩, 15) := ⟨⟨by decide +kernel, by decide +kernel⟩, List.mem_of_getElem? (i := 710) (by decide +kernel), List.mem_of_getElem? (i := 934) (by decide +kernel), List.mem_of_getElem? (i := 935) (by decide +kernel)⟩
theorem lw_p46 : lw_okq (⟨"SaltPricesModel", "pays", "(I)Z"⟩, 15) := ⟨⟨by decide +kernel, by decide +kernel⟩, List.mem_of_getElem? (i := 710) (by decide +kernel), List.mem_of_getElem? (i := 938) (by decide +kernel), List.mem_of_getElem? (i := 939) (by decide +kernel)⟩
theorem lw_p47 : lw_okq (⟨"SaltPricesModel", "worthOf", "(IIZ)J"⟩, 15) := ⟨⟨by decide +kernel, by decide +kernel⟩, List.mem_of_getElem? (i := 710) (by decide +kernel), List.mem_of_getElem? (i := 942) (by decide +kernel), List.mem_of_getElem? (i := 943) (by decide +kernel)⟩
def lw_privs_3 : List (MethodName × Nat) := [(⟨"SaltPricesModel", "mostAt", "(II)I"⟩, 15), (⟨"SaltPricesModel", "chanceOf", "(I)I"⟩, 15), (⟨"SaltPricesModel", "chanceBy", "(I)I"⟩, 15), (⟨"SaltPricesModel", "mostHidden", "(II)I"⟩, 15), (⟨"SaltPricesModel", "addsCart", "(II)I"⟩, 15), (⟨"SaltPricesModel", "buys", "(II)I"⟩, 15), (⟨"SaltPricesModel", "isCart", "(I)Z"⟩, 15), (⟨"SaltPricesModel", "sells", "(II)I"⟩, 15), (⟨"SaltPricesModel", "goes", "(III)I"⟩, 15), (⟨"SaltPricesModel", "endOf", "(II)I"⟩, 15), (⟨"SaltPricesModel", "sneaks", "(II)I"⟩, 15), (⟨"SaltPricesModel", "fineFor", "(I)I"⟩, 15), (⟨"SaltPricesModel", "pads", "(I)V"⟩, 15), (⟨"SaltPricesModel", "setAt", "(II)I"⟩, 15), (⟨"SaltPricesModel", "pays", "(I)Z"⟩, 15), (⟨"SaltPricesModel", "worthOf", "(IIZ)J"⟩, 15)]
theorem lw_r3 : ∀ q ∈ lw_privs_3, lw_okq q := List.forall_mem_cons.mpr ⟨lw_p32, List.forall_mem_cons.mpr ⟨lw_p33, List.forall_mem_cons.mpr ⟨lw_p34, List.forall_mem_cons.mpr ⟨lw_p35, List.forall_mem_cons.mpr ⟨lw_p36, List.forall_mem_cons.mpr ⟨lw_p37, List.forall_mem_cons.mpr ⟨lw_p38, List.forall_mem_cons.mpr ⟨lw_p39, List.forall_mem_cons.mpr ⟨lw_p40, List.forall_mem_cons.mpr ⟨lw_p41, List.forall_mem_cons.mpr ⟨lw_p42, List.forall_mem_cons.mpr ⟨lw_p43, List.forall_mem_cons.mpr ⟨lw_p44, List.forall_mem_cons.mpr ⟨lw_p45, List.forall_mem_cons.mpr ⟨lw_p46, List.forall_mem_cons.mpr ⟨lw_p47, fun _ h => absurd h List.not_mem_nil⟩⟩⟩⟩⟩⟩⟩⟩⟩⟩⟩⟩⟩⟩⟩⟩
theorem lw_p48 : lw_okq (⟨"SaltPricesModel", "workOut", "(IZ)V"⟩, 15) := ⟨⟨by decide +kernel, by decide +kernel⟩, List.mem_of_getElem? (i := 710) (by decide +kernel), List.mem_of_getElem? (i := 946) (by decide +kernel), List.mem_of_getElem? (i := 947) (by decide +kernel)⟩
theorem lw_p49 : lw_okq (⟨"SaltPricesModel", "by", "(IIIZ)J"⟩, 15) := ⟨⟨by decide +kernel, by decide +kernel⟩, List.mem_of_getElem? (i := 710) (by decide +kernel), List.mem_of_getElem? (i := 951) (by decide +kernel), List.mem_of_getElem? (i := 952) (by decide +kernel)⟩
theorem lw_p50 : lw_okq (⟨"SaltPricesModel", "ofCarts", "(I)I"⟩, 15) := ⟨⟨by decide +kernel, by decide +kernel⟩, List.mem_of_getElem? (i := 710) (by decide +kernel), List.mem_of_getElem? (i := 980) (by decide +kernel), List.mem_of_getElem? (i := 981) (by decide +kernel)⟩
theorem lw_p51 : lw_okq (⟨"SaltPricesModel", "payingTowns", "()I"⟩, 15) := ⟨⟨by decide +kernel, by decide +kernel⟩, List.mem_of_getElem? (i := 710) (by decide +kernel), List.mem_of_getElem? (i := 984) (by decide +kernel), List.mem_of_getElem? (i := 985) (by decide +kernel)⟩
theorem lw_p52 : lw_okq (⟨"SaltPricesModel", "isBound", "(III)Z"⟩, 15) := ⟨⟨by decide +kernel, by decide +kernel⟩, List.mem_of_getElem? (i := 710) (by decide +kernel), List.mem_of_getElem? (i := 996) (by decide +kernel), List.mem_of_getElem? (i := 997) (by decide +kernel)⟩
theorem lw_p53 : lw_okq (⟨"SaltPricesModel", "putBack", "()V"⟩, 15) := ⟨⟨by decide +kernel, by decide +kernel⟩, List.mem_of_getElem? (i := 710) (by decide +kernel), List.mem_of_getElem? (i := 1008) (by decide +kernel), List.mem_of_getElem? (i := 1009) (by decide +kernel)⟩
theorem lw_p54 : lw_okq (⟨"SaltPricesModel", "goesThrough", "(Z)I"⟩, 15) := ⟨⟨by decide +kernel, by decide +kernel⟩, List.mem_of_getElem? (i := 710) (by decide +kernel), List.mem_of_getElem? (i := 1029) (by decide +kernel), List.mem_of_getElem? (i := 1030) (by decide +kernel)⟩
theorem lw_p55 : lw_okq (⟨"SaltPricesModel", "readOrder", "()V"⟩, 15) := ⟨⟨by decide +kernel, by decide +kernel⟩, List.mem_of_getElem? (i := 710) (by decide +kernel), List.mem_of_getElem? (i := 1033) (by decide +kernel), List.mem_of_getElem? (i := 1034) (by decide +kernel)⟩
theorem lw_p56 : lw_okq (⟨"SaltPricesModel", "number", "()I"⟩, 15) := ⟨⟨by decide +kernel, by decide +kernel⟩, List.mem_of_getElem? (i := 710) (by decide +kernel), List.mem_of_getElem? (i := 1040) (by decide +kernel), List.mem_of_getElem? (i := 1041) (by decide +kernel)⟩
theorem lw_p57 : lw_okq (⟨"SaltPricesModel", "digit", "()I"⟩, 15) := ⟨⟨by decide +kernel, by decide +kernel⟩, List.mem_of_getElem? (i := 710) (by decide +kernel), List.mem_of_getElem? (i := 1044) (by decide +kernel), List.mem_of_getElem? (i := 1045) (by decide +kernel)⟩
theorem lw_p58 : lw_okq (⟨"SaltPricesModel", "takes", "(II)I"⟩, 15) := ⟨⟨by decide +kernel, by decide +kernel⟩, List.mem_of_getElem? (i := 710) (by decide +kernel), List.mem_of_getElem? (i := 1048) (by decide +kernel), List.mem_of_getElem? (i := 1049) (by decide +kernel)⟩
theorem lw_p59 : lw_okq (⟨"SaltPricesModel", "does", "()I"⟩, 15) := ⟨⟨by decide +kernel, by decide +kernel⟩, List.mem_of_getElem? (i := 710) (by decide +kernel), List.mem_of_getElem? (i := 1055) (by decide +kernel), List.mem_of_getElem? (i := 1056) (by decide +kernel)⟩
def lw_privs_4 : List (MethodName × Nat) := [(⟨"SaltPricesModel", "workOut", "(IZ)V"⟩, 15), (⟨"SaltPricesModel", "by", "(IIIZ)J"⟩, 15), (⟨"SaltPricesModel", "ofCarts", "(I)I"⟩, 15), (⟨"SaltPricesModel", "payingTowns", "()I"⟩, 15), (⟨"SaltPricesModel", "isBound", "(III)Z"⟩, 15), (⟨"SaltPricesModel", "putBack", "()V"⟩, 15), (⟨"SaltPricesModel", "goesThrough", "(Z)I"⟩, 15), (⟨"SaltPricesModel", "readOrder", "()V"⟩, 15), (⟨"SaltPricesModel", "number", "()I"⟩, 15), (⟨"SaltPricesModel", "digit", "()I"⟩, 15), (⟨"SaltPricesModel", "takes", "(II)I"⟩, 15), (⟨"SaltPricesModel", "does", "()I"⟩, 15)]
theorem lw_r4 : ∀ q ∈ lw_privs_4, lw_okq q := List.forall_mem_cons.mpr ⟨lw_p48, List.forall_mem_cons.mpr ⟨lw_p49, List.forall_mem_cons.mpr ⟨lw_p50, List.forall_mem_cons.mpr ⟨lw_p51, List.forall_mem_cons.mpr ⟨lw_p52, List.forall_mem_cons.mpr ⟨lw_p53, List.forall_mem_cons.mpr ⟨lw_p54, List.forall_mem_cons.mpr ⟨lw_p55, List.forall_mem_cons.mpr ⟨lw_p56, List.forall_mem_cons.mpr ⟨lw_p57, List.forall_mem_cons.mpr ⟨lw_p58, List.forall_mem_cons.mpr ⟨lw_p59, fun _ h => absurd h List.not_mem_nil⟩⟩⟩⟩⟩⟩⟩⟩⟩⟩⟩⟩
def lw_privs : List (MethodName × Nat) := lw_privs_1 ++ (lw_privs_2 ++ (lw_privs_3 ++ (lw_privs_4)))
def lw_tbl : List Cond := k2_sels lw_privs ++ tables_1
theorem lw_privs_ok : ∀ q ∈ lw_privs, lw_okq q := by
  show ∀ q ∈ lw_privs_1 ++ (lw_privs_2 ++ (lw_privs_3 ++ (lw_privs_4))), lw_okq q
  exact List.forall_mem_append.mpr ⟨lw_r1, List.forall_mem_append.mpr ⟨lw_r2, List.forall_mem_append.mpr ⟨lw_r3, lw_r4⟩⟩⟩
def RX0 : String := "SaltPrices$Cart"
def TX0 : u_T := fun k => match k with
  | 0 => ("SaltPrices$Cart", "town", "I", false)
  | 1 => ("SaltPrices$Cart", "coins", "I", false)
  | 2 => ("SaltPrices$Cart", "sacks", "I", false)
  | 3 => ("SaltPrices$Cart", "spent", "I", false)
  | 4 => ("SaltPrices$Cart", "earned", "I", false)
  | 5 => ("SaltPrices$Cart", "tolls", "I", false)
  | 6 => ("SaltPrices$Cart", "fines", "I", false)
  | _ => ("SaltPrices$Cart", "lost", "I", false)
def tyX0 : Nat → FieldType := fun k => match k with
  | 0 => .int
  | 1 => .int
  | 2 => .int
  | 3 => .int
  | 4 => .int
  | 5 => .int
  | 6 => .int
  | _ => .int
abbrev wsX00 : List Cond := u_ws RX0 TX0 8
theorem nmX0 : ∀ a, a < 8 → ∀ b, b < 8 → a ≠ b → (TX0 a).2.1 ≠ (TX0 b).2.1 := by decide +kernel
theorem tyX0_ok : ∀ k, k < 8 → parseFieldDescriptor (TX0 k).2.2.1 = some (tyX0 k) := by decide +kernel
abbrev cX0_init : ByteArray := prog_2_method_1_code
def yX0_init : MethodName := ⟨RX0, "<init>", "()V"⟩
abbrev cX0_begin : ByteArray := prog_2_method_2_code
def yX0_begin : MethodName := ⟨RX0, "begin", "(II)V"⟩
abbrev cX0_copyFrom : ByteArray := prog_2_method_3_code
def yX0_copyFrom : MethodName := ⟨RX0, "copyFrom", "(LSaltPrices$Cart;)V"⟩
def RX1 : String := "SaltPrices$History"
def TX1 : u_T := fun k => match k with
  | 0 => ("SaltPrices$History", "ring", "[LSaltPrices$World;", true)
  | 1 => ("SaltPrices$History", "oldest", "I", false)
  | _ => ("SaltPrices$History", "size", "I", false)
def tyX1 : Nat → FieldType := fun k => match k with
  | 0 => .array (.object "SaltPrices$World")
  | 1 => .int
  | _ => .int
abbrev wsX10 : List Cond := u_ws RX1 TX1 3
theorem nmX1 : ∀ a, a < 3 → ∀ b, b < 3 → a ≠ b → (TX1 a).2.1 ≠ (TX1 b).2.1 := by decide +kernel
theorem tyX1_ok : ∀ k, k < 3 → parseFieldDescriptor (TX1 k).2.2.1 = some (tyX1 k) := by decide +kernel
abbrev cX1_init : ByteArray := prog_3_method_1_code
def yX1_init : MethodName := ⟨RX1, "<init>", "()V"⟩
abbrev cX1_keepInMind : ByteArray := prog_3_method_2_code
def yX1_keepInMind : MethodName := ⟨RX1, "keepInMind", "(LSaltPrices$World;)V"⟩
abbrev cX1_record : ByteArray := prog_3_method_3_code
def yX1_record : MethodName := ⟨RX1, "record", "()V"⟩
abbrev cX1_takeBack : ByteArray := prog_3_method_4_code
def yX1_takeBack : MethodName := ⟨RX1, "takeBack", "(LSaltPrices$World;)V"⟩
abbrev cX1_placeBehind : ByteArray := prog_3_method_5_code
def yX1_placeBehind : MethodName := ⟨RX1, "placeBehind", "(I)I"⟩
def RX2 : String := "SaltPrices$Pad"
def TX2 : u_T := fun k => match k with
  | 0 => ("SaltPrices$Pad", "codes", "[I", true)
  | _ => ("SaltPrices$Pad", "length", "I", false)
def tyX2 : Nat → FieldType := fun k => match k with
  | 0 => .array .int
  | _ => .int
abbrev wsX20 : List Cond := u_ws RX2 TX2 2
theorem nmX2 : ∀ a, a < 2 → ∀ b, b < 2 → a ≠ b → (TX2 a).2.1 ≠ (TX2 b).2.1 := by decide +kernel
theorem tyX2_ok : ∀ k, k < 2 → parseFieldDescriptor (TX2 k).2.2.1 = some (tyX2 k) := by decide +kernel
abbrev cX2_init : ByteArray := prog_4_method_1_code
def yX2_init : MethodName := ⟨RX2, "<init>", "()V"⟩
abbrev cX2_codeAt : ByteArray := prog_4_method_2_code
def yX2_codeAt : MethodName := ⟨RX2, "codeAt", "(I)I"⟩
abbrev cX2_append : ByteArray := prog_4_method_3_code
def yX2_append : MethodName := ⟨RX2, "append", "(I)V"⟩
abbrev cX2_appendPrice : ByteArray := prog_4_method_4_code
def yX2_appendPrice : MethodName := ⟨RX2, "appendPrice", "(I)V"⟩
def RX3 : String := "SaltPrices$Reader"
def TX3 : u_T := fun k => match k with
  | 0 => ("SaltPrices$Reader", "pad", "LSaltPrices$Pad;", true)
  | 1 => ("SaltPrices$Reader", "at", "I", false)
  | 2 => ("SaltPrices$Reader", "kind", "I", false)
  | 3 => ("SaltPrices$Reader", "first", "I", false)
  | 4 => ("SaltPrices$Reader", "second", "I", false)
  | 5 => ("SaltPrices$Reader", "amount", "I", false)
  | _ => ("SaltPrices$Reader", "value", "I", false)
def tyX3 : Nat → FieldType := fun k => match k with
  | 0 => .object "SaltPrices$Pad"
  | 1 => .int
  | 2 => .int
  | 3 => .int
  | 4 => .int
  | 5 => .int
  | _ => .int
abbrev wsX30 : List Cond := u_ws RX3 TX3 7
theorem nmX3 : ∀ a, a < 7 → ∀ b, b < 7 → a ≠ b → (TX3 a).2.1 ≠ (TX3 b).2.1 := by decide +kernel
theorem tyX3_ok : ∀ k, k < 7 → parseFieldDescriptor (TX3 k).2.2.1 = some (tyX3 k) := by decide +kernel
abbrev cX3_init : ByteArray := prog_5_method_1_code
def yX3_init : MethodName := ⟨RX3, "<init>", "(LSaltPrices$Pad;)V"⟩
abbrev cX3_findFault : ByteArray := prog_5_method_2_code
def yX3_findFault : MethodName := ⟨RX3, "findFault", "()I"⟩
abbrev cX3_readOrder : ByteArray := prog_5_method_3_code
def yX3_readOrder : MethodName := ⟨RX3, "readOrder", "()Z"⟩
abbrev cX3_readSign : ByteArray := prog_5_method_4_code
def yX3_readSign : MethodName := ⟨RX3, "readSign", "(I)Z"⟩
abbrev cX3_markOf : ByteArray := prog_5_method_5_code
def yX3_markOf : MethodName := ⟨RX3, "markOf", "(I)I"⟩
abbrev cX3_readSubject : ByteArray := prog_5_method_6_code
def yX3_readSubject : MethodName := ⟨RX3, "readSubject", "()Z"⟩
abbrev cX3_readDigit : ByteArray := prog_5_method_7_code
def yX3_readDigit : MethodName := ⟨RX3, "readDigit", "()Z"⟩
abbrev cX3_readNumber : ByteArray := prog_5_method_8_code
def yX3_readNumber : MethodName := ⟨RX3, "readNumber", "()Z"⟩
abbrev cX3_isDigit : ByteArray := prog_5_method_9_code
def yX3_isDigit : MethodName := ⟨RX3, "isDigit", "()Z"⟩
def RX4 : String := "SaltPrices$Road"
def TX4 : u_T := fun k => match k with
  | 0 => ("SaltPrices$Road", "town", "I", false)
  | 1 => ("SaltPrices$Road", "other", "I", false)
  | 2 => ("SaltPrices$Road", "toll", "I", false)
  | 3 => ("SaltPrices$Road", "guards", "I", false)
  | 4 => ("SaltPrices$Road", "openTrips", "I", false)
  | _ => ("SaltPrices$Road", "hiddenTrips", "I", false)
def tyX4 : Nat → FieldType := fun k => match k with
  | 0 => .int
  | 1 => .int
  | 2 => .int
  | 3 => .int
  | 4 => .int
  | _ => .int
abbrev wsX40 : List Cond := u_ws RX4 TX4 6
theorem nmX4 : ∀ a, a < 6 → ∀ b, b < 6 → a ≠ b → (TX4 a).2.1 ≠ (TX4 b).2.1 := by decide +kernel
theorem tyX4_ok : ∀ k, k < 6 → parseFieldDescriptor (TX4 k).2.2.1 = some (tyX4 k) := by decide +kernel
abbrev cX4_init : ByteArray := prog_6_method_1_code
def yX4_init : MethodName := ⟨RX4, "<init>", "()V"⟩
abbrev cX4_begin : ByteArray := prog_6_method_2_code
def yX4_begin : MethodName := ⟨RX4, "begin", "(III)V"⟩
abbrev cX4_copyFrom : ByteArray := prog_6_method_3_code
def yX4_copyFrom : MethodName := ⟨RX4, "copyFrom", "(LSaltPrices$Road;)V"⟩
abbrev cX4_isAt : ByteArray := prog_6_method_4_code
def yX4_isAt : MethodName := ⟨RX4, "isAt", "(I)Z"⟩
abbrev cX4_farFrom : ByteArray := prog_6_method_5_code
def yX4_farFrom : MethodName := ⟨RX4, "farFrom", "(I)I"⟩
def RX5 : String := "SaltPrices$Routes"
def TX5 : u_T := fun k => match k with
  | 0 => ("SaltPrices$Routes", "openAlone", "Z", true)
  | 1 => ("SaltPrices$Routes", "worths", "[[J", true)
  | 2 => ("SaltPrices$Routes", "chances", "[I", true)
  | _ => ("SaltPrices$Routes", "fine", "J", false)
def tyX5 : Nat → FieldType := fun k => match k with
  | 0 => .boolean
  | 1 => .array (.array .long)
  | 2 => .array .int
  | _ => .long
abbrev wsX50 : List Cond := u_ws RX5 TX5 4
theorem nmX5 : ∀ a, a < 4 → ∀ b, b < 4 → a ≠ b → (TX5 a).2.1 ≠ (TX5 b).2.1 := by decide +kernel
theorem tyX5_ok : ∀ k, k < 4 → parseFieldDescriptor (TX5 k).2.2.1 = some (tyX5 k) := by decide +kernel
abbrev cX5_init : ByteArray := prog_7_method_1_code
def yX5_init : MethodName := ⟨RX5, "<init>", "(Z)V"⟩
abbrev cX5_lookAt : ByteArray := prog_7_method_2_code
def yX5_lookAt : MethodName := ⟨RX5, "lookAt", "(LSaltPrices$World;I)V"⟩
abbrev cX5_fillRow : ByteArray := prog_7_method_3_code
def yX5_fillRow : MethodName := ⟨RX5, "fillRow", "(LSaltPrices$World;I)V"⟩
abbrev cX5_raise : ByteArray := prog_7_method_4_code
def yX5_raise : MethodName := ⟨RX5, "raise", "(ILSaltPrices$Road;II)V"⟩
abbrev cX5_byWaiting : ByteArray := prog_7_method_5_code
def yX5_byWaiting : MethodName := ⟨RX5, "byWaiting", "(II)J"⟩
abbrev cX5_openly : ByteArray := prog_7_method_6_code
def yX5_openly : MethodName := ⟨RX5, "openly", "(LSaltPrices$Road;II)J"⟩
abbrev cX5_hiding : ByteArray := prog_7_method_7_code
def yX5_hiding : MethodName := ⟨RX5, "hiding", "(ILSaltPrices$Road;II)J"⟩
abbrev cX5_firstRoad : ByteArray := prog_7_method_8_code
def yX5_firstRoad : MethodName := ⟨RX5, "firstRoad", "(LSaltPrices$World;II)I"⟩
abbrev cX5_isBest : ByteArray := prog_7_method_9_code
def yX5_isBest : MethodName := ⟨RX5, "isBest", "(ILSaltPrices$Road;II)Z"⟩
abbrev cX5_isBestOpenly : ByteArray := prog_7_method_10_code
def yX5_isBestOpenly : MethodName := ⟨RX5, "isBestOpenly", "(LSaltPrices$Road;II)Z"⟩
def RX6 : String := "SaltPrices$World"
def TX6 : u_T := fun k => match k with
  | 0 => ("SaltPrices$World", "settings", "[I", true)
  | 1 => ("SaltPrices$World", "prices", "[I", true)
  | 2 => ("SaltPrices$World", "roads", "[LSaltPrices$Road;", true)
  | 3 => ("SaltPrices$World", "carts", "[LSaltPrices$Cart;", true)
  | 4 => ("SaltPrices$World", "roadCount", "I", false)
  | 5 => ("SaltPrices$World", "cartCount", "I", false)
  | 6 => ("SaltPrices$World", "drawn", "I", false)
  | 7 => ("SaltPrices$World", "sacksBought", "I", false)
  | 8 => ("SaltPrices$World", "sacksSold", "I", false)
  | 9 => ("SaltPrices$World", "sacksLost", "I", false)
  | _ => ("SaltPrices$World", "coinsBrought", "I", false)
def tyX6 : Nat → FieldType := fun k => match k with
  | 0 => .array .int
  | 1 => .array .int
  | 2 => .array (.object "SaltPrices$Road")
  | 3 => .array (.object "SaltPrices$Cart")
  | 4 => .int
  | 5 => .int
  | 6 => .int
  | 7 => .int
  | 8 => .int
  | 9 => .int
  | _ => .int
abbrev wsX60 : List Cond := u_ws RX6 TX6 11
theorem nmX6 : ∀ a, a < 11 → ∀ b, b < 11 → a ≠ b → (TX6 a).2.1 ≠ (TX6 b).2.1 := by decide +kernel
theorem tyX6_ok : ∀ k, k < 11 → parseFieldDescriptor (TX6 k).2.2.1 = some (tyX6 k) := by decide +kernel
abbrev cX6_init : ByteArray := prog_8_method_1_code
def yX6_init : MethodName := ⟨RX6, "<init>", "()V"⟩
abbrev cX6_copyFrom : ByteArray := prog_8_method_2_code
def yX6_copyFrom : MethodName := ⟨RX6, "copyFrom", "(LSaltPrices$World;)V"⟩
abbrev cX6_hasRoad : ByteArray := prog_8_method_3_code
def yX6_hasRoad : MethodName := ⟨RX6, "hasRoad", "(I)Z"⟩
abbrev cX6_hasCart : ByteArray := prog_8_method_4_code
def yX6_hasCart : MethodName := ⟨RX6, "hasCart", "(I)Z"⟩
abbrev cX6_roadsAt : ByteArray := prog_8_method_5_code
def yX6_roadsAt : MethodName := ⟨RX6, "roadsAt", "(I)I"⟩
abbrev cX6_cartsAt : ByteArray := prog_8_method_6_code
def yX6_cartsAt : MethodName := ⟨RX6, "cartsAt", "(I)I"⟩
abbrev cX6_guardsAtRoads : ByteArray := prog_8_method_7_code
def yX6_guardsAtRoads : MethodName := ⟨RX6, "guardsAtRoads", "()I"⟩
abbrev cX6_sacksOfCarts : ByteArray := prog_8_method_8_code
def yX6_sacksOfCarts : MethodName := ⟨RX6, "sacksOfCarts", "()I"⟩
abbrev cX6_coinsOfCarts : ByteArray := prog_8_method_9_code
def yX6_coinsOfCarts : MethodName := ⟨RX6, "coinsOfCarts", "()I"⟩
abbrev cX6_chanceWith : ByteArray := prog_8_method_10_code
def yX6_chanceWith : MethodName := ⟨RX6, "chanceWith", "(I)I"⟩
abbrev cX6_chanceOf : ByteArray := prog_8_method_11_code
def yX6_chanceOf : MethodName := ⟨RX6, "chanceOf", "(LSaltPrices$Road;)I"⟩
abbrev cX6_mostHidden : ByteArray := prog_8_method_12_code
def yX6_mostHidden : MethodName := ⟨RX6, "mostHidden", "(II)I"⟩
abbrev cX6_mostAtEnd : ByteArray := prog_8_method_13_code
def yX6_mostAtEnd : MethodName := ⟨RX6, "mostAtEnd", "(LSaltPrices$Road;I)I"⟩
abbrev cX6_isHonest : ByteArray := prog_8_method_14_code
def yX6_isHonest : MethodName := ⟨RX6, "isHonest", "(LSaltPrices$Road;I)Z"⟩
abbrev cX6_allHonest : ByteArray := prog_8_method_15_code
def yX6_allHonest : MethodName := ⟨RX6, "allHonest", "()Z"⟩
abbrev cX6_fineOf : ByteArray := prog_8_method_16_code
def yX6_fineOf : MethodName := ⟨RX6, "fineOf", "(LSaltPrices$Cart;)I"⟩
abbrev cX6_changeSetting : ByteArray := prog_8_method_17_code
def yX6_changeSetting : MethodName := ⟨RX6, "changeSetting", "(II)I"⟩
abbrev cX6_addRoad : ByteArray := prog_8_method_18_code
def yX6_addRoad : MethodName := ⟨RX6, "addRoad", "(III)I"⟩
abbrev cX6_changePrice : ByteArray := prog_8_method_19_code
def yX6_changePrice : MethodName := ⟨RX6, "changePrice", "(II)I"⟩
abbrev cX6_changeGuards : ByteArray := prog_8_method_20_code
def yX6_changeGuards : MethodName := ⟨RX6, "changeGuards", "(II)I"⟩
abbrev cX6_changeToll : ByteArray := prog_8_method_21_code
def yX6_changeToll : MethodName := ⟨RX6, "changeToll", "(II)I"⟩
abbrev cX6_addCart : ByteArray := prog_8_method_22_code
def yX6_addCart : MethodName := ⟨RX6, "addCart", "(II)I"⟩
abbrev cX6_buySacks : ByteArray := prog_8_method_23_code
def yX6_buySacks : MethodName := ⟨RX6, "buySacks", "(II)I"⟩
abbrev cX6_sellSacks : ByteArray := prog_8_method_24_code
def yX6_sellSacks : MethodName := ⟨RX6, "sellSacks", "(II)I"⟩
abbrev cX6_drive : ByteArray := prog_8_method_25_code
def yX6_drive : MethodName := ⟨RX6, "drive", "(III)I"⟩
abbrev cX6_payToll : ByteArray := prog_8_method_26_code
def yX6_payToll : MethodName := ⟨RX6, "payToll", "(LSaltPrices$Cart;LSaltPrices$Road;)V"⟩
abbrev cX6_sneak : ByteArray := prog_8_method_27_code
def yX6_sneak : MethodName := ⟨RX6, "sneak", "(LSaltPrices$Cart;LSaltPrices$Road;)I"⟩
abbrev cX6_draw : ByteArray := prog_8_method_28_code
def yX6_draw : MethodName := ⟨RX6, "draw", "()I"⟩
def RX7 : String := "SaltPrices"
def TX7 : u_T := fun k => match k with
  | 0 => ("SaltPrices", "world", "LSaltPrices$World;", true)
  | 1 => ("SaltPrices", "history", "LSaltPrices$History;", true)
  | 2 => ("SaltPrices", "slots", "[LSaltPrices$World;", true)
  | 3 => ("SaltPrices", "saved", "[Z", true)
  | 4 => ("SaltPrices", "pad", "LSaltPrices$Pad;", true)
  | 5 => ("SaltPrices", "reader", "LSaltPrices$Reader;", true)
  | 6 => ("SaltPrices", "allRoutes", "LSaltPrices$Routes;", true)
  | 7 => ("SaltPrices", "openRoutes", "LSaltPrices$Routes;", true)
  | _ => ("SaltPrices", "honestPrices", "[I", true)
def tyX7 : Nat → FieldType := fun k => match k with
  | 0 => .object "SaltPrices$World"
  | 1 => .object "SaltPrices$History"
  | 2 => .array (.object "SaltPrices$World")
  | 3 => .array .boolean
  | 4 => .object "SaltPrices$Pad"
  | 5 => .object "SaltPrices$Reader"
  | 6 => .object "SaltPrices$Routes"
  | 7 => .object "SaltPrices$Routes"
  | _ => .array .int
abbrev wsX70 : List Cond := u_ws RX7 TX7 9
theorem nmX7 : ∀ a, a < 9 → ∀ b, b < 9 → a ≠ b → (TX7 a).2.1 ≠ (TX7 b).2.1 := by decide +kernel
theorem tyX7_ok : ∀ k, k < 9 → parseFieldDescriptor (TX7 k).2.2.1 = some (tyX7 k) := by decide +kernel
abbrev cX7_init : ByteArray := prog_1_method_1_code
def yX7_init : MethodName := ⟨RX7, "<init>", "()V"⟩
abbrev cX7_set : ByteArray := prog_1_method_2_code
def yX7_set : MethodName := ⟨RX7, "set", "(II)I"⟩
abbrev cX7_road : ByteArray := prog_1_method_3_code
def yX7_road : MethodName := ⟨RX7, "road", "(III)I"⟩
abbrev cX7_price : ByteArray := prog_1_method_4_code
def yX7_price : MethodName := ⟨RX7, "price", "(II)I"⟩
abbrev cX7_guard : ByteArray := prog_1_method_5_code
def yX7_guard : MethodName := ⟨RX7, "guard", "(II)I"⟩
abbrev cX7_toll : ByteArray := prog_1_method_6_code
def yX7_toll : MethodName := ⟨RX7, "toll", "(II)I"⟩
abbrev cX7_makeHonest : ByteArray := prog_1_method_7_code
def yX7_makeHonest : MethodName := ⟨RX7, "makeHonest", "()I"⟩
abbrev cX7_cart : ByteArray := prog_1_method_8_code
def yX7_cart : MethodName := ⟨RX7, "cart", "(II)I"⟩
abbrev cX7_buy : ByteArray := prog_1_method_9_code
def yX7_buy : MethodName := ⟨RX7, "buy", "(II)I"⟩
abbrev cX7_sell : ByteArray := prog_1_method_10_code
def yX7_sell : MethodName := ⟨RX7, "sell", "(II)I"⟩
abbrev cX7_go : ByteArray := prog_1_method_11_code
def yX7_go : MethodName := ⟨RX7, "go", "(III)I"⟩
abbrev cX7_write : ByteArray := prog_1_method_12_code
def yX7_write : MethodName := ⟨RX7, "write", "()I"⟩
abbrev cX7_ofTown : ByteArray := prog_1_method_13_code
def yX7_ofTown : MethodName := ⟨RX7, "ofTown", "(II)I"⟩
abbrev cX7_ofRoad : ByteArray := prog_1_method_14_code
def yX7_ofRoad : MethodName := ⟨RX7, "ofRoad", "(II)I"⟩
abbrev cX7_ofCart : ByteArray := prog_1_method_15_code
def yX7_ofCart : MethodName := ⟨RX7, "ofCart", "(II)I"⟩
abbrev cX7_worth : ByteArray := prog_1_method_16_code
def yX7_worth : MethodName := ⟨RX7, "worth", "(III)J"⟩
abbrev cX7_sign : ByteArray := prog_1_method_17_code
def yX7_sign : MethodName := ⟨RX7, "sign", "(I)I"⟩
abbrev cX7_count : ByteArray := prog_1_method_18_code
def yX7_count : MethodName := ⟨RX7, "count", "(I)I"⟩
abbrev cX7_step : ByteArray := prog_1_method_19_code
def yX7_step : MethodName := ⟨RX7, "step", "(II)I"⟩
abbrev cX7_fewestGuards : ByteArray := prog_1_method_20_code
def yX7_fewestGuards : MethodName := ⟨RX7, "fewestGuards", "(I)I"⟩
abbrev cX7_mostPrice : ByteArray := prog_1_method_21_code
def yX7_mostPrice : MethodName := ⟨RX7, "mostPrice", "(I)I"⟩
abbrev cX7_ifHonest : ByteArray := prog_1_method_22_code
def yX7_ifHonest : MethodName := ⟨RX7, "ifHonest", "()I"⟩
abbrev cX7_wouldHave : ByteArray := prog_1_method_23_code
def yX7_wouldHave : MethodName := ⟨RX7, "wouldHave", "(III)I"⟩
abbrev cX7_put : ByteArray := prog_1_method_24_code
def yX7_put : MethodName := ⟨RX7, "put", "(J)I"⟩
abbrev cX7_wipe : ByteArray := prog_1_method_25_code
def yX7_wipe : MethodName := ⟨RX7, "wipe", "()I"⟩
abbrev cX7_fault : ByteArray := prog_1_method_26_code
def yX7_fault : MethodName := ⟨RX7, "fault", "()I"⟩
abbrev cX7_carryOut : ByteArray := prog_1_method_27_code
def yX7_carryOut : MethodName := ⟨RX7, "carryOut", "()I"⟩
abbrev cX7_undo : ByteArray := prog_1_method_28_code
def yX7_undo : MethodName := ⟨RX7, "undo", "()I"⟩
abbrev cX7_save : ByteArray := prog_1_method_29_code
def yX7_save : MethodName := ⟨RX7, "save", "(I)I"⟩
abbrev cX7_restore : ByteArray := prog_1_method_30_code
def yX7_restore : MethodName := ⟨RX7, "restore", "(I)I"⟩
abbrev cX7_isOutside : ByteArray := prog_1_method_31_code
def yX7_isOutside : MethodName := ⟨RX7, "isOutside", "(III)Z"⟩
abbrev cX7_isTown : ByteArray := prog_1_method_32_code
def yX7_isTown : MethodName := ⟨RX7, "isTown", "(I)Z"⟩
abbrev cX7_bit : ByteArray := prog_1_method_33_code
def yX7_bit : MethodName := ⟨RX7, "bit", "(Z)I"⟩
abbrev cX7_recorded : ByteArray := prog_1_method_34_code
def yX7_recorded : MethodName := ⟨RX7, "recorded", "(I)I"⟩
abbrev cX7_findHonestPrices : ByteArray := prog_1_method_35_code
def yX7_findHonestPrices : MethodName := ⟨RX7, "findHonestPrices", "()I"⟩
abbrev cX7_lowerEnd : ByteArray := prog_1_method_36_code
def yX7_lowerEnd : MethodName := ⟨RX7, "lowerEnd", "(LSaltPrices$Road;II)V"⟩
abbrev cX7_hidingTowns : ByteArray := prog_1_method_37_code
def yX7_hidingTowns : MethodName := ⟨RX7, "hidingTowns", "()I"⟩
abbrev cX7_countSigns : ByteArray := prog_1_method_38_code
def yX7_countSigns : MethodName := ⟨RX7, "countSigns", "(J)I"⟩
abbrev cX7_obey : ByteArray := prog_1_method_39_code
def yX7_obey : MethodName := ⟨RX7, "obey", "()I"⟩
def RX8 : String := "SaltPricesModel"
def TX8 : u_T := fun k => match k with
  | 0 => ("SaltPricesModel", "s", "[I", true)
  | 1 => ("SaltPricesModel", "aside", "[I", true)
  | 2 => ("SaltPricesModel", "history", "[I", true)
  | 3 => ("SaltPricesModel", "known", "I", false)
  | 4 => ("SaltPricesModel", "slots", "[I", true)
  | 5 => ("SaltPricesModel", "kept", "I", false)
  | 6 => ("SaltPricesModel", "pad", "[I", true)
  | 7 => ("SaltPricesModel", "length", "I", false)
  | 8 => ("SaltPricesModel", "worths", "[J", true)
  | 9 => ("SaltPricesModel", "spot", "I", false)
  | 10 => ("SaltPricesModel", "isFaulty", "Z", false)
  | 11 => ("SaltPricesModel", "letter", "I", false)
  | 12 => ("SaltPricesModel", "first", "I", false)
  | 13 => ("SaltPricesModel", "second", "I", false)
  | _ => ("SaltPricesModel", "third", "I", false)
def tyX8 : Nat → FieldType := fun k => match k with
  | 0 => .array .int
  | 1 => .array .int
  | 2 => .array .int
  | 3 => .int
  | 4 => .array .int
  | 5 => .int
  | 6 => .array .int
  | 7 => .int
  | 8 => .array .long
  | 9 => .int
  | 10 => .boolean
  | 11 => .int
  | 12 => .int
  | 13 => .int
  | _ => .int
abbrev wsX80 : List Cond := u_ws RX8 TX8 15
theorem nmX8 : ∀ a, a < 15 → ∀ b, b < 15 → a ≠ b → (TX8 a).2.1 ≠ (TX8 b).2.1 := by decide +kernel
theorem tyX8_ok : ∀ k, k < 15 → parseFieldDescriptor (TX8 k).2.2.1 = some (tyX8 k) := by decide +kernel
abbrev cX8_init : ByteArray := prog_10_method_1_code
def yX8_init : MethodName := ⟨RX8, "<init>", "()V"⟩
abbrev cX8_in : ByteArray := prog_10_method_2_code
def yX8_in : MethodName := ⟨RX8, "in", "(III)Z"⟩
abbrev cX8_isTown : ByteArray := prog_10_method_3_code
def yX8_isTown : MethodName := ⟨RX8, "isTown", "(I)Z"⟩
abbrev cX8_isRoad : ByteArray := prog_10_method_4_code
def yX8_isRoad : MethodName := ⟨RX8, "isRoad", "(I)Z"⟩
abbrev cX8_isCart : ByteArray := prog_10_method_5_code
def yX8_isCart : MethodName := ⟨RX8, "isCart", "(I)Z"⟩
abbrev cX8_ofOneRoad : ByteArray := prog_10_method_6_code
def yX8_ofOneRoad : MethodName := ⟨RX8, "ofOneRoad", "(II)I"⟩
abbrev cX8_ofOneCart : ByteArray := prog_10_method_7_code
def yX8_ofOneCart : MethodName := ⟨RX8, "ofOneCart", "(II)I"⟩
abbrev cX8_record : ByteArray := prog_10_method_8_code
def yX8_record : MethodName := ⟨RX8, "record", "()V"⟩
abbrev cX8_putAside : ByteArray := prog_10_method_9_code
def yX8_putAside : MethodName := ⟨RX8, "putAside", "()V"⟩
abbrev cX8_putBack : ByteArray := prog_10_method_10_code
def yX8_putBack : MethodName := ⟨RX8, "putBack", "()V"⟩
abbrev cX8_changed : ByteArray := prog_10_method_11_code
def yX8_changed : MethodName := ⟨RX8, "changed", "(I)I"⟩
abbrev cX8_becomes : ByteArray := prog_10_method_12_code
def yX8_becomes : MethodName := ⟨RX8, "becomes", "(II)I"⟩
abbrev cX8_chanceBy : ByteArray := prog_10_method_13_code
def yX8_chanceBy : MethodName := ⟨RX8, "chanceBy", "(I)I"⟩
abbrev cX8_chanceOf : ByteArray := prog_10_method_14_code
def yX8_chanceOf : MethodName := ⟨RX8, "chanceOf", "(I)I"⟩
abbrev cX8_end : ByteArray := prog_10_method_15_code
def yX8_end : MethodName := ⟨RX8, "end", "(II)I"⟩
abbrev cX8_mostHidden : ByteArray := prog_10_method_16_code
def yX8_mostHidden : MethodName := ⟨RX8, "mostHidden", "(II)I"⟩
abbrev cX8_mostAt : ByteArray := prog_10_method_17_code
def yX8_mostAt : MethodName := ⟨RX8, "mostAt", "(II)I"⟩
abbrev cX8_isHonest : ByteArray := prog_10_method_18_code
def yX8_isHonest : MethodName := ⟨RX8, "isHonest", "(II)Z"⟩
abbrev cX8_dishonest : ByteArray := prog_10_method_19_code
def yX8_dishonest : MethodName := ⟨RX8, "dishonest", "()I"⟩
abbrev cX8_makes : ByteArray := prog_10_method_20_code
def yX8_makes : MethodName := ⟨RX8, "makes", "()I"⟩
abbrev cX8_power : ByteArray := prog_10_method_21_code
def yX8_power : MethodName := ⟨RX8, "power", "(I)J"⟩
abbrev cX8_by : ByteArray := prog_10_method_22_code
def yX8_by : MethodName := ⟨RX8, "by", "(IIIZ)J"⟩
abbrev cX8_workOut : ByteArray := prog_10_method_23_code
def yX8_workOut : MethodName := ⟨RX8, "workOut", "(IZ)V"⟩
abbrev cX8_worthOf : ByteArray := prog_10_method_24_code
def yX8_worthOf : MethodName := ⟨RX8, "worthOf", "(IIZ)J"⟩
abbrev cX8_pays : ByteArray := prog_10_method_25_code
def yX8_pays : MethodName := ⟨RX8, "pays", "(I)Z"⟩
abbrev cX8_payingTowns : ByteArray := prog_10_method_26_code
def yX8_payingTowns : MethodName := ⟨RX8, "payingTowns", "()I"⟩
abbrev cX8_guards : ByteArray := prog_10_method_27_code
def yX8_guards : MethodName := ⟨RX8, "guards", "()I"⟩
abbrev cX8_least : ByteArray := prog_10_method_28_code
def yX8_least : MethodName := ⟨RX8, "least", "(I)I"⟩
abbrev cX8_most : ByteArray := prog_10_method_29_code
def yX8_most : MethodName := ⟨RX8, "most", "(I)I"⟩
abbrev cX8_set : ByteArray := prog_10_method_30_code
def yX8_set : MethodName := ⟨RX8, "set", "(II)I"⟩
abbrev cX8_addsRoad : ByteArray := prog_10_method_31_code
def yX8_addsRoad : MethodName := ⟨RX8, "addsRoad", "(III)I"⟩
abbrev cX8_road : ByteArray := prog_10_method_32_code
def yX8_road : MethodName := ⟨RX8, "road", "(III)I"⟩
abbrev cX8_prices : ByteArray := prog_10_method_33_code
def yX8_prices : MethodName := ⟨RX8, "prices", "(II)I"⟩
abbrev cX8_price : ByteArray := prog_10_method_34_code
def yX8_price : MethodName := ⟨RX8, "price", "(II)I"⟩
abbrev cX8_setsGuards : ByteArray := prog_10_method_35_code
def yX8_setsGuards : MethodName := ⟨RX8, "setsGuards", "(II)I"⟩
abbrev cX8_guard : ByteArray := prog_10_method_36_code
def yX8_guard : MethodName := ⟨RX8, "guard", "(II)I"⟩
abbrev cX8_toll : ByteArray := prog_10_method_37_code
def yX8_toll : MethodName := ⟨RX8, "toll", "(II)I"⟩
abbrev cX8_makeHonest : ByteArray := prog_10_method_38_code
def yX8_makeHonest : MethodName := ⟨RX8, "makeHonest", "()I"⟩
abbrev cX8_addsCart : ByteArray := prog_10_method_39_code
def yX8_addsCart : MethodName := ⟨RX8, "addsCart", "(II)I"⟩
abbrev cX8_cart : ByteArray := prog_10_method_40_code
def yX8_cart : MethodName := ⟨RX8, "cart", "(II)I"⟩
abbrev cX8_buys : ByteArray := prog_10_method_41_code
def yX8_buys : MethodName := ⟨RX8, "buys", "(II)I"⟩
abbrev cX8_buy : ByteArray := prog_10_method_42_code
def yX8_buy : MethodName := ⟨RX8, "buy", "(II)I"⟩
abbrev cX8_sells : ByteArray := prog_10_method_43_code
def yX8_sells : MethodName := ⟨RX8, "sells", "(II)I"⟩
abbrev cX8_sell : ByteArray := prog_10_method_44_code
def yX8_sell : MethodName := ⟨RX8, "sell", "(II)I"⟩
abbrev cX8_endOf : ByteArray := prog_10_method_45_code
def yX8_endOf : MethodName := ⟨RX8, "endOf", "(II)I"⟩
abbrev cX8_fineFor : ByteArray := prog_10_method_46_code
def yX8_fineFor : MethodName := ⟨RX8, "fineFor", "(I)I"⟩
abbrev cX8_sneaks : ByteArray := prog_10_method_47_code
def yX8_sneaks : MethodName := ⟨RX8, "sneaks", "(II)I"⟩
abbrev cX8_goes : ByteArray := prog_10_method_48_code
def yX8_goes : MethodName := ⟨RX8, "goes", "(III)I"⟩
abbrev cX8_go : ByteArray := prog_10_method_49_code
def yX8_go : MethodName := ⟨RX8, "go", "(III)I"⟩
abbrev cX8_write : ByteArray := prog_10_method_50_code
def yX8_write : MethodName := ⟨RX8, "write", "()I"⟩
abbrev cX8_pads : ByteArray := prog_10_method_51_code
def yX8_pads : MethodName := ⟨RX8, "pads", "(I)V"⟩
abbrev cX8_setAt : ByteArray := prog_10_method_52_code
def yX8_setAt : MethodName := ⟨RX8, "setAt", "(II)I"⟩
abbrev cX8_ofTown : ByteArray := prog_10_method_53_code
def yX8_ofTown : MethodName := ⟨RX8, "ofTown", "(II)I"⟩
abbrev cX8_ofRoad : ByteArray := prog_10_method_54_code
def yX8_ofRoad : MethodName := ⟨RX8, "ofRoad", "(II)I"⟩
abbrev cX8_ofCart : ByteArray := prog_10_method_55_code
def yX8_ofCart : MethodName := ⟨RX8, "ofCart", "(II)I"⟩
abbrev cX8_worth : ByteArray := prog_10_method_56_code
def yX8_worth : MethodName := ⟨RX8, "worth", "(III)J"⟩
abbrev cX8_sign : ByteArray := prog_10_method_57_code
def yX8_sign : MethodName := ⟨RX8, "sign", "(I)I"⟩
abbrev cX8_ofCarts : ByteArray := prog_10_method_58_code
def yX8_ofCarts : MethodName := ⟨RX8, "ofCarts", "(I)I"⟩
abbrev cX8_count : ByteArray := prog_10_method_59_code
def yX8_count : MethodName := ⟨RX8, "count", "(I)I"⟩
abbrev cX8_step : ByteArray := prog_10_method_60_code
def yX8_step : MethodName := ⟨RX8, "step", "(II)I"⟩
abbrev cX8_isBound : ByteArray := prog_10_method_61_code
def yX8_isBound : MethodName := ⟨RX8, "isBound", "(III)Z"⟩
abbrev cX8_fewestGuards : ByteArray := prog_10_method_62_code
def yX8_fewestGuards : MethodName := ⟨RX8, "fewestGuards", "(I)I"⟩
abbrev cX8_mostPrice : ByteArray := prog_10_method_63_code
def yX8_mostPrice : MethodName := ⟨RX8, "mostPrice", "(I)I"⟩
abbrev cX8_ifHonest : ByteArray := prog_10_method_64_code
def yX8_ifHonest : MethodName := ⟨RX8, "ifHonest", "()I"⟩
abbrev cX8_wouldHave : ByteArray := prog_10_method_65_code
def yX8_wouldHave : MethodName := ⟨RX8, "wouldHave", "(III)I"⟩
abbrev cX8_put : ByteArray := prog_10_method_66_code
def yX8_put : MethodName := ⟨RX8, "put", "(J)I"⟩
abbrev cX8_wipe : ByteArray := prog_10_method_67_code
def yX8_wipe : MethodName := ⟨RX8, "wipe", "()I"⟩
abbrev cX8_takes : ByteArray := prog_10_method_68_code
def yX8_takes : MethodName := ⟨RX8, "takes", "(II)I"⟩
abbrev cX8_digit : ByteArray := prog_10_method_69_code
def yX8_digit : MethodName := ⟨RX8, "digit", "()I"⟩
abbrev cX8_number : ByteArray := prog_10_method_70_code
def yX8_number : MethodName := ⟨RX8, "number", "()I"⟩
abbrev cX8_isLetter : ByteArray := prog_10_method_71_code
def yX8_isLetter : MethodName := ⟨RX8, "isLetter", "(I)Z"⟩
abbrev cX8_between : ByteArray := prog_10_method_72_code
def yX8_between : MethodName := ⟨RX8, "between", "(I)I"⟩
abbrev cX8_readOrder : ByteArray := prog_10_method_73_code
def yX8_readOrder : MethodName := ⟨RX8, "readOrder", "()V"⟩
abbrev cX8_does : ByteArray := prog_10_method_74_code
def yX8_does : MethodName := ⟨RX8, "does", "()I"⟩
abbrev cX8_goesThrough : ByteArray := prog_10_method_75_code
def yX8_goesThrough : MethodName := ⟨RX8, "goesThrough", "(Z)I"⟩
abbrev cX8_fault : ByteArray := prog_10_method_76_code
def yX8_fault : MethodName := ⟨RX8, "fault", "()I"⟩
abbrev cX8_carryOut : ByteArray := prog_10_method_77_code
def yX8_carryOut : MethodName := ⟨RX8, "carryOut", "()I"⟩
abbrev cX8_undo : ByteArray := prog_10_method_78_code
def yX8_undo : MethodName := ⟨RX8, "undo", "()I"⟩
abbrev cX8_save : ByteArray := prog_10_method_79_code
def yX8_save : MethodName := ⟨RX8, "save", "(I)I"⟩
abbrev cX8_restore : ByteArray := prog_10_method_80_code
def yX8_restore : MethodName := ⟨RX8, "restore", "(I)I"⟩
def RJ9 : String := "java/lang/Math"
def TJ9 : u_T := fun k => match k with
  | _ => ("", "", "", false)
def tyJ9 : Nat → FieldType := fun k => match k with
  | _ => .int
abbrev wsJ90 : List Cond := u_ws RJ9 TJ9 0
theorem nmJ9 : ∀ a, a < 0 → ∀ b, b < 0 → a ≠ b → (TJ9 a).2.1 ≠ (TJ9 b).2.1 := by decide +kernel
theorem tyJ9_ok : ∀ k, k < 0 → parseFieldDescriptor (TJ9 k).2.2.1 = some (tyJ9 k) := by decide +kernel
abbrev cJ9_max_f86c9 : ByteArray := prog_11_method_66_code
def yJ9_max_f86c9 : MethodName := ⟨RJ9, "max", "(JJ)J"⟩
abbrev cJ9_min_7cf53 : ByteArray := prog_11_method_69_code
def yJ9_min_7cf53 : MethodName := ⟨RJ9, "min", "(II)I"⟩
def RJ10 : String := "java/lang/System"
def TJ10 : u_T := fun k => match k with
  | _ => ("", "", "", false)
def tyJ10 : Nat → FieldType := fun k => match k with
  | _ => .int
abbrev wsJ100 : List Cond := u_ws RJ10 TJ10 0
theorem nmJ10 : ∀ a, a < 0 → ∀ b, b < 0 → a ≠ b → (TJ10 a).2.1 ≠ (TJ10 b).2.1 := by decide +kernel
theorem tyJ10_ok : ∀ k, k < 0 → parseFieldDescriptor (TJ10 k).2.2.1 = some (tyJ10 k) := by decide +kernel
def RL : String := "SaltPricesLaw"
abbrev cL_law : ByteArray := code
def yL_law : MethodName := ⟨RL, "law", "([I)Z"⟩
abbrev vwCl : List vw_C := [(RX0, TX0, 8), (RX1, TX1, 3), (RX2, TX2, 2), (RX3, TX3, 7), (RX4, TX4, 6), (RX5, TX5, 4), (RX6, TX6, 11), (RX7, TX7, 9), (RX8, TX8, 15)]
theorem inX0 : ∀ w ∈ wsX00, w ∈ lw_tbl := by decide +kernel
theorem inX1 : ∀ w ∈ wsX10, w ∈ lw_tbl := by decide +kernel
theorem inX2 : ∀ w ∈ wsX20, w ∈ lw_tbl := by decide +kernel
theorem inX3 : ∀ w ∈ wsX30, w ∈ lw_tbl := by decide +kernel
theorem inX4 : ∀ w ∈ wsX40, w ∈ lw_tbl := by decide +kernel
theorem inX5 : ∀ w ∈ wsX50, w ∈ lw_tbl := by decide +kernel
theorem inX6 : ∀ w ∈ wsX60, w ∈ lw_tbl := by decide +kernel
theorem inX7 : ∀ w ∈ wsX70, w ∈ lw_tbl := by decide +kernel
theorem inX8 : ∀ w ∈ wsX80, w ∈ lw_tbl := by decide +kernel
