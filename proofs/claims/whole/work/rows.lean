section
-- ===== PART A: goes FIRST, ahead of the names: the tables' words, and 'selects' of the private methods out of them =====
/-- a private method of a class that the tables say can be made, by its rows of tables_1 -/
def lw_okq (q : MethodName × Nat) : Prop := (q.1.cls ≠ "java/lang/invoke/MethodHandle" ∧ q.1.cls ≠ "java/lang/invoke/VarHandle") ∧ Cond.instantiable q.1.cls q.2 ∈ tables_1 ∧ Cond.privateMethod q.1 ∈ tables_1 ∧ Cond.instanceMethod q.1 ∈ tables_1
theorem lw_p0 : lw_okq (⟨"PromisedFish", "refuse", "(I)I"⟩, 7) := ⟨⟨by decide +kernel, by decide +kernel⟩, List.mem_of_getElem? (i := 19) (by decide +kernel), List.mem_of_getElem? (i := 254) (by decide +kernel), List.mem_of_getElem? (i := 255) (by decide +kernel)⟩
theorem lw_p1 : lw_okq (⟨"PromisedFish$Boat", "turnInto", "(I)V"⟩, 3) := ⟨⟨by decide +kernel, by decide +kernel⟩, List.mem_of_getElem? (i := 39) (by decide +kernel), List.mem_of_getElem? (i := 260) (by decide +kernel), List.mem_of_getElem? (i := 261) (by decide +kernel)⟩
theorem lw_p2 : lw_okq (⟨"PromisedFish", "isBoat", "(I)Z"⟩, 7) := ⟨⟨by decide +kernel, by decide +kernel⟩, List.mem_of_getElem? (i := 19) (by decide +kernel), List.mem_of_getElem? (i := 268) (by decide +kernel), List.mem_of_getElem? (i := 269) (by decide +kernel)⟩
theorem lw_p3 : lw_okq (⟨"PromisedFish$Boat", "eats", "(I)I"⟩, 3) := ⟨⟨by decide +kernel, by decide +kernel⟩, List.mem_of_getElem? (i := 39) (by decide +kernel), List.mem_of_getElem? (i := 275) (by decide +kernel), List.mem_of_getElem? (i := 276) (by decide +kernel)⟩
theorem lw_p4 : lw_okq (⟨"PromisedFish$Quay", "landed", "(IIIII)I"⟩, 15) := ⟨⟨by decide +kernel, by decide +kernel⟩, List.mem_of_getElem? (i := 27) (by decide +kernel), List.mem_of_getElem? (i := 279) (by decide +kernel), List.mem_of_getElem? (i := 280) (by decide +kernel)⟩
theorem lw_p5 : lw_okq (⟨"PromisedFish$Boat", "hauls", "(III)I"⟩, 3) := ⟨⟨by decide +kernel, by decide +kernel⟩, List.mem_of_getElem? (i := 39) (by decide +kernel), List.mem_of_getElem? (i := 283) (by decide +kernel), List.mem_of_getElem? (i := 284) (by decide +kernel)⟩
theorem lw_p6 : lw_okq (⟨"PromisedFish$Law", "gives", "(III)I"⟩, 4) := ⟨⟨by decide +kernel, by decide +kernel⟩, List.mem_of_getElem? (i := 61) (by decide +kernel), List.mem_of_getElem? (i := 287) (by decide +kernel), List.mem_of_getElem? (i := 288) (by decide +kernel)⟩
theorem lw_p7 : lw_okq (⟨"PromisedFish$Boat", "isOneOf", "(I)Z"⟩, 3) := ⟨⟨by decide +kernel, by decide +kernel⟩, List.mem_of_getElem? (i := 39) (by decide +kernel), List.mem_of_getElem? (i := 311) (by decide +kernel), List.mem_of_getElem? (i := 312) (by decide +kernel)⟩
theorem lw_p8 : lw_okq (⟨"PromisedFish$Quay", "promise", "(II)I"⟩, 15) := ⟨⟨by decide +kernel, by decide +kernel⟩, List.mem_of_getElem? (i := 27) (by decide +kernel), List.mem_of_getElem? (i := 338) (by decide +kernel), List.mem_of_getElem? (i := 339) (by decide +kernel)⟩
theorem lw_p9 : lw_okq (⟨"PromisedFish$Quay", "coins", "(II)I"⟩, 15) := ⟨⟨by decide +kernel, by decide +kernel⟩, List.mem_of_getElem? (i := 27) (by decide +kernel), List.mem_of_getElem? (i := 342) (by decide +kernel), List.mem_of_getElem? (i := 343) (by decide +kernel)⟩
theorem lw_p10 : lw_okq (⟨"PromisedFish$Reader", "faultIn", "([III)I"⟩, 6) := ⟨⟨by decide +kernel, by decide +kernel⟩, List.mem_of_getElem? (i := 147) (by decide +kernel), List.mem_of_getElem? (i := 359) (by decide +kernel), List.mem_of_getElem? (i := 360) (by decide +kernel)⟩
theorem lw_p11 : lw_okq (⟨"PromisedFish$Reader", "readLevel", "(II)Z"⟩, 6) := ⟨⟨by decide +kernel, by decide +kernel⟩, List.mem_of_getElem? (i := 147) (by decide +kernel), List.mem_of_getElem? (i := 368) (by decide +kernel), List.mem_of_getElem? (i := 369) (by decide +kernel)⟩
theorem lw_p12 : lw_okq (⟨"PromisedFish$Reader", "readItem", "(I)Z"⟩, 6) := ⟨⟨by decide +kernel, by decide +kernel⟩, List.mem_of_getElem? (i := 147) (by decide +kernel), List.mem_of_getElem? (i := 372) (by decide +kernel), List.mem_of_getElem? (i := 373) (by decide +kernel)⟩
theorem lw_p13 : lw_okq (⟨"PromisedFish$Reader", "next", "()I"⟩, 6) := ⟨⟨by decide +kernel, by decide +kernel⟩, List.mem_of_getElem? (i := 147) (by decide +kernel), List.mem_of_getElem? (i := 376) (by decide +kernel), List.mem_of_getElem? (i := 377) (by decide +kernel)⟩
theorem lw_p14 : lw_okq (⟨"PromisedFish$Reader", "readNumber", "()I"⟩, 6) := ⟨⟨by decide +kernel, by decide +kernel⟩, List.mem_of_getElem? (i := 147) (by decide +kernel), List.mem_of_getElem? (i := 383) (by decide +kernel), List.mem_of_getElem? (i := 384) (by decide +kernel)⟩
theorem lw_p15 : lw_okq (⟨"PromisedFish$Reader", "write", "(I)V"⟩, 6) := ⟨⟨by decide +kernel, by decide +kernel⟩, List.mem_of_getElem? (i := 147) (by decide +kernel), List.mem_of_getElem? (i := 387) (by decide +kernel), List.mem_of_getElem? (i := 388) (by decide +kernel)⟩
def lw_privs_1 : List (MethodName × Nat) := [(⟨"PromisedFish", "refuse", "(I)I"⟩, 7), (⟨"PromisedFish$Boat", "turnInto", "(I)V"⟩, 3), (⟨"PromisedFish", "isBoat", "(I)Z"⟩, 7), (⟨"PromisedFish$Boat", "eats", "(I)I"⟩, 3), (⟨"PromisedFish$Quay", "landed", "(IIIII)I"⟩, 15), (⟨"PromisedFish$Boat", "hauls", "(III)I"⟩, 3), (⟨"PromisedFish$Law", "gives", "(III)I"⟩, 4), (⟨"PromisedFish$Boat", "isOneOf", "(I)Z"⟩, 3), (⟨"PromisedFish$Quay", "promise", "(II)I"⟩, 15), (⟨"PromisedFish$Quay", "coins", "(II)I"⟩, 15), (⟨"PromisedFish$Reader", "faultIn", "([III)I"⟩, 6), (⟨"PromisedFish$Reader", "readLevel", "(II)Z"⟩, 6), (⟨"PromisedFish$Reader", "readItem", "(I)Z"⟩, 6), (⟨"PromisedFish$Reader", "next", "()I"⟩, 6), (⟨"PromisedFish$Reader", "readNumber", "()I"⟩, 6), (⟨"PromisedFish$Reader", "write", "(I)V"⟩, 6)]
theorem lw_r1 : ∀ q ∈ lw_privs_1, lw_okq q := List.forall_mem_cons.mpr ⟨lw_p0, List.forall_mem_cons.mpr ⟨lw_p1, List.forall_mem_cons.mpr ⟨lw_p2, List.forall_mem_cons.mpr ⟨lw_p3, List.forall_mem_cons.mpr ⟨lw_p4, List.forall_mem_cons.mpr ⟨lw_p5, List.forall_mem_cons.mpr ⟨lw_p6, List.forall_mem_cons.mpr ⟨lw_p7, List.forall_mem_cons.mpr ⟨lw_p8, List.forall_mem_cons.mpr ⟨lw_p9, List.forall_mem_cons.mpr ⟨lw_p10, List.forall_mem_cons.mpr ⟨lw_p11, List.forall_mem_cons.mpr ⟨lw_p12, List.forall_mem_cons.mpr ⟨lw_p13, List.forall_mem_cons.mpr ⟨lw_p14, List.forall_mem_cons.mpr ⟨lw_p15, fun _ h => absurd h List.not_mem_nil⟩⟩⟩⟩⟩⟩⟩⟩⟩⟩⟩⟩⟩⟩⟩⟩
theorem lw_p16 : lw_okq (⟨"PromisedFish$Reader", "nameOf", "(I)I"⟩, 6) := ⟨⟨by decide +kernel, by decide +kernel⟩, List.mem_of_getElem? (i := 147) (by decide +kernel), List.mem_of_getElem? (i := 391) (by decide +kernel), List.mem_of_getElem? (i := 392) (by decide +kernel)⟩
theorem lw_p17 : lw_okq (⟨"PromisedFish$Reader", "readDenied", "(I)Z"⟩, 6) := ⟨⟨by decide +kernel, by decide +kernel⟩, List.mem_of_getElem? (i := 147) (by decide +kernel), List.mem_of_getElem? (i := 444) (by decide +kernel), List.mem_of_getElem? (i := 445) (by decide +kernel)⟩
theorem lw_p18 : lw_okq (⟨"PromisedFish$Reader", "readBracketed", "(I)Z"⟩, 6) := ⟨⟨by decide +kernel, by decide +kernel⟩, List.mem_of_getElem? (i := 147) (by decide +kernel), List.mem_of_getElem? (i := 448) (by decide +kernel), List.mem_of_getElem? (i := 449) (by decide +kernel)⟩
theorem lw_p19 : lw_okq (⟨"PromisedFish$Law", "take", "([II)V"⟩, 4) := ⟨⟨by decide +kernel, by decide +kernel⟩, List.mem_of_getElem? (i := 61) (by decide +kernel), List.mem_of_getElem? (i := 455) (by decide +kernel), List.mem_of_getElem? (i := 456) (by decide +kernel)⟩
theorem lw_p20 : lw_okq (⟨"PromisedFish$Quay", "settle", "()I"⟩, 15) := ⟨⟨by decide +kernel, by decide +kernel⟩, List.mem_of_getElem? (i := 27) (by decide +kernel), List.mem_of_getElem? (i := 475) (by decide +kernel), List.mem_of_getElem? (i := 476) (by decide +kernel)⟩
theorem lw_p21 : lw_okq (⟨"PromisedFish$Quay", "caught", "(IIII)I"⟩, 15) := ⟨⟨by decide +kernel, by decide +kernel⟩, List.mem_of_getElem? (i := 27) (by decide +kernel), List.mem_of_getElem? (i := 479) (by decide +kernel), List.mem_of_getElem? (i := 480) (by decide +kernel)⟩
theorem lw_p22 : lw_okq (⟨"PromisedFish$Quay", "dayByDraws", "()I"⟩, 15) := ⟨⟨by decide +kernel, by decide +kernel⟩, List.mem_of_getElem? (i := 27) (by decide +kernel), List.mem_of_getElem? (i := 492) (by decide +kernel), List.mem_of_getElem? (i := 493) (by decide +kernel)⟩
theorem lw_p23 : lw_okq (⟨"PromisedFish$Quay", "draw", "()I"⟩, 15) := ⟨⟨by decide +kernel, by decide +kernel⟩, List.mem_of_getElem? (i := 27) (by decide +kernel), List.mem_of_getElem? (i := 496) (by decide +kernel), List.mem_of_getElem? (i := 497) (by decide +kernel)⟩
theorem lw_p24 : lw_okq (⟨"PromisedFish$Quay", "caughtNow", "(I)I"⟩, 15) := ⟨⟨by decide +kernel, by decide +kernel⟩, List.mem_of_getElem? (i := 27) (by decide +kernel), List.mem_of_getElem? (i := 511) (by decide +kernel), List.mem_of_getElem? (i := 512) (by decide +kernel)⟩
theorem lw_p25 : lw_okq (⟨"PromisedFish$Sheet", "isMissing", "()Z"⟩, 3) := ⟨⟨by decide +kernel, by decide +kernel⟩, List.mem_of_getElem? (i := 203) (by decide +kernel), List.mem_of_getElem? (i := 602) (by decide +kernel), List.mem_of_getElem? (i := 603) (by decide +kernel)⟩
theorem lw_p26 : lw_okq (⟨"PromisedFish$Voices", "hear", "(LPromisedFish$Boat;III)I"⟩, 6) := ⟨⟨by decide +kernel, by decide +kernel⟩, List.mem_of_getElem? (i := 174) (by decide +kernel), List.mem_of_getElem? (i := 620) (by decide +kernel), List.mem_of_getElem? (i := 621) (by decide +kernel)⟩
theorem lw_p27 : lw_okq (⟨"PromisedFish$Voices", "speak", "(IIII)I"⟩, 6) := ⟨⟨by decide +kernel, by decide +kernel⟩, List.mem_of_getElem? (i := 174) (by decide +kernel), List.mem_of_getElem? (i := 624) (by decide +kernel), List.mem_of_getElem? (i := 625) (by decide +kernel)⟩
theorem lw_p28 : lw_okq (⟨"PromisedFish$Voices", "say", "(IIII)I"⟩, 6) := ⟨⟨by decide +kernel, by decide +kernel⟩, List.mem_of_getElem? (i := 174) (by decide +kernel), List.mem_of_getElem? (i := 631) (by decide +kernel), List.mem_of_getElem? (i := 632) (by decide +kernel)⟩
theorem lw_p29 : lw_okq (⟨"PromisedFish$Voices", "part", "(I)I"⟩, 6) := ⟨⟨by decide +kernel, by decide +kernel⟩, List.mem_of_getElem? (i := 174) (by decide +kernel), List.mem_of_getElem? (i := 635) (by decide +kernel), List.mem_of_getElem? (i := 636) (by decide +kernel)⟩
theorem lw_p30 : lw_okq (⟨"PromisedFish$Sheet", "lay", "(II)V"⟩, 3) := ⟨⟨by decide +kernel, by decide +kernel⟩, List.mem_of_getElem? (i := 203) (by decide +kernel), List.mem_of_getElem? (i := 648) (by decide +kernel), List.mem_of_getElem? (i := 649) (by decide +kernel)⟩
theorem lw_p31 : lw_okq (⟨"PromisedFish$Sheet", "lowestBits", "(I)I"⟩, 3) := ⟨⟨by decide +kernel, by decide +kernel⟩, List.mem_of_getElem? (i := 203) (by decide +kernel), List.mem_of_getElem? (i := 657) (by decide +kernel), List.mem_of_getElem? (i := 658) (by decide +kernel)⟩
def lw_privs_2 : List (MethodName × Nat) := [(⟨"PromisedFish$Reader", "nameOf", "(I)I"⟩, 6), (⟨"PromisedFish$Reader", "readDenied", "(I)Z"⟩, 6), (⟨"PromisedFish$Reader", "readBracketed", "(I)Z"⟩, 6), (⟨"PromisedFish$Law", "take", "([II)V"⟩, 4), (⟨"PromisedFish$Quay", "settle", "()I"⟩, 15), (⟨"PromisedFish$Quay", "caught", "(IIII)I"⟩, 15), (⟨"PromisedFish$Quay", "dayByDraws", "()I"⟩, 15), (⟨"PromisedFish$Quay", "draw", "()I"⟩, 15), (⟨"PromisedFish$Quay", "caughtNow", "(I)I"⟩, 15), (⟨"PromisedFish$Sheet", "isMissing", "()Z"⟩, 3), (⟨"PromisedFish$Voices", "hear", "(LPromisedFish$Boat;III)I"⟩, 6), (⟨"PromisedFish$Voices", "speak", "(IIII)I"⟩, 6), (⟨"PromisedFish$Voices", "say", "(IIII)I"⟩, 6), (⟨"PromisedFish$Voices", "part", "(I)I"⟩, 6), (⟨"PromisedFish$Sheet", "lay", "(II)V"⟩, 3), (⟨"PromisedFish$Sheet", "lowestBits", "(I)I"⟩, 3)]
theorem lw_r2 : ∀ q ∈ lw_privs_2, lw_okq q := List.forall_mem_cons.mpr ⟨lw_p16, List.forall_mem_cons.mpr ⟨lw_p17, List.forall_mem_cons.mpr ⟨lw_p18, List.forall_mem_cons.mpr ⟨lw_p19, List.forall_mem_cons.mpr ⟨lw_p20, List.forall_mem_cons.mpr ⟨lw_p21, List.forall_mem_cons.mpr ⟨lw_p22, List.forall_mem_cons.mpr ⟨lw_p23, List.forall_mem_cons.mpr ⟨lw_p24, List.forall_mem_cons.mpr ⟨lw_p25, List.forall_mem_cons.mpr ⟨lw_p26, List.forall_mem_cons.mpr ⟨lw_p27, List.forall_mem_cons.mpr ⟨lw_p28, List.forall_mem_cons.mpr ⟨lw_p29, List.forall_mem_cons.mpr ⟨lw_p30, List.forall_mem_cons.mpr ⟨lw_p31, fun _ h => absurd h List.not_mem_nil⟩⟩⟩⟩⟩⟩⟩⟩⟩⟩⟩⟩⟩⟩⟩⟩
theorem lw_p32 : lw_okq (⟨"PromisedFish$Sheet", "has", "(II)Z"⟩, 3) := ⟨⟨by decide +kernel, by decide +kernel⟩, List.mem_of_getElem? (i := 203) (by decide +kernel), List.mem_of_getElem? (i := 666) (by decide +kernel), List.mem_of_getElem? (i := 667) (by decide +kernel)⟩
theorem lw_p33 : lw_okq (⟨"PromisedFish$Quay", "takeFrom", "(LPromisedFish$Quay;)V"⟩, 15) := ⟨⟨by decide +kernel, by decide +kernel⟩, List.mem_of_getElem? (i := 27) (by decide +kernel), List.mem_of_getElem? (i := 683) (by decide +kernel), List.mem_of_getElem? (i := 684) (by decide +kernel)⟩
theorem lw_p34 : lw_okq (⟨"PromisedFish$Boat", "takeFrom", "(LPromisedFish$Boat;)V"⟩, 3) := ⟨⟨by decide +kernel, by decide +kernel⟩, List.mem_of_getElem? (i := 39) (by decide +kernel), List.mem_of_getElem? (i := 688) (by decide +kernel), List.mem_of_getElem? (i := 689) (by decide +kernel)⟩
theorem lw_p35 : lw_okq (⟨"PromisedFish$Law", "takeFrom", "(LPromisedFish$Law;)V"⟩, 4) := ⟨⟨by decide +kernel, by decide +kernel⟩, List.mem_of_getElem? (i := 61) (by decide +kernel), List.mem_of_getElem? (i := 692) (by decide +kernel), List.mem_of_getElem? (i := 693) (by decide +kernel)⟩
theorem lw_p36 : lw_okq (⟨"PromisedFishModel", "error", "(I)I"⟩, 20) := ⟨⟨by decide +kernel, by decide +kernel⟩, List.mem_of_getElem? (i := 717) (by decide +kernel), List.mem_of_getElem? (i := 795) (by decide +kernel), List.mem_of_getElem? (i := 796) (by decide +kernel)⟩
theorem lw_p37 : lw_okq (⟨"PromisedFishModel", "isBoat", "(I)Z"⟩, 20) := ⟨⟨by decide +kernel, by decide +kernel⟩, List.mem_of_getElem? (i := 717) (by decide +kernel), List.mem_of_getElem? (i := 805) (by decide +kernel), List.mem_of_getElem? (i := 806) (by decide +kernel)⟩
theorem lw_p38 : lw_okq (⟨"PromisedFishModel", "of", "(II)I"⟩, 20) := ⟨⟨by decide +kernel, by decide +kernel⟩, List.mem_of_getElem? (i := 717) (by decide +kernel), List.mem_of_getElem? (i := 809) (by decide +kernel), List.mem_of_getElem? (i := 810) (by decide +kernel)⟩
theorem lw_p39 : lw_okq (⟨"PromisedFishModel", "eatsOf", "(I)I"⟩, 20) := ⟨⟨by decide +kernel, by decide +kernel⟩, List.mem_of_getElem? (i := 717) (by decide +kernel), List.mem_of_getElem? (i := 813) (by decide +kernel), List.mem_of_getElem? (i := 814) (by decide +kernel)⟩
theorem lw_p40 : lw_okq (⟨"PromisedFishModel", "landsOf", "(III)I"⟩, 20) := ⟨⟨by decide +kernel, by decide +kernel⟩, List.mem_of_getElem? (i := 717) (by decide +kernel), List.mem_of_getElem? (i := 817) (by decide +kernel), List.mem_of_getElem? (i := 818) (by decide +kernel)⟩
theorem lw_p41 : lw_okq (⟨"PromisedFishModel", "haulsOf", "(II)I"⟩, 20) := ⟨⟨by decide +kernel, by decide +kernel⟩, List.mem_of_getElem? (i := 717) (by decide +kernel), List.mem_of_getElem? (i := 821) (by decide +kernel), List.mem_of_getElem? (i := 822) (by decide +kernel)⟩
theorem lw_p42 : lw_okq (⟨"PromisedFishModel", "gives", "(IIII)I"⟩, 20) := ⟨⟨by decide +kernel, by decide +kernel⟩, List.mem_of_getElem? (i := 717) (by decide +kernel), List.mem_of_getElem? (i := 825) (by decide +kernel), List.mem_of_getElem? (i := 826) (by decide +kernel)⟩
theorem lw_p43 : lw_okq (⟨"PromisedFishModel", "works", "(I)I"⟩, 20) := ⟨⟨by decide +kernel, by decide +kernel⟩, List.mem_of_getElem? (i := 717) (by decide +kernel), List.mem_of_getElem? (i := 829) (by decide +kernel), List.mem_of_getElem? (i := 830) (by decide +kernel)⟩
theorem lw_p44 : lw_okq (⟨"PromisedFishModel", "becomes", "(II)I"⟩, 20) := ⟨⟨by decide +kernel, by decide +kernel⟩, List.mem_of_getElem? (i := 717) (by decide +kernel), List.mem_of_getElem? (i := 843) (by decide +kernel), List.mem_of_getElem? (i := 844) (by decide +kernel)⟩
theorem lw_p45 : lw_okq (⟨"PromisedFishModel", "sells", "(II)I"⟩, 20) := ⟨⟨by decide +kernel, by decide +kernel⟩, List.mem_of_getElem? (i := 717) (by decide +kernel), List.mem_of_getElem? (i := 872) (by decide +kernel), List.mem_of_getElem? (i := 873) (by decide +kernel)⟩
theorem lw_p46 : lw_okq (⟨"PromisedFishModel", "coinsFor", "(II)I"⟩, 20) := ⟨⟨by decide +kernel, by decide +kernel⟩, List.mem_of_getElem? (i := 717) (by decide +kernel), List.mem_of_getElem? (i := 876) (by decide +kernel), List.mem_of_getElem? (i := 877) (by decide +kernel)⟩
theorem lw_p47 : lw_okq (⟨"PromisedFishModel", "any", "()V"⟩, 20) := ⟨⟨by decide +kernel, by decide +kernel⟩, List.mem_of_getElem? (i := 717) (by decide +kernel), List.mem_of_getElem? (i := 891) (by decide +kernel), List.mem_of_getElem? (i := 892) (by decide +kernel)⟩
def lw_privs_3 : List (MethodName × Nat) := [(⟨"PromisedFish$Sheet", "has", "(II)Z"⟩, 3), (⟨"PromisedFish$Quay", "takeFrom", "(LPromisedFish$Quay;)V"⟩, 15), (⟨"PromisedFish$Boat", "takeFrom", "(LPromisedFish$Boat;)V"⟩, 3), (⟨"PromisedFish$Law", "takeFrom", "(LPromisedFish$Law;)V"⟩, 4), (⟨"PromisedFishModel", "error", "(I)I"⟩, 20), (⟨"PromisedFishModel", "isBoat", "(I)Z"⟩, 20), (⟨"PromisedFishModel", "of", "(II)I"⟩, 20), (⟨"PromisedFishModel", "eatsOf", "(I)I"⟩, 20), (⟨"PromisedFishModel", "landsOf", "(III)I"⟩, 20), (⟨"PromisedFishModel", "haulsOf", "(II)I"⟩, 20), (⟨"PromisedFishModel", "gives", "(IIII)I"⟩, 20), (⟨"PromisedFishModel", "works", "(I)I"⟩, 20), (⟨"PromisedFishModel", "becomes", "(II)I"⟩, 20), (⟨"PromisedFishModel", "sells", "(II)I"⟩, 20), (⟨"PromisedFishModel", "coinsFor", "(II)I"⟩, 20), (⟨"PromisedFishModel", "any", "()V"⟩, 20)]
theorem lw_r3 : ∀ q ∈ lw_privs_3, lw_okq q := List.forall_mem_cons.mpr ⟨lw_p32, List.forall_mem_cons.mpr ⟨lw_p33, List.forall_mem_cons.mpr ⟨lw_p34, List.forall_mem_cons.mpr ⟨lw_p35, List.forall_mem_cons.mpr ⟨lw_p36, List.forall_mem_cons.mpr ⟨lw_p37, List.forall_mem_cons.mpr ⟨lw_p38, List.forall_mem_cons.mpr ⟨lw_p39, List.forall_mem_cons.mpr ⟨lw_p40, List.forall_mem_cons.mpr ⟨lw_p41, List.forall_mem_cons.mpr ⟨lw_p42, List.forall_mem_cons.mpr ⟨lw_p43, List.forall_mem_cons.mpr ⟨lw_p44, List.forall_mem_cons.mpr ⟨lw_p45, List.forall_mem_cons.mpr ⟨lw_p46, List.forall_mem_cons.mpr ⟨lw_p47, fun _ h => absurd h List.not_mem_nil⟩⟩⟩⟩⟩⟩⟩⟩⟩⟩⟩⟩⟩⟩⟩⟩
theorem lw_p48 : lw_okq (⟨"PromisedFishModel", "all", "()V"⟩, 20) := ⟨⟨by decide +kernel, by decide +kernel⟩, List.mem_of_getElem? (i := 717) (by decide +kernel), List.mem_of_getElem? (i := 895) (by decide +kernel), List.mem_of_getElem? (i := 896) (by decide +kernel)⟩
theorem lw_p49 : lw_okq (⟨"PromisedFishModel", "compares", "()V"⟩, 20) := ⟨⟨by decide +kernel, by decide +kernel⟩, List.mem_of_getElem? (i := 717) (by decide +kernel), List.mem_of_getElem? (i := 899) (by decide +kernel), List.mem_of_getElem? (i := 900) (by decide +kernel)⟩
theorem lw_p50 : lw_okq (⟨"PromisedFishModel", "sum", "()V"⟩, 20) := ⟨⟨by decide +kernel, by decide +kernel⟩, List.mem_of_getElem? (i := 717) (by decide +kernel), List.mem_of_getElem? (i := 903) (by decide +kernel), List.mem_of_getElem? (i := 904) (by decide +kernel)⟩
theorem lw_p51 : lw_okq (⟨"PromisedFishModel", "times", "()V"⟩, 20) := ⟨⟨by decide +kernel, by decide +kernel⟩, List.mem_of_getElem? (i := 717) (by decide +kernel), List.mem_of_getElem? (i := 907) (by decide +kernel), List.mem_of_getElem? (i := 908) (by decide +kernel)⟩
theorem lw_p52 : lw_okq (⟨"PromisedFishModel", "one", "()V"⟩, 20) := ⟨⟨by decide +kernel, by decide +kernel⟩, List.mem_of_getElem? (i := 717) (by decide +kernel), List.mem_of_getElem? (i := 911) (by decide +kernel), List.mem_of_getElem? (i := 912) (by decide +kernel)⟩
theorem lw_p53 : lw_okq (⟨"PromisedFishModel", "look", "()I"⟩, 20) := ⟨⟨by decide +kernel, by decide +kernel⟩, List.mem_of_getElem? (i := 717) (by decide +kernel), List.mem_of_getElem? (i := 915) (by decide +kernel), List.mem_of_getElem? (i := 916) (by decide +kernel)⟩
theorem lw_p54 : lw_okq (⟨"PromisedFishModel", "nameOf", "(I)I"⟩, 20) := ⟨⟨by decide +kernel, by decide +kernel⟩, List.mem_of_getElem? (i := 717) (by decide +kernel), List.mem_of_getElem? (i := 919) (by decide +kernel), List.mem_of_getElem? (i := 920) (by decide +kernel)⟩
theorem lw_p55 : lw_okq (⟨"PromisedFishModel", "lays", "(II)V"⟩, 20) := ⟨⟨by decide +kernel, by decide +kernel⟩, List.mem_of_getElem? (i := 717) (by decide +kernel), List.mem_of_getElem? (i := 923) (by decide +kernel), List.mem_of_getElem? (i := 924) (by decide +kernel)⟩
theorem lw_p56 : lw_okq (⟨"PromisedFishModel", "opens", "(I)V"⟩, 20) := ⟨⟨by decide +kernel, by decide +kernel⟩, List.mem_of_getElem? (i := 717) (by decide +kernel), List.mem_of_getElem? (i := 927) (by decide +kernel), List.mem_of_getElem? (i := 928) (by decide +kernel)⟩
theorem lw_p57 : lw_okq (⟨"PromisedFishModel", "number", "()V"⟩, 20) := ⟨⟨by decide +kernel, by decide +kernel⟩, List.mem_of_getElem? (i := 717) (by decide +kernel), List.mem_of_getElem? (i := 931) (by decide +kernel), List.mem_of_getElem? (i := 932) (by decide +kernel)⟩
theorem lw_p58 : lw_okq (⟨"PromisedFishModel", "tallies", "()I"⟩, 20) := ⟨⟨by decide +kernel, by decide +kernel⟩, List.mem_of_getElem? (i := 717) (by decide +kernel), List.mem_of_getElem? (i := 947) (by decide +kernel), List.mem_of_getElem? (i := 948) (by decide +kernel)⟩
theorem lw_p59 : lw_okq (⟨"PromisedFishModel", "shortBy", "(II)I"⟩, 20) := ⟨⟨by decide +kernel, by decide +kernel⟩, List.mem_of_getElem? (i := 717) (by decide +kernel), List.mem_of_getElem? (i := 951) (by decide +kernel), List.mem_of_getElem? (i := 952) (by decide +kernel)⟩
theorem lw_p60 : lw_okq (⟨"PromisedFishModel", "catchBy", "(II)I"⟩, 20) := ⟨⟨by decide +kernel, by decide +kernel⟩, List.mem_of_getElem? (i := 717) (by decide +kernel), List.mem_of_getElem? (i := 955) (by decide +kernel), List.mem_of_getElem? (i := 956) (by decide +kernel)⟩
theorem lw_p61 : lw_okq (⟨"PromisedFishModel", "pays", "(I)V"⟩, 20) := ⟨⟨by decide +kernel, by decide +kernel⟩, List.mem_of_getElem? (i := 717) (by decide +kernel), List.mem_of_getElem? (i := 959) (by decide +kernel), List.mem_of_getElem? (i := 960) (by decide +kernel)⟩
theorem lw_p62 : lw_okq (⟨"PromisedFishModel", "drawn", "()I"⟩, 20) := ⟨⟨by decide +kernel, by decide +kernel⟩, List.mem_of_getElem? (i := 717) (by decide +kernel), List.mem_of_getElem? (i := 967) (by decide +kernel), List.mem_of_getElem? (i := 968) (by decide +kernel)⟩
theorem lw_p63 : lw_okq (⟨"PromisedFishModel", "draw", "()I"⟩, 20) := ⟨⟨by decide +kernel, by decide +kernel⟩, List.mem_of_getElem? (i := 717) (by decide +kernel), List.mem_of_getElem? (i := 971) (by decide +kernel), List.mem_of_getElem? (i := 972) (by decide +kernel)⟩
def lw_privs_4 : List (MethodName × Nat) := [(⟨"PromisedFishModel", "all", "()V"⟩, 20), (⟨"PromisedFishModel", "compares", "()V"⟩, 20), (⟨"PromisedFishModel", "sum", "()V"⟩, 20), (⟨"PromisedFishModel", "times", "()V"⟩, 20), (⟨"PromisedFishModel", "one", "()V"⟩, 20), (⟨"PromisedFishModel", "look", "()I"⟩, 20), (⟨"PromisedFishModel", "nameOf", "(I)I"⟩, 20), (⟨"PromisedFishModel", "lays", "(II)V"⟩, 20), (⟨"PromisedFishModel", "opens", "(I)V"⟩, 20), (⟨"PromisedFishModel", "number", "()V"⟩, 20), (⟨"PromisedFishModel", "tallies", "()I"⟩, 20), (⟨"PromisedFishModel", "shortBy", "(II)I"⟩, 20), (⟨"PromisedFishModel", "catchBy", "(II)I"⟩, 20), (⟨"PromisedFishModel", "pays", "(I)V"⟩, 20), (⟨"PromisedFishModel", "drawn", "()I"⟩, 20), (⟨"PromisedFishModel", "draw", "()I"⟩, 20)]
theorem lw_r4 : ∀ q ∈ lw_privs_4, lw_okq q := List.forall_mem_cons.mpr ⟨lw_p48, List.forall_mem_cons.mpr ⟨lw_p49, List.forall_mem_cons.mpr ⟨lw_p50, List.forall_mem_cons.mpr ⟨lw_p51, List.forall_mem_cons.mpr ⟨lw_p52, List.forall_mem_cons.mpr ⟨lw_p53, List.forall_mem_cons.mpr ⟨lw_p54, List.forall_mem_cons.mpr ⟨lw_p55, List.forall_mem_cons.mpr ⟨lw_p56, List.forall_mem_cons.mpr ⟨lw_p57, List.forall_mem_cons.mpr ⟨lw_p58, List.forall_mem_cons.mpr ⟨lw_p59, List.forall_mem_cons.mpr ⟨lw_p60, List.forall_mem_cons.mpr ⟨lw_p61, List.forall_mem_cons.mpr ⟨lw_p62, List.forall_mem_cons.mpr ⟨lw_p63, fun _ h => absurd h List.not_mem_nil⟩⟩⟩⟩⟩⟩⟩⟩⟩⟩⟩⟩⟩⟩⟩⟩
theorem lw_p64 : lw_okq (⟨"PromisedFishModel", "catchOf", "(I)I"⟩, 20) := ⟨⟨by decide +kernel, by decide +kernel⟩, List.mem_of_getElem? (i := 717) (by decide +kernel), List.mem_of_getElem? (i := 984) (by decide +kernel), List.mem_of_getElem? (i := 985) (by decide +kernel)⟩
theorem lw_p65 : lw_okq (⟨"PromisedFishModel", "enough", "(II)I"⟩, 20) := ⟨⟨by decide +kernel, by decide +kernel⟩, List.mem_of_getElem? (i := 717) (by decide +kernel), List.mem_of_getElem? (i := 992) (by decide +kernel), List.mem_of_getElem? (i := 993) (by decide +kernel)⟩
theorem lw_p66 : lw_okq (⟨"PromisedFishModel", "shortest", "(II)I"⟩, 20) := ⟨⟨by decide +kernel, by decide +kernel⟩, List.mem_of_getElem? (i := 717) (by decide +kernel), List.mem_of_getElem? (i := 1000) (by decide +kernel), List.mem_of_getElem? (i := 1001) (by decide +kernel)⟩
theorem lw_p67 : lw_okq (⟨"PromisedFishModel", "isEnough", "(I)Z"⟩, 20) := ⟨⟨by decide +kernel, by decide +kernel⟩, List.mem_of_getElem? (i := 717) (by decide +kernel), List.mem_of_getElem? (i := 1016) (by decide +kernel), List.mem_of_getElem? (i := 1017) (by decide +kernel)⟩
theorem lw_p68 : lw_okq (⟨"PromisedFishModel", "rightOf", "(I)I"⟩, 20) := ⟨⟨by decide +kernel, by decide +kernel⟩, List.mem_of_getElem? (i := 717) (by decide +kernel), List.mem_of_getElem? (i := 1042) (by decide +kernel), List.mem_of_getElem? (i := 1043) (by decide +kernel)⟩
theorem lw_p69 : lw_okq (⟨"PromisedFishModel", "calls", "(II)I"⟩, 20) := ⟨⟨by decide +kernel, by decide +kernel⟩, List.mem_of_getElem? (i := 717) (by decide +kernel), List.mem_of_getElem? (i := 1050) (by decide +kernel), List.mem_of_getElem? (i := 1051) (by decide +kernel)⟩
theorem lw_p70 : lw_okq (⟨"PromisedFishModel", "smackCalls", "(II)I"⟩, 20) := ⟨⟨by decide +kernel, by decide +kernel⟩, List.mem_of_getElem? (i := 717) (by decide +kernel), List.mem_of_getElem? (i := 1054) (by decide +kernel), List.mem_of_getElem? (i := 1055) (by decide +kernel)⟩
theorem lw_p71 : lw_okq (⟨"PromisedFishModel", "begins", "(I)V"⟩, 20) := ⟨⟨by decide +kernel, by decide +kernel⟩, List.mem_of_getElem? (i := 717) (by decide +kernel), List.mem_of_getElem? (i := 1058) (by decide +kernel), List.mem_of_getElem? (i := 1059) (by decide +kernel)⟩
theorem lw_p72 : lw_okq (⟨"PromisedFishModel", "plainCalls", "(II)I"⟩, 20) := ⟨⟨by decide +kernel, by decide +kernel⟩, List.mem_of_getElem? (i := 717) (by decide +kernel), List.mem_of_getElem? (i := 1062) (by decide +kernel), List.mem_of_getElem? (i := 1063) (by decide +kernel)⟩
theorem lw_p73 : lw_okq (⟨"PromisedFishModel", "hauls", "(II)I"⟩, 20) := ⟨⟨by decide +kernel, by decide +kernel⟩, List.mem_of_getElem? (i := 717) (by decide +kernel), List.mem_of_getElem? (i := 1066) (by decide +kernel), List.mem_of_getElem? (i := 1067) (by decide +kernel)⟩
theorem lw_p74 : lw_okq (⟨"PromisedFishModel", "skiffHauls", "(II)I"⟩, 20) := ⟨⟨by decide +kernel, by decide +kernel⟩, List.mem_of_getElem? (i := 717) (by decide +kernel), List.mem_of_getElem? (i := 1070) (by decide +kernel), List.mem_of_getElem? (i := 1071) (by decide +kernel)⟩
theorem lw_p75 : lw_okq (⟨"PromisedFishModel", "plainHauls", "(II)I"⟩, 20) := ⟨⟨by decide +kernel, by decide +kernel⟩, List.mem_of_getElem? (i := 717) (by decide +kernel), List.mem_of_getElem? (i := 1074) (by decide +kernel), List.mem_of_getElem? (i := 1075) (by decide +kernel)⟩
theorem lw_p76 : lw_okq (⟨"PromisedFishModel", "letsBy", "(II)I"⟩, 20) := ⟨⟨by decide +kernel, by decide +kernel⟩, List.mem_of_getElem? (i := 717) (by decide +kernel), List.mem_of_getElem? (i := 1078) (by decide +kernel), List.mem_of_getElem? (i := 1079) (by decide +kernel)⟩
theorem lw_p77 : lw_okq (⟨"PromisedFishModel", "plainLets", "(II)I"⟩, 20) := ⟨⟨by decide +kernel, by decide +kernel⟩, List.mem_of_getElem? (i := 717) (by decide +kernel), List.mem_of_getElem? (i := 1082) (by decide +kernel), List.mem_of_getElem? (i := 1083) (by decide +kernel)⟩
theorem lw_p78 : lw_okq (⟨"PromisedFishModel", "partsBy", "(II)I"⟩, 20) := ⟨⟨by decide +kernel, by decide +kernel⟩, List.mem_of_getElem? (i := 717) (by decide +kernel), List.mem_of_getElem? (i := 1086) (by decide +kernel), List.mem_of_getElem? (i := 1087) (by decide +kernel)⟩
theorem lw_p79 : lw_okq (⟨"PromisedFishModel", "plainParts", "(II)I"⟩, 20) := ⟨⟨by decide +kernel, by decide +kernel⟩, List.mem_of_getElem? (i := 717) (by decide +kernel), List.mem_of_getElem? (i := 1090) (by decide +kernel), List.mem_of_getElem? (i := 1091) (by decide +kernel)⟩
def lw_privs_5 : List (MethodName × Nat) := [(⟨"PromisedFishModel", "catchOf", "(I)I"⟩, 20), (⟨"PromisedFishModel", "enough", "(II)I"⟩, 20), (⟨"PromisedFishModel", "shortest", "(II)I"⟩, 20), (⟨"PromisedFishModel", "isEnough", "(I)Z"⟩, 20), (⟨"PromisedFishModel", "rightOf", "(I)I"⟩, 20), (⟨"PromisedFishModel", "calls", "(II)I"⟩, 20), (⟨"PromisedFishModel", "smackCalls", "(II)I"⟩, 20), (⟨"PromisedFishModel", "begins", "(I)V"⟩, 20), (⟨"PromisedFishModel", "plainCalls", "(II)I"⟩, 20), (⟨"PromisedFishModel", "hauls", "(II)I"⟩, 20), (⟨"PromisedFishModel", "skiffHauls", "(II)I"⟩, 20), (⟨"PromisedFishModel", "plainHauls", "(II)I"⟩, 20), (⟨"PromisedFishModel", "letsBy", "(II)I"⟩, 20), (⟨"PromisedFishModel", "plainLets", "(II)I"⟩, 20), (⟨"PromisedFishModel", "partsBy", "(II)I"⟩, 20), (⟨"PromisedFishModel", "plainParts", "(II)I"⟩, 20)]
theorem lw_r5 : ∀ q ∈ lw_privs_5, lw_okq q := List.forall_mem_cons.mpr ⟨lw_p64, List.forall_mem_cons.mpr ⟨lw_p65, List.forall_mem_cons.mpr ⟨lw_p66, List.forall_mem_cons.mpr ⟨lw_p67, List.forall_mem_cons.mpr ⟨lw_p68, List.forall_mem_cons.mpr ⟨lw_p69, List.forall_mem_cons.mpr ⟨lw_p70, List.forall_mem_cons.mpr ⟨lw_p71, List.forall_mem_cons.mpr ⟨lw_p72, List.forall_mem_cons.mpr ⟨lw_p73, List.forall_mem_cons.mpr ⟨lw_p74, List.forall_mem_cons.mpr ⟨lw_p75, List.forall_mem_cons.mpr ⟨lw_p76, List.forall_mem_cons.mpr ⟨lw_p77, List.forall_mem_cons.mpr ⟨lw_p78, List.forall_mem_cons.mpr ⟨lw_p79, fun _ h => absurd h List.not_mem_nil⟩⟩⟩⟩⟩⟩⟩⟩⟩⟩⟩⟩⟩⟩⟩⟩
theorem lw_p80 : lw_okq (⟨"PromisedFishModel", "notThere", "(I)I"⟩, 20) := ⟨⟨by decide +kernel, by decide +kernel⟩, List.mem_of_getElem? (i := 717) (by decide +kernel), List.mem_of_getElem? (i := 1107) (by decide +kernel), List.mem_of_getElem? (i := 1108) (by decide +kernel)⟩
theorem lw_p81 : lw_okq (⟨"PromisedFishModel", "notMoved", "(IIIII)I"⟩, 20) := ⟨⟨by decide +kernel, by decide +kernel⟩, List.mem_of_getElem? (i := 717) (by decide +kernel), List.mem_of_getElem? (i := 1115) (by decide +kernel), List.mem_of_getElem? (i := 1116) (by decide +kernel)⟩
def lw_privs_6 : List (MethodName × Nat) := [(⟨"PromisedFishModel", "notThere", "(I)I"⟩, 20), (⟨"PromisedFishModel", "notMoved", "(IIIII)I"⟩, 20)]
theorem lw_r6 : ∀ q ∈ lw_privs_6, lw_okq q := List.forall_mem_cons.mpr ⟨lw_p80, List.forall_mem_cons.mpr ⟨lw_p81, fun _ h => absurd h List.not_mem_nil⟩⟩
def lw_privs : List (MethodName × Nat) := lw_privs_1 ++ (lw_privs_2 ++ (lw_privs_3 ++ (lw_privs_4 ++ (lw_privs_5 ++ (lw_privs_6)))))
def lw_tbl : List Cond := k2_sels lw_privs ++ tables_1
theorem lw_privs_ok : ∀ q ∈ lw_privs, lw_okq q := by
  show ∀ q ∈ lw_privs_1 ++ (lw_privs_2 ++ (lw_privs_3 ++ (lw_privs_4 ++ (lw_privs_5 ++ (lw_privs_6))))), lw_okq q
  exact List.forall_mem_append.mpr ⟨lw_r1, List.forall_mem_append.mpr ⟨lw_r2, List.forall_mem_append.mpr ⟨lw_r3, List.forall_mem_append.mpr ⟨lw_r4, List.forall_mem_append.mpr ⟨lw_r5, lw_r6⟩⟩⟩⟩⟩
-- ===== end of PART A; then your names; then what follows =====
end
section
def RX0 : String := "PromisedFish$Boat"
def TX0 : u_T := fun k => match k with
  | 0 => ("PromisedFish$Boat", "kind", "I", false)
  | 1 => ("PromisedFish$Boat", "m", "I", false)
  | _ => ("PromisedFish$Boat", "lost", "I", false)
def tyX0 : Nat → FieldType := fun k => match k with
  | 0 => .int
  | 1 => .int
  | _ => .int
theorem nmX0 : ∀ a, a < 3 → ∀ b, b < 3 → a ≠ b → (TX0 a).2.1 ≠ (TX0 b).2.1 := by decide +kernel
theorem tyX0_ok : ∀ k, k < 3 → parseFieldDescriptor (TX0 k).2.2.1 = some (tyX0 k) := by decide +kernel
abbrev cX0_init : ByteArray := prog_2_method_1_code
def yX0_init : MethodName := ⟨RX0, "<init>", "()V"⟩
abbrev cX0_turnInto : ByteArray := prog_2_method_2_code
def yX0_turnInto : MethodName := ⟨RX0, "turnInto", "(I)V"⟩
abbrev cX0_takeFrom : ByteArray := prog_2_method_3_code
def yX0_takeFrom : MethodName := ⟨RX0, "takeFrom", "(LPromisedFish$Boat;)V"⟩
abbrev cX0_isOneOf : ByteArray := prog_2_method_4_code
def yX0_isOneOf : MethodName := ⟨RX0, "isOneOf", "(I)Z"⟩
abbrev cX0_hauls : ByteArray := prog_2_method_5_code
def yX0_hauls : MethodName := ⟨RX0, "hauls", "(III)I"⟩
abbrev cX0_eats : ByteArray := prog_2_method_6_code
def yX0_eats : MethodName := ⟨RX0, "eats", "(I)I"⟩
def RX1 : String := "PromisedFish$Law"
def TX1 : u_T := fun k => match k with
  | 0 => ("PromisedFish$Law", "code", "[I", true)
  | 1 => ("PromisedFish$Law", "pile", "[I", true)
  | 2 => ("PromisedFish$Law", "length", "I", false)
  | _ => ("PromisedFish$Law", "stands", "Z", false)
def tyX1 : Nat → FieldType := fun k => match k with
  | 0 => .array .int
  | 1 => .array .int
  | 2 => .int
  | _ => .boolean
theorem nmX1 : ∀ a, a < 4 → ∀ b, b < 4 → a ≠ b → (TX1 a).2.1 ≠ (TX1 b).2.1 := by decide +kernel
theorem tyX1_ok : ∀ k, k < 4 → parseFieldDescriptor (TX1 k).2.2.1 = some (tyX1 k) := by decide +kernel
abbrev cX1_init : ByteArray := prog_3_method_1_code
def yX1_init : MethodName := ⟨RX1, "<init>", "()V"⟩
abbrev cX1_take : ByteArray := prog_3_method_2_code
def yX1_take : MethodName := ⟨RX1, "take", "([II)V"⟩
abbrev cX1_takeFrom : ByteArray := prog_3_method_3_code
def yX1_takeFrom : MethodName := ⟨RX1, "takeFrom", "(LPromisedFish$Law;)V"⟩
abbrev cX1_gives : ByteArray := prog_3_method_4_code
def yX1_gives : MethodName := ⟨RX1, "gives", "(III)I"⟩
abbrev cX1_joined : ByteArray := prog_3_method_5_code
def yX1_joined : MethodName := ⟨RX1, "joined", "(III)I"⟩
def RX2 : String := "PromisedFish$Quay"
def TX2 : u_T := fun k => match k with
  | 0 => ("PromisedFish$Quay", "sold", "[I", true)
  | 1 => ("PromisedFish$Quay", "asked", "[I", true)
  | 2 => ("PromisedFish$Quay", "fleet", "[LPromisedFish$Boat;", true)
  | 3 => ("PromisedFish$Quay", "laws", "[LPromisedFish$Law;", true)
  | 4 => ("PromisedFish$Quay", "tape", "[I", true)
  | 5 => ("PromisedFish$Quay", "waiting", "[I", true)
  | 6 => ("PromisedFish$Quay", "boats", "I", false)
  | 7 => ("PromisedFish$Quay", "waves", "I", false)
  | 8 => ("PromisedFish$Quay", "day", "I", false)
  | 9 => ("PromisedFish$Quay", "purse", "I", false)
  | 10 => ("PromisedFish$Quay", "owed", "I", false)
  | 11 => ("PromisedFish$Quay", "trust", "I", false)
  | 12 => ("PromisedFish$Quay", "taped", "I", false)
  | 13 => ("PromisedFish$Quay", "waits", "I", false)
  | _ => ("PromisedFish$Quay", "z", "I", false)
def tyX2 : Nat → FieldType := fun k => match k with
  | 0 => .array .int
  | 1 => .array .int
  | 2 => .array (.object "PromisedFish$Boat")
  | 3 => .array (.object "PromisedFish$Law")
  | 4 => .array .int
  | 5 => .array .int
  | 6 => .int
  | 7 => .int
  | 8 => .int
  | 9 => .int
  | 10 => .int
  | 11 => .int
  | 12 => .int
  | 13 => .int
  | _ => .int
theorem nmX2 : ∀ a, a < 15 → ∀ b, b < 15 → a ≠ b → (TX2 a).2.1 ≠ (TX2 b).2.1 := by decide +kernel
theorem tyX2_ok : ∀ k, k < 15 → parseFieldDescriptor (TX2 k).2.2.1 = some (tyX2 k) := by decide +kernel
abbrev cX2_init : ByteArray := prog_4_method_1_code
def yX2_init : MethodName := ⟨RX2, "<init>", "()V"⟩
abbrev cX2_takeFrom : ByteArray := prog_4_method_2_code
def yX2_takeFrom : MethodName := ⟨RX2, "takeFrom", "(LPromisedFish$Quay;)V"⟩
abbrev cX2_landed : ByteArray := prog_4_method_3_code
def yX2_landed : MethodName := ⟨RX2, "landed", "(IIIII)I"⟩
abbrev cX2_caught : ByteArray := prog_4_method_4_code
def yX2_caught : MethodName := ⟨RX2, "caught", "(IIII)I"⟩
abbrev cX2_caughtNow : ByteArray := prog_4_method_5_code
def yX2_caughtNow : MethodName := ⟨RX2, "caughtNow", "(I)I"⟩
abbrev cX2_coins : ByteArray := prog_4_method_6_code
def yX2_coins : MethodName := ⟨RX2, "coins", "(II)I"⟩
abbrev cX2_promise : ByteArray := prog_4_method_7_code
def yX2_promise : MethodName := ⟨RX2, "promise", "(II)I"⟩
abbrev cX2_settle : ByteArray := prog_4_method_8_code
def yX2_settle : MethodName := ⟨RX2, "settle", "()I"⟩
abbrev cX2_dayByDraws : ByteArray := prog_4_method_9_code
def yX2_dayByDraws : MethodName := ⟨RX2, "dayByDraws", "()I"⟩
abbrev cX2_draw : ByteArray := prog_4_method_10_code
def yX2_draw : MethodName := ⟨RX2, "draw", "()I"⟩
def RX3 : String := "PromisedFish$Reader"
def TX3 : u_T := fun k => match k with
  | 0 => ("PromisedFish$Reader", "code", "[I", true)
  | 1 => ("PromisedFish$Reader", "written", "I", false)
  | 2 => ("PromisedFish$Reader", "tape", "[I", true)
  | 3 => ("PromisedFish$Reader", "end", "I", false)
  | 4 => ("PromisedFish$Reader", "place", "I", false)
  | _ => ("PromisedFish$Reader", "use", "I", false)
def tyX3 : Nat → FieldType := fun k => match k with
  | 0 => .array .int
  | 1 => .int
  | 2 => .array .int
  | 3 => .int
  | 4 => .int
  | _ => .int
theorem nmX3 : ∀ a, a < 6 → ∀ b, b < 6 → a ≠ b → (TX3 a).2.1 ≠ (TX3 b).2.1 := by decide +kernel
theorem tyX3_ok : ∀ k, k < 6 → parseFieldDescriptor (TX3 k).2.2.1 = some (tyX3 k) := by decide +kernel
abbrev cX3_init : ByteArray := prog_5_method_1_code
def yX3_init : MethodName := ⟨RX3, "<init>", "()V"⟩
abbrev cX3_faultIn : ByteArray := prog_5_method_2_code
def yX3_faultIn : MethodName := ⟨RX3, "faultIn", "([III)I"⟩
abbrev cX3_readLevel : ByteArray := prog_5_method_3_code
def yX3_readLevel : MethodName := ⟨RX3, "readLevel", "(II)Z"⟩
abbrev cX3_readItem : ByteArray := prog_5_method_4_code
def yX3_readItem : MethodName := ⟨RX3, "readItem", "(I)Z"⟩
abbrev cX3_readDenied : ByteArray := prog_5_method_5_code
def yX3_readDenied : MethodName := ⟨RX3, "readDenied", "(I)Z"⟩
abbrev cX3_readBracketed : ByteArray := prog_5_method_6_code
def yX3_readBracketed : MethodName := ⟨RX3, "readBracketed", "(I)Z"⟩
abbrev cX3_readNumber : ByteArray := prog_5_method_7_code
def yX3_readNumber : MethodName := ⟨RX3, "readNumber", "()I"⟩
abbrev cX3_next : ByteArray := prog_5_method_8_code
def yX3_next : MethodName := ⟨RX3, "next", "()I"⟩
abbrev cX3_write : ByteArray := prog_5_method_9_code
def yX3_write : MethodName := ⟨RX3, "write", "(I)V"⟩
abbrev cX3_isDigit : ByteArray := prog_5_method_10_code
def yX3_isDigit : MethodName := ⟨RX3, "isDigit", "(I)Z"⟩
abbrev cX3_nameOf : ByteArray := prog_5_method_11_code
def yX3_nameOf : MethodName := ⟨RX3, "nameOf", "(I)I"⟩
abbrev cX3_levelOf : ByteArray := prog_5_method_12_code
def yX3_levelOf : MethodName := ⟨RX3, "levelOf", "(I)I"⟩
def RX4 : String := "PromisedFish$Sheet"
def TX4 : u_T := fun k => match k with
  | 0 => ("PromisedFish$Sheet", "numbers", "[I", true)
  | 1 => ("PromisedFish$Sheet", "bits", "I", false)
  | _ => ("PromisedFish$Sheet", "length", "I", false)
def tyX4 : Nat → FieldType := fun k => match k with
  | 0 => .array .int
  | 1 => .int
  | _ => .int
theorem nmX4 : ∀ a, a < 3 → ∀ b, b < 3 → a ≠ b → (TX4 a).2.1 ≠ (TX4 b).2.1 := by decide +kernel
theorem tyX4_ok : ∀ k, k < 3 → parseFieldDescriptor (TX4 k).2.2.1 = some (tyX4 k) := by decide +kernel
abbrev cX4_init : ByteArray := prog_6_method_1_code
def yX4_init : MethodName := ⟨RX4, "<init>", "()V"⟩
abbrev cX4_lay : ByteArray := prog_6_method_2_code
def yX4_lay : MethodName := ⟨RX4, "lay", "(II)V"⟩
abbrev cX4_isMissing : ByteArray := prog_6_method_3_code
def yX4_isMissing : MethodName := ⟨RX4, "isMissing", "()Z"⟩
abbrev cX4_has : ByteArray := prog_6_method_4_code
def yX4_has : MethodName := ⟨RX4, "has", "(II)Z"⟩
abbrev cX4_lowestBits : ByteArray := prog_6_method_5_code
def yX4_lowestBits : MethodName := ⟨RX4, "lowestBits", "(I)I"⟩
def RX5 : String := "PromisedFish$Thoughts"
def TX5 : u_T := fun k => match k with
  | _ => ("", "", "", false)
def tyX5 : Nat → FieldType := fun k => match k with
  | _ => .int
theorem nmX5 : ∀ a, a < 0 → ∀ b, b < 0 → a ≠ b → (TX5 a).2.1 ≠ (TX5 b).2.1 := by decide +kernel
theorem tyX5_ok : ∀ k, k < 0 → parseFieldDescriptor (TX5 k).2.2.1 = some (tyX5 k) := by decide +kernel
abbrev cX5_safest : ByteArray := prog_7_method_2_code
def yX5_safest : MethodName := ⟨RX5, "safest", "(LPromisedFish$Quay;I)I"⟩
abbrev cX5_isSafe : ByteArray := prog_7_method_3_code
def yX5_isSafe : MethodName := ⟨RX5, "isSafe", "(LPromisedFish$Quay;II)Z"⟩
abbrev cX5_bestToSell : ByteArray := prog_7_method_4_code
def yX5_bestToSell : MethodName := ⟨RX5, "bestToSell", "(LPromisedFish$Quay;I)I"⟩
abbrev cX5_gain : ByteArray := prog_7_method_5_code
def yX5_gain : MethodName := ⟨RX5, "gain", "(LPromisedFish$Quay;II)I"⟩
abbrev cX5_agreesWithItself : ByteArray := prog_7_method_6_code
def yX5_agreesWithItself : MethodName := ⟨RX5, "agreesWithItself", "(LPromisedFish$Quay;II)Z"⟩
abbrev cX5_howManyAgree : ByteArray := prog_7_method_7_code
def yX5_howManyAgree : MethodName := ⟨RX5, "howManyAgree", "(LPromisedFish$Quay;I)I"⟩
abbrev cX5_leastThatAgrees : ByteArray := prog_7_method_8_code
def yX5_leastThatAgrees : MethodName := ⟨RX5, "leastThatAgrees", "(LPromisedFish$Quay;I)I"⟩
abbrev cX5_fewestBoats : ByteArray := prog_7_method_9_code
def yX5_fewestBoats : MethodName := ⟨RX5, "fewestBoats", "(LPromisedFish$Quay;)I"⟩
abbrev cX5_isEnough : ByteArray := prog_7_method_10_code
def yX5_isEnough : MethodName := ⟨RX5, "isEnough", "(LPromisedFish$Quay;I)Z"⟩
abbrev cX5_daysUntil : ByteArray := prog_7_method_11_code
def yX5_daysUntil : MethodName := ⟨RX5, "daysUntil", "(LPromisedFish$Quay;II)I"⟩
abbrev cX5_seasThatDo : ByteArray := prog_7_method_12_code
def yX5_seasThatDo : MethodName := ⟨RX5, "seasThatDo", "(LPromisedFish$Quay;II)I"⟩
abbrev cX5_caughtInAllSeas : ByteArray := prog_7_method_13_code
def yX5_caughtInAllSeas : MethodName := ⟨RX5, "caughtInAllSeas", "(LPromisedFish$Quay;I)I"⟩
abbrev cX5_seasThatFit : ByteArray := prog_7_method_14_code
def yX5_seasThatFit : MethodName := ⟨RX5, "seasThatFit", "(LPromisedFish$Quay;LPromisedFish$Sheet;)I"⟩
abbrev cX5_isSoBy : ByteArray := prog_7_method_15_code
def yX5_isSoBy : MethodName := ⟨RX5, "isSoBy", "(LPromisedFish$Quay;LPromisedFish$Sheet;I)Z"⟩
abbrev cX5_partOfTenths : ByteArray := prog_7_method_16_code
def yX5_partOfTenths : MethodName := ⟨RX5, "partOfTenths", "(II)I"⟩
def RX6 : String := "PromisedFish$Voices"
def TX6 : u_T := fun k => match k with
  | 0 => ("PromisedFish$Voices", "trace", "[I", true)
  | 1 => ("PromisedFish$Voices", "traced", "I", false)
  | 2 => ("PromisedFish$Voices", "parted", "Z", false)
  | 3 => ("PromisedFish$Voices", "kind", "I", false)
  | 4 => ("PromisedFish$Voices", "k", "I", false)
  | _ => ("PromisedFish$Voices", "m", "I", false)
def tyX6 : Nat → FieldType := fun k => match k with
  | 0 => .array .int
  | 1 => .int
  | 2 => .boolean
  | 3 => .int
  | 4 => .int
  | _ => .int
theorem nmX6 : ∀ a, a < 6 → ∀ b, b < 6 → a ≠ b → (TX6 a).2.1 ≠ (TX6 b).2.1 := by decide +kernel
theorem tyX6_ok : ∀ k, k < 6 → parseFieldDescriptor (TX6 k).2.2.1 = some (tyX6 k) := by decide +kernel
abbrev cX6_init : ByteArray := prog_8_method_1_code
def yX6_init : MethodName := ⟨RX6, "<init>", "()V"⟩
abbrev cX6_hear : ByteArray := prog_8_method_2_code
def yX6_hear : MethodName := ⟨RX6, "hear", "(LPromisedFish$Boat;III)I"⟩
abbrev cX6_speak : ByteArray := prog_8_method_3_code
def yX6_speak : MethodName := ⟨RX6, "speak", "(IIII)I"⟩
abbrev cX6_say : ByteArray := prog_8_method_4_code
def yX6_say : MethodName := ⟨RX6, "say", "(IIII)I"⟩
abbrev cX6_part : ByteArray := prog_8_method_5_code
def yX6_part : MethodName := ⟨RX6, "part", "(I)I"⟩
def RX7 : String := "PromisedFish"
def TX7 : u_T := fun k => match k with
  | 0 => ("PromisedFish", "now", "LPromisedFish$Quay;", true)
  | 1 => ("PromisedFish", "kept", "LPromisedFish$Quay;", true)
  | 2 => ("PromisedFish", "reader", "LPromisedFish$Reader;", true)
  | 3 => ("PromisedFish", "voices", "LPromisedFish$Voices;", true)
  | 4 => ("PromisedFish", "sheets", "[LPromisedFish$Sheet;", true)
  | 5 => ("PromisedFish", "refused", "[I", true)
  | _ => ("PromisedFish", "images", "I", false)
def tyX7 : Nat → FieldType := fun k => match k with
  | 0 => .object "PromisedFish$Quay"
  | 1 => .object "PromisedFish$Quay"
  | 2 => .object "PromisedFish$Reader"
  | 3 => .object "PromisedFish$Voices"
  | 4 => .array (.object "PromisedFish$Sheet")
  | 5 => .array .int
  | _ => .int
theorem nmX7 : ∀ a, a < 7 → ∀ b, b < 7 → a ≠ b → (TX7 a).2.1 ≠ (TX7 b).2.1 := by decide +kernel
theorem tyX7_ok : ∀ k, k < 7 → parseFieldDescriptor (TX7 k).2.2.1 = some (tyX7 k) := by decide +kernel
abbrev cX7_init : ByteArray := prog_1_method_1_code
def yX7_init : MethodName := ⟨RX7, "<init>", "()V"⟩
abbrev cX7_boat : ByteArray := prog_1_method_2_code
def yX7_boat : MethodName := ⟨RX7, "boat", "(I)I"⟩
abbrev cX7_boatIs : ByteArray := prog_1_method_3_code
def yX7_boatIs : MethodName := ⟨RX7, "boatIs", "(II)I"⟩
abbrev cX7_become : ByteArray := prog_1_method_4_code
def yX7_become : MethodName := ⟨RX7, "become", "(II)I"⟩
abbrev cX7_as : ByteArray := prog_1_method_5_code
def yX7_as : MethodName := ⟨RX7, "as", "(II)I"⟩
abbrev cX7_lose : ByteArray := prog_1_method_6_code
def yX7_lose : MethodName := ⟨RX7, "lose", "(II)I"⟩
abbrev cX7_rises : ByteArray := prog_1_method_7_code
def yX7_rises : MethodName := ⟨RX7, "rises", "(I)I"⟩
abbrev cX7_price : ByteArray := prog_1_method_8_code
def yX7_price : MethodName := ⟨RX7, "price", "(II)I"⟩
abbrev cX7_sell : ByteArray := prog_1_method_9_code
def yX7_sell : MethodName := ⟨RX7, "sell", "(II)I"⟩
abbrev cX7_feed : ByteArray := prog_1_method_10_code
def yX7_feed : MethodName := ⟨RX7, "feed", "(JI)I"⟩
abbrev cX7_text : ByteArray := prog_1_method_11_code
def yX7_text : MethodName := ⟨RX7, "text", "(I)I"⟩
abbrev cX7_untell : ByteArray := prog_1_method_12_code
def yX7_untell : MethodName := ⟨RX7, "untell", "(I)I"⟩
abbrev cX7_law : ByteArray := prog_1_method_13_code
def yX7_law : MethodName := ⟨RX7, "law", "(IIII)I"⟩
abbrev cX7_tally : ByteArray := prog_1_method_14_code
def yX7_tally : MethodName := ⟨RX7, "tally", "()I"⟩
abbrev cX7_loose : ByteArray := prog_1_method_15_code
def yX7_loose : MethodName := ⟨RX7, "loose", "(I)I"⟩
abbrev cX7_seed : ByteArray := prog_1_method_16_code
def yX7_seed : MethodName := ⟨RX7, "seed", "(I)I"⟩
abbrev cX7_catches : ByteArray := prog_1_method_17_code
def yX7_catches : MethodName := ⟨RX7, "catches", "(I)I"⟩
abbrev cX7_safe : ByteArray := prog_1_method_18_code
def yX7_safe : MethodName := ⟨RX7, "safe", "(I)I"⟩
abbrev cX7_best : ByteArray := prog_1_method_19_code
def yX7_best : MethodName := ⟨RX7, "best", "(II)I"⟩
abbrev cX7_agrees : ByteArray := prog_1_method_20_code
def yX7_agrees : MethodName := ⟨RX7, "agrees", "(II)I"⟩
abbrev cX7_needs : ByteArray := prog_1_method_21_code
def yX7_needs : MethodName := ⟨RX7, "needs", "(I)I"⟩
abbrev cX7_soonest : ByteArray := prog_1_method_22_code
def yX7_soonest : MethodName := ⟨RX7, "soonest", "(II)I"⟩
abbrev cX7_odds : ByteArray := prog_1_method_23_code
def yX7_odds : MethodName := ⟨RX7, "odds", "(III)I"⟩
abbrev cX7_mean : ByteArray := prog_1_method_24_code
def yX7_mean : MethodName := ⟨RX7, "mean", "(II)I"⟩
abbrev cX7_fits : ByteArray := prog_1_method_25_code
def yX7_fits : MethodName := ⟨RX7, "fits", "(II)I"⟩
abbrev cX7_voice : ByteArray := prog_1_method_26_code
def yX7_voice : MethodName := ⟨RX7, "voice", "(III)I"⟩
abbrev cX7_body : ByteArray := prog_1_method_27_code
def yX7_body : MethodName := ⟨RX7, "body", "(I)I"⟩
abbrev cX7_sheet : ByteArray := prog_1_method_28_code
def yX7_sheet : MethodName := ⟨RX7, "sheet", "(III)I"⟩
abbrev cX7_put : ByteArray := prog_1_method_29_code
def yX7_put : MethodName := ⟨RX7, "put", "(III)I"⟩
abbrev cX7_move : ByteArray := prog_1_method_30_code
def yX7_move : MethodName := ⟨RX7, "move", "(IIIII)I"⟩
abbrev cX7_prices : ByteArray := prog_1_method_31_code
def yX7_prices : MethodName := ⟨RX7, "prices", "(I)I"⟩
abbrev cX7_judge : ByteArray := prog_1_method_32_code
def yX7_judge : MethodName := ⟨RX7, "judge", "(I)I"⟩
abbrev cX7_image : ByteArray := prog_1_method_33_code
def yX7_image : MethodName := ⟨RX7, "image", "()I"⟩
abbrev cX7_restore : ByteArray := prog_1_method_34_code
def yX7_restore : MethodName := ⟨RX7, "restore", "()I"⟩
abbrev cX7_tell : ByteArray := prog_1_method_35_code
def yX7_tell : MethodName := ⟨RX7, "tell", "(I)I"⟩
abbrev cX7_check : ByteArray := prog_1_method_36_code
def yX7_check : MethodName := ⟨RX7, "check", "()I"⟩
abbrev cX7_count : ByteArray := prog_1_method_37_code
def yX7_count : MethodName := ⟨RX7, "count", "(I)I"⟩
abbrev cX7_told : ByteArray := prog_1_method_38_code
def yX7_told : MethodName := ⟨RX7, "told", "(I)I"⟩
abbrev cX7_refuse : ByteArray := prog_1_method_39_code
def yX7_refuse : MethodName := ⟨RX7, "refuse", "(I)I"⟩
abbrev cX7_isWithin : ByteArray := prog_1_method_40_code
def yX7_isWithin : MethodName := ⟨RX7, "isWithin", "(II)Z"⟩
abbrev cX7_isFish : ByteArray := prog_1_method_41_code
def yX7_isFish : MethodName := ⟨RX7, "isFish", "(I)Z"⟩
abbrev cX7_isUse : ByteArray := prog_1_method_42_code
def yX7_isUse : MethodName := ⟨RX7, "isUse", "(I)Z"⟩
abbrev cX7_isSheet : ByteArray := prog_1_method_43_code
def yX7_isSheet : MethodName := ⟨RX7, "isSheet", "(I)Z"⟩
abbrev cX7_isKindWithNumber : ByteArray := prog_1_method_44_code
def yX7_isKindWithNumber : MethodName := ⟨RX7, "isKindWithNumber", "(I)Z"⟩
abbrev cX7_isBoat : ByteArray := prog_1_method_45_code
def yX7_isBoat : MethodName := ⟨RX7, "isBoat", "(I)Z"⟩
abbrev cX7_held : ByteArray := prog_1_method_46_code
def yX7_held : MethodName := ⟨RX7, "held", "(III)I"⟩
def RX8 : String := "PromisedFishModel"
def TX8 : u_T := fun k => match k with
  | 0 => ("PromisedFishModel", "row", "[I", true)
  | 1 => ("PromisedFishModel", "kept", "[I", true)
  | 2 => ("PromisedFishModel", "images", "I", false)
  | 3 => ("PromisedFishModel", "errors", "[I", true)
  | 4 => ("PromisedFishModel", "bitsOf", "[I", true)
  | 5 => ("PromisedFishModel", "sizeOf", "[I", true)
  | 6 => ("PromisedFishModel", "cells", "[I", true)
  | 7 => ("PromisedFishModel", "act", "[I", true)
  | 8 => ("PromisedFishModel", "with", "[I", true)
  | 9 => ("PromisedFishModel", "facts", "[I", true)
  | 10 => ("PromisedFishModel", "pile", "[I", true)
  | 11 => ("PromisedFishModel", "laid", "I", false)
  | 12 => ("PromisedFishModel", "here", "I", false)
  | 13 => ("PromisedFishModel", "opened", "I", false)
  | 14 => ("PromisedFishModel", "bad", "Z", false)
  | 15 => ("PromisedFishModel", "using", "I", false)
  | 16 => ("PromisedFishModel", "landing", "[I", true)
  | 17 => ("PromisedFishModel", "trace", "[I", true)
  | 18 => ("PromisedFishModel", "traced", "I", false)
  | _ => ("PromisedFishModel", "isParted", "Z", false)
def tyX8 : Nat → FieldType := fun k => match k with
  | 0 => .array .int
  | 1 => .array .int
  | 2 => .int
  | 3 => .array .int
  | 4 => .array .int
  | 5 => .array .int
  | 6 => .array .int
  | 7 => .array .int
  | 8 => .array .int
  | 9 => .array .int
  | 10 => .array .int
  | 11 => .int
  | 12 => .int
  | 13 => .int
  | 14 => .boolean
  | 15 => .int
  | 16 => .array .int
  | 17 => .array .int
  | 18 => .int
  | _ => .boolean
theorem nmX8 : ∀ a, a < 20 → ∀ b, b < 20 → a ≠ b → (TX8 a).2.1 ≠ (TX8 b).2.1 := by decide +kernel
theorem tyX8_ok : ∀ k, k < 20 → parseFieldDescriptor (TX8 k).2.2.1 = some (tyX8 k) := by decide +kernel
abbrev cX8_init : ByteArray := prog_10_method_1_code
def yX8_init : MethodName := ⟨RX8, "<init>", "()V"⟩
abbrev cX8_error : ByteArray := prog_10_method_2_code
def yX8_error : MethodName := ⟨RX8, "error", "(I)I"⟩
abbrev cX8_in : ByteArray := prog_10_method_3_code
def yX8_in : MethodName := ⟨RX8, "in", "(III)Z"⟩
abbrev cX8_held : ByteArray := prog_10_method_4_code
def yX8_held : MethodName := ⟨RX8, "held", "(III)I"⟩
abbrev cX8_copyAll : ByteArray := prog_10_method_5_code
def yX8_copyAll : MethodName := ⟨RX8, "copyAll", "([I[I)V"⟩
abbrev cX8_bits : ByteArray := prog_10_method_6_code
def yX8_bits : MethodName := ⟨RX8, "bits", "(I)I"⟩
abbrev cX8_isBoat : ByteArray := prog_10_method_7_code
def yX8_isBoat : MethodName := ⟨RX8, "isBoat", "(I)Z"⟩
abbrev cX8_isFish : ByteArray := prog_10_method_8_code
def yX8_isFish : MethodName := ⟨RX8, "isFish", "(I)Z"⟩
abbrev cX8_becomes : ByteArray := prog_10_method_9_code
def yX8_becomes : MethodName := ⟨RX8, "becomes", "(II)I"⟩
abbrev cX8_of : ByteArray := prog_10_method_10_code
def yX8_of : MethodName := ⟨RX8, "of", "(II)I"⟩
abbrev cX8_haulsOf : ByteArray := prog_10_method_11_code
def yX8_haulsOf : MethodName := ⟨RX8, "haulsOf", "(II)I"⟩
abbrev cX8_eatsOf : ByteArray := prog_10_method_12_code
def yX8_eatsOf : MethodName := ⟨RX8, "eatsOf", "(I)I"⟩
abbrev cX8_landsOf : ByteArray := prog_10_method_13_code
def yX8_landsOf : MethodName := ⟨RX8, "landsOf", "(III)I"⟩
abbrev cX8_catchBy : ByteArray := prog_10_method_14_code
def yX8_catchBy : MethodName := ⟨RX8, "catchBy", "(II)I"⟩
abbrev cX8_catchOf : ByteArray := prog_10_method_15_code
def yX8_catchOf : MethodName := ⟨RX8, "catchOf", "(I)I"⟩
abbrev cX8_shortBy : ByteArray := prog_10_method_16_code
def yX8_shortBy : MethodName := ⟨RX8, "shortBy", "(II)I"⟩
abbrev cX8_coinsFor : ByteArray := prog_10_method_17_code
def yX8_coinsFor : MethodName := ⟨RX8, "coinsFor", "(II)I"⟩
abbrev cX8_isKm : ByteArray := prog_10_method_18_code
def yX8_isKm : MethodName := ⟨RX8, "isKm", "(I)Z"⟩
abbrev cX8_boat : ByteArray := prog_10_method_19_code
def yX8_boat : MethodName := ⟨RX8, "boat", "(I)I"⟩
abbrev cX8_boatIs : ByteArray := prog_10_method_20_code
def yX8_boatIs : MethodName := ⟨RX8, "boatIs", "(II)I"⟩
abbrev cX8_become : ByteArray := prog_10_method_21_code
def yX8_become : MethodName := ⟨RX8, "become", "(II)I"⟩
abbrev cX8_as : ByteArray := prog_10_method_22_code
def yX8_as : MethodName := ⟨RX8, "as", "(II)I"⟩
abbrev cX8_lose : ByteArray := prog_10_method_23_code
def yX8_lose : MethodName := ⟨RX8, "lose", "(II)I"⟩
abbrev cX8_rises : ByteArray := prog_10_method_24_code
def yX8_rises : MethodName := ⟨RX8, "rises", "(I)I"⟩
abbrev cX8_price : ByteArray := prog_10_method_25_code
def yX8_price : MethodName := ⟨RX8, "price", "(II)I"⟩
abbrev cX8_sells : ByteArray := prog_10_method_26_code
def yX8_sells : MethodName := ⟨RX8, "sells", "(II)I"⟩
abbrev cX8_sell : ByteArray := prog_10_method_27_code
def yX8_sell : MethodName := ⟨RX8, "sell", "(II)I"⟩
abbrev cX8_feed : ByteArray := prog_10_method_28_code
def yX8_feed : MethodName := ⟨RX8, "feed", "(JI)I"⟩
abbrev cX8_look : ByteArray := prog_10_method_29_code
def yX8_look : MethodName := ⟨RX8, "look", "()I"⟩
abbrev cX8_lays : ByteArray := prog_10_method_30_code
def yX8_lays : MethodName := ⟨RX8, "lays", "(II)V"⟩
abbrev cX8_nameOf : ByteArray := prog_10_method_31_code
def yX8_nameOf : MethodName := ⟨RX8, "nameOf", "(I)I"⟩
abbrev cX8_number : ByteArray := prog_10_method_32_code
def yX8_number : MethodName := ⟨RX8, "number", "()V"⟩
abbrev cX8_opens : ByteArray := prog_10_method_33_code
def yX8_opens : MethodName := ⟨RX8, "opens", "(I)V"⟩
abbrev cX8_one : ByteArray := prog_10_method_34_code
def yX8_one : MethodName := ⟨RX8, "one", "()V"⟩
abbrev cX8_times : ByteArray := prog_10_method_35_code
def yX8_times : MethodName := ⟨RX8, "times", "()V"⟩
abbrev cX8_sum : ByteArray := prog_10_method_36_code
def yX8_sum : MethodName := ⟨RX8, "sum", "()V"⟩
abbrev cX8_compares : ByteArray := prog_10_method_37_code
def yX8_compares : MethodName := ⟨RX8, "compares", "()V"⟩
abbrev cX8_all : ByteArray := prog_10_method_38_code
def yX8_all : MethodName := ⟨RX8, "all", "()V"⟩
abbrev cX8_any : ByteArray := prog_10_method_39_code
def yX8_any : MethodName := ⟨RX8, "any", "()V"⟩
abbrev cX8_text : ByteArray := prog_10_method_40_code
def yX8_text : MethodName := ⟨RX8, "text", "(I)I"⟩
abbrev cX8_untell : ByteArray := prog_10_method_41_code
def yX8_untell : MethodName := ⟨RX8, "untell", "(I)I"⟩
abbrev cX8_twoOf : ByteArray := prog_10_method_42_code
def yX8_twoOf : MethodName := ⟨RX8, "twoOf", "(III)I"⟩
abbrev cX8_works : ByteArray := prog_10_method_43_code
def yX8_works : MethodName := ⟨RX8, "works", "(I)I"⟩
abbrev cX8_gives : ByteArray := prog_10_method_44_code
def yX8_gives : MethodName := ⟨RX8, "gives", "(IIII)I"⟩
abbrev cX8_law : ByteArray := prog_10_method_45_code
def yX8_law : MethodName := ⟨RX8, "law", "(IIII)I"⟩
abbrev cX8_pays : ByteArray := prog_10_method_46_code
def yX8_pays : MethodName := ⟨RX8, "pays", "(I)V"⟩
abbrev cX8_tallies : ByteArray := prog_10_method_47_code
def yX8_tallies : MethodName := ⟨RX8, "tallies", "()I"⟩
abbrev cX8_tally : ByteArray := prog_10_method_48_code
def yX8_tally : MethodName := ⟨RX8, "tally", "()I"⟩
abbrev cX8_draw : ByteArray := prog_10_method_49_code
def yX8_draw : MethodName := ⟨RX8, "draw", "()I"⟩
abbrev cX8_drawn : ByteArray := prog_10_method_50_code
def yX8_drawn : MethodName := ⟨RX8, "drawn", "()I"⟩
abbrev cX8_loose : ByteArray := prog_10_method_51_code
def yX8_loose : MethodName := ⟨RX8, "loose", "(I)I"⟩
abbrev cX8_seed : ByteArray := prog_10_method_52_code
def yX8_seed : MethodName := ⟨RX8, "seed", "(I)I"⟩
abbrev cX8_catches : ByteArray := prog_10_method_53_code
def yX8_catches : MethodName := ⟨RX8, "catches", "(I)I"⟩
abbrev cX8_enough : ByteArray := prog_10_method_54_code
def yX8_enough : MethodName := ⟨RX8, "enough", "(II)I"⟩
abbrev cX8_safe : ByteArray := prog_10_method_55_code
def yX8_safe : MethodName := ⟨RX8, "safe", "(I)I"⟩
abbrev cX8_shortest : ByteArray := prog_10_method_56_code
def yX8_shortest : MethodName := ⟨RX8, "shortest", "(II)I"⟩
abbrev cX8_best : ByteArray := prog_10_method_57_code
def yX8_best : MethodName := ⟨RX8, "best", "(II)I"⟩
abbrev cX8_agrees : ByteArray := prog_10_method_58_code
def yX8_agrees : MethodName := ⟨RX8, "agrees", "(II)I"⟩
abbrev cX8_isEnough : ByteArray := prog_10_method_59_code
def yX8_isEnough : MethodName := ⟨RX8, "isEnough", "(I)Z"⟩
abbrev cX8_needs : ByteArray := prog_10_method_60_code
def yX8_needs : MethodName := ⟨RX8, "needs", "(I)I"⟩
abbrev cX8_soonest : ByteArray := prog_10_method_61_code
def yX8_soonest : MethodName := ⟨RX8, "soonest", "(II)I"⟩
abbrev cX8_partOf : ByteArray := prog_10_method_62_code
def yX8_partOf : MethodName := ⟨RX8, "partOf", "(III)I"⟩
abbrev cX8_odds : ByteArray := prog_10_method_63_code
def yX8_odds : MethodName := ⟨RX8, "odds", "(III)I"⟩
abbrev cX8_mean : ByteArray := prog_10_method_64_code
def yX8_mean : MethodName := ⟨RX8, "mean", "(II)I"⟩
abbrev cX8_rightOf : ByteArray := prog_10_method_65_code
def yX8_rightOf : MethodName := ⟨RX8, "rightOf", "(I)I"⟩
abbrev cX8_fits : ByteArray := prog_10_method_66_code
def yX8_fits : MethodName := ⟨RX8, "fits", "(II)I"⟩
abbrev cX8_begins : ByteArray := prog_10_method_67_code
def yX8_begins : MethodName := ⟨RX8, "begins", "(I)V"⟩
abbrev cX8_plainCalls : ByteArray := prog_10_method_68_code
def yX8_plainCalls : MethodName := ⟨RX8, "plainCalls", "(II)I"⟩
abbrev cX8_smackCalls : ByteArray := prog_10_method_69_code
def yX8_smackCalls : MethodName := ⟨RX8, "smackCalls", "(II)I"⟩
abbrev cX8_calls : ByteArray := prog_10_method_70_code
def yX8_calls : MethodName := ⟨RX8, "calls", "(II)I"⟩
abbrev cX8_plainHauls : ByteArray := prog_10_method_71_code
def yX8_plainHauls : MethodName := ⟨RX8, "plainHauls", "(II)I"⟩
abbrev cX8_skiffHauls : ByteArray := prog_10_method_72_code
def yX8_skiffHauls : MethodName := ⟨RX8, "skiffHauls", "(II)I"⟩
abbrev cX8_hauls : ByteArray := prog_10_method_73_code
def yX8_hauls : MethodName := ⟨RX8, "hauls", "(II)I"⟩
abbrev cX8_plainLets : ByteArray := prog_10_method_74_code
def yX8_plainLets : MethodName := ⟨RX8, "plainLets", "(II)I"⟩
abbrev cX8_letsBy : ByteArray := prog_10_method_75_code
def yX8_letsBy : MethodName := ⟨RX8, "letsBy", "(II)I"⟩
abbrev cX8_plainParts : ByteArray := prog_10_method_76_code
def yX8_plainParts : MethodName := ⟨RX8, "plainParts", "(II)I"⟩
abbrev cX8_partsBy : ByteArray := prog_10_method_77_code
def yX8_partsBy : MethodName := ⟨RX8, "partsBy", "(II)I"⟩
abbrev cX8_voice : ByteArray := prog_10_method_78_code
def yX8_voice : MethodName := ⟨RX8, "voice", "(III)I"⟩
abbrev cX8_body : ByteArray := prog_10_method_79_code
def yX8_body : MethodName := ⟨RX8, "body", "(I)I"⟩
abbrev cX8_isSheet : ByteArray := prog_10_method_80_code
def yX8_isSheet : MethodName := ⟨RX8, "isSheet", "(I)Z"⟩
abbrev cX8_sheet : ByteArray := prog_10_method_81_code
def yX8_sheet : MethodName := ⟨RX8, "sheet", "(III)I"⟩
abbrev cX8_notThere : ByteArray := prog_10_method_82_code
def yX8_notThere : MethodName := ⟨RX8, "notThere", "(I)I"⟩
abbrev cX8_put : ByteArray := prog_10_method_83_code
def yX8_put : MethodName := ⟨RX8, "put", "(III)I"⟩
abbrev cX8_notMoved : ByteArray := prog_10_method_84_code
def yX8_notMoved : MethodName := ⟨RX8, "notMoved", "(IIIII)I"⟩
abbrev cX8_move : ByteArray := prog_10_method_85_code
def yX8_move : MethodName := ⟨RX8, "move", "(IIIII)I"⟩
abbrev cX8_prices : ByteArray := prog_10_method_86_code
def yX8_prices : MethodName := ⟨RX8, "prices", "(I)I"⟩
abbrev cX8_judge : ByteArray := prog_10_method_87_code
def yX8_judge : MethodName := ⟨RX8, "judge", "(I)I"⟩
abbrev cX8_image : ByteArray := prog_10_method_88_code
def yX8_image : MethodName := ⟨RX8, "image", "()I"⟩
abbrev cX8_restore : ByteArray := prog_10_method_89_code
def yX8_restore : MethodName := ⟨RX8, "restore", "()I"⟩
abbrev cX8_tell : ByteArray := prog_10_method_90_code
def yX8_tell : MethodName := ⟨RX8, "tell", "(I)I"⟩
abbrev cX8_check : ByteArray := prog_10_method_91_code
def yX8_check : MethodName := ⟨RX8, "check", "()I"⟩
abbrev cX8_count : ByteArray := prog_10_method_92_code
def yX8_count : MethodName := ⟨RX8, "count", "(I)I"⟩
abbrev cX8_told : ByteArray := prog_10_method_93_code
def yX8_told : MethodName := ⟨RX8, "told", "(I)I"⟩
def RJx145de : String := "java/io/Serializable"
def TJx145de : u_T := fun k => match k with
  | _ => ("", "", "", false)
def tyJx145de : Nat → FieldType := fun k => match k with
  | _ => .int
def RJx9f9b0 : String := "java/lang/CharSequence"
def TJx9f9b0 : u_T := fun k => match k with
  | _ => ("", "", "", false)
def tyJx9f9b0 : Nat → FieldType := fun k => match k with
  | _ => .int
def RJxb160c : String := "java/lang/Comparable"
def TJxb160c : u_T := fun k => match k with
  | _ => ("", "", "", false)
def tyJxb160c : Nat → FieldType := fun k => match k with
  | _ => .int
def RJ6 : String := "java/lang/Integer"
def TJ6 : u_T := fun k => match k with
  | _ => ("", "", "", false)
def tyJ6 : Nat → FieldType := fun k => match k with
  | _ => .int
abbrev cJ6_numberOfTrailingZeros_0f7a4 : ByteArray := prog_11_method_48_code
def yJ6_numberOfTrailingZeros_0f7a4 : MethodName := ⟨RJ6, "numberOfTrailingZeros", "(I)I"⟩
abbrev cJ6_bitCount_0f7a4 : ByteArray := prog_11_method_49_code
def yJ6_bitCount_0f7a4 : MethodName := ⟨RJ6, "bitCount", "(I)I"⟩
def RJ9 : String := "java/lang/Math"
def TJ9 : u_T := fun k => match k with
  | _ => ("", "", "", false)
def tyJ9 : Nat → FieldType := fun k => match k with
  | _ => .int
abbrev cJ9_max_7cf53 : ByteArray := prog_12_method_65_code
def yJ9_max_7cf53 : MethodName := ⟨RJ9, "max", "(II)I"⟩
abbrev cJ9_min_7cf53 : ByteArray := prog_12_method_69_code
def yJ9_min_7cf53 : MethodName := ⟨RJ9, "min", "(II)I"⟩
def RJ0 : String := "java/lang/String"
def TJ0 : u_T := fun k => match k with
  | _ => ("", "", "", false)
def tyJ0 : Nat → FieldType := fun k => match k with
  | _ => .int
abbrev cJ0_length_8abf5 : ByteArray := prog_13_method_54_code
def yJ0_length_8abf5 : MethodName := ⟨RJ0, "length", "()I"⟩
abbrev cJ0_charAt_5068e : ByteArray := prog_13_method_56_code
def yJ0_charAt_5068e : MethodName := ⟨RJ0, "charAt", "(I)C"⟩
abbrev cJ0_coder_7d493 : ByteArray := prog_13_method_152_code
def yJ0_coder_7d493 : MethodName := ⟨RJ0, "coder", "()B"⟩
abbrev cJ0_isLatin1_aae02 : ByteArray := prog_13_method_154_code
def yJ0_isLatin1_aae02 : MethodName := ⟨RJ0, "isLatin1", "()Z"⟩
abbrev cJ0_checkIndex_df160 : ByteArray := prog_13_method_155_code
def yJ0_checkIndex_df160 : MethodName := ⟨RJ0, "checkIndex", "(II)V"⟩
def RJ1 : String := "java/lang/StringLatin1"
def TJ1 : u_T := fun k => match k with
  | _ => ("", "", "", false)
def tyJ1 : Nat → FieldType := fun k => match k with
  | _ => .int
abbrev cJ1_charAt_3b067 : ByteArray := prog_14_method_2_code
def yJ1_charAt_3b067 : MethodName := ⟨RJ1, "charAt", "([BI)C"⟩
def RJ2 : String := "java/lang/StringUTF16"
def TJ2 : u_T := fun k => match k with
  | _ => ("", "", "", false)
def tyJ2 : Nat → FieldType := fun k => match k with
  | _ => .int
abbrev cJ2_getChar_3b067 : ByteArray := prog_15_method_5_code
def yJ2_getChar_3b067 : MethodName := ⟨RJ2, "getChar", "([BI)C"⟩
abbrev cJ2_length_9d52b : ByteArray := prog_15_method_6_code
def yJ2_length_9d52b : MethodName := ⟨RJ2, "length", "([B)I"⟩
abbrev cJ2_charAt_3b067 : ByteArray := prog_15_method_83_code
def yJ2_charAt_3b067 : MethodName := ⟨RJ2, "charAt", "([BI)C"⟩
abbrev cJ2_checkIndex_2214a : ByteArray := prog_15_method_91_code
def yJ2_checkIndex_2214a : MethodName := ⟨RJ2, "checkIndex", "(I[B)V"⟩
def RJ10 : String := "java/lang/System"
def TJ10 : u_T := fun k => match k with
  | _ => ("", "", "", false)
def tyJ10 : Nat → FieldType := fun k => match k with
  | _ => .int
def RJxfd54e : String := "java/lang/constant/Constable"
def TJxfd54e : u_T := fun k => match k with
  | _ => ("", "", "", false)
def tyJxfd54e : Nat → FieldType := fun k => match k with
  | _ => .int
def RJx3cf43 : String := "java/lang/constant/ConstantDesc"
def TJx3cf43 : u_T := fun k => match k with
  | _ => ("", "", "", false)
def tyJx3cf43 : Nat → FieldType := fun k => match k with
  | _ => .int
def RJ7 : String := "java/util/Arrays"
def TJ7 : u_T := fun k => match k with
  | _ => ("", "", "", false)
def tyJ7 : Nat → FieldType := fun k => match k with
  | _ => .int
abbrev cJ7_fill_53178 : ByteArray := prog_17_method_103_code
def yJ7_fill_53178 : MethodName := ⟨RJ7, "fill", "([II)V"⟩
def RJ3 : String := "jdk/internal/util/Preconditions"
def TJ3 : u_T := fun k => match k with
  | _ => ("", "", "", false)
def tyJ3 : Nat → FieldType := fun k => match k with
  | _ => .int
abbrev cJ3_checkIndex_8e157 : ByteArray := prog_18_method_11_code
def yJ3_checkIndex_8e157 : MethodName := ⟨RJ3, "checkIndex", "(IILjava/util/function/BiFunction;)I"⟩
def RL : String := "PromisedFishLaw"
abbrev cL_law : ByteArray := code
def yL_law : MethodName := ⟨RL, "law", "([I)Z"⟩
abbrev vwCl : List vw_C := [(RX0, TX0, 3), (RX1, TX1, 4), (RX2, TX2, 15), (RX3, TX3, 6), (RX4, TX4, 3), (RX6, TX6, 6), (RX7, TX7, 7), (RX8, TX8, 20)]
end
section
section CORE
/-- the fixed shape of all cells that the two constructors make: kind (0 a row of ints, 1 an object, 2 a row of references), number of its type or class, size, references by place -/
abbrev sk_E : Type := Nat × Nat × Nat × List (Option Nat)
def sk_T : List sk_E := [(1, 6, 7, [some 1, some 2, some 3, some 4, some 5, some 6]), (1, 2, 15, [some 18, some 19, some 20, some 21, some 22, some 23]), (1, 2, 15, [some 36, some 37, some 38, some 39, some 40, some 41]), (1, 3, 6, [some 15, none, some 16]), (1, 5, 6, [some 17]), (2, 3, 4, [some 7, some 8, some 9, some 10]), (0, 0, 7, []), (1, 4, 3, [some 11]), (1, 4, 3, [some 12]), (1, 4, 3, [some 13]), (1, 4, 3, [some 14]), (0, 0, 24, []), (0, 0, 24, []), (0, 0, 24, []), (0, 0, 24, []), (0, 0, 60, []), (0, 0, 60, []), (0, 0, 30, []), (0, 0, 4, []), (0, 0, 4, []), (2, 1, 6, [some 24, some 25, some 26, some 27, some 28, some 29]), (2, 2, 2, [some 30, some 31]), (0, 0, 60, []), (0, 0, 24, []), (1, 0, 3, []), (1, 0, 3, []), (1, 0, 3, []), (1, 0, 3, []), (1, 0, 3, []), (1, 0, 3, []), (1, 1, 4, [some 32, some 34]), (1, 1, 4, [some 33, some 35]), (0, 0, 60, []), (0, 0, 60, []), (0, 0, 60, []), (0, 0, 60, []), (0, 0, 4, []), (0, 0, 4, []), (2, 1, 6, [some 42, some 43, some 44, some 45, some 46, some 47]), (2, 2, 2, [some 48, some 49]), (0, 0, 60, []), (0, 0, 24, []), (1, 0, 3, []), (1, 0, 3, []), (1, 0, 3, []), (1, 0, 3, []), (1, 0, 3, []), (1, 0, 3, []), (1, 1, 4, [some 50, some 52]), (1, 1, 4, [some 51, some 53]), (0, 0, 60, []), (0, 0, 60, []), (0, 0, 60, []), (0, 0, 60, []), (1, 7, 20, [some 55, some 56, none, some 57, some 58, some 59, some 60, some 61, some 62, some 63, some 64, none, none, none, none, none, some 65, some 66]), (0, 0, 361, []), (0, 0, 361, []), (0, 0, 7, []), (0, 0, 4, []), (0, 0, 4, []), (0, 0, 96, []), (0, 0, 60, []), (0, 0, 60, []), (0, 0, 3, []), (0, 0, 60, []), (0, 0, 24, []), (0, 0, 30, [])]
abbrev sk_M : Type := Nat → Nat → Int32
/-- class numbers, field places, row classes, addresses by place, the script's length, the script -/
abbrev sk_V : Type := (Nat → ClassId) × (Nat → Nat → Nat) × (Nat → ClassId) × (Nat → Nat) × Nat × (Nat → Int32)
abbrev sk_G (E : sk_V) : va_G := (E.1, E.2.1)
abbrev sk_t (E : sk_V) : Nat → ClassId := E.2.2.1
abbrev sk_a (E : sk_V) : Nat → Nat := E.2.2.2.1
def sk_e (k : Nat) : sk_E := sk_T.getD k (0, 0, 0, [])
def sk_v (E : sk_V) (v : Value) : Value := match v with
  | .ref k => .ref (sk_a E k)
  | v => v
def sk_rf (rs : List (Option Nat)) (i : Nat) : Option Nat := rs.getD i none
/-- what an object's field holds, by places -/
def sk_g (h : sk_M) (k : Nat) (rs : List (Option Nat)) (i : Nat) : Value := match sk_rf rs i with
  | some r => .ref r
  | none => .int (h k i)
def sk_c (E : sk_V) (h : sk_M) (k : Nat) (e : sk_E) : va_E := match e with
  | (0, t, n, _) => .inl (sk_t E t, n, .inl (h k))
  | (1, ci, n, rs) => .inr (ci, (List.range n).map (fun i => sk_v E (sk_g h k rs i)))
  | (_, t, n, rs) => .inl (sk_t E t, n, .inr (.inr (.inr (.inr (fun i => (sk_rf rs i).map (sk_a E))))))
def sk_W (E : sk_V) (h : sk_M) : va_W := (List.range 67).map (fun k => (sk_a E k, sk_c E h k (sk_e k)))
theorem sk_W_at {E : sk_V} {h : sk_M} {k : Nat} (hk : k < 67) : (sk_W E h)[k]? = some (sk_a E k, sk_c E h k (sk_e k)) := by
  simp [sk_W, hk]
/-- a row anew -/
def sk_r (h : sk_M) (k : Nat) (f : Nat → Int32) : sk_M := fun a => if a = k then f else h a
theorem sk_r_eq (h : sk_M) (k : Nat) (f : Nat → Int32) : sk_r h k f k = f := if_pos rfl
theorem sk_r_ne (h : sk_M) {k a : Nat} (f : Nat → Int32) (n : a ≠ k) : sk_r h k f a = h a := if_neg n
/-- a cell anew -/
def sk_u (h : sk_M) (k i : Nat) (x : Int32) : sk_M := sk_r h k (upd (h k) i x)
theorem sk_c_ne {E : sk_V} {h : sk_M} {k j : Nat} (f : Nat → Int32) (n : j ≠ k) (e : sk_E) : sk_c E (sk_r h k f) j e = sk_c E h j e := by
  have h1 : sk_r h k f j = h j := sk_r_ne h f n
  unfold sk_c
  split <;> simp only [h1, sk_g]
theorem sk_W_set {E : sk_V} {h : sk_M} {k : Nat} {f : Nat → Int32} {c : va_E} (hc : sk_c E (sk_r h k f) k (sk_e k) = c) : (sk_W E h).set k (sk_a E k, c) = sk_W E (sk_r h k f) := by
  apply List.ext_getElem?
  intro j
  rw [List.getElem?_set]
  by_cases hj : k = j
  · subst hj
    rw [if_pos rfl]
    by_cases hk : k < 67
    · rw [sk_W_at hk, if_pos (by simp [sk_W, hk]), hc]
    · rw [if_neg (by simp [sk_W, hk])]
      simp [sk_W, hk]
  · rw [if_neg hj]
    by_cases hk : j < 67
    · rw [sk_W_at hk, sk_W_at hk, sk_c_ne f (fun e => hj e.symm)]
    · simp [sk_W, hk]
theorem sk_W_row {E : sk_V} {h : sk_M} {k t n : Nat} {rs : List (Option Nat)} {f : Nat → Int32} (he : sk_e k = (0, t, n, rs)) : (sk_W E h).set k (sk_a E k, .inl (sk_t E t, n, .inl f)) = sk_W E (sk_r h k f) := by
  refine sk_W_set ?_
  rw [he]
  show (Sum.inl _ : va_E) = _
  rw [sk_r_eq]
theorem sk_W_obj {E : sk_V} {h : sk_M} {k ci n i : Nat} {rs : List (Option Nat)} {x : Int32} (he : sk_e k = (1, ci, n, rs)) (hi : sk_rf rs i = none) : (sk_W E h).set k (sk_a E k, .inr (ci, ((List.range n).map (fun i => sk_v E (sk_g h k rs i))).set i (.int x))) = sk_W E (sk_u h k i x) := by
  refine sk_W_set ?_
  rw [he]
  refine congrArg (fun q => (Sum.inr (ci, q) : va_E)) ?_
  apply List.ext_getElem?
  intro j
  rw [List.getElem?_set]
  by_cases hj : i = j
  · subst hj
    rw [if_pos rfl]
    by_cases hn : i < n
    · rw [if_pos (by simp [hn])]
      simp [hn, sk_g, hi, sk_r_eq, upd, sk_v]
    · rw [if_neg (by simp [hn])]
      simp [hn]
  · rw [if_neg hj]
    by_cases hn : j < n
    · have h1 : sk_g (sk_r h k (upd (h k) i x)) k rs j = sk_g h k rs j := by
        unfold sk_g
        rw [sk_r_eq]
        have : upd (h k) i x j = h k j := if_neg (fun e => hj (Eq.symm e))
        rw [this]
      simp [hn, h1]
    · simp [hn]
theorem sk_get {E : sk_V} {h : sk_M} {k n i : Nat} {rs : List (Option Nat)} (hi : i < n) : ((List.range n).map (fun i => sk_v E (sk_g h k rs i)))[i]? = some (sk_v E (sk_g h k rs i)) := by
  simp [hi]
abbrev sk_y (E : sk_V) : List (ClassId × FieldType) := [(sk_t E 0, .int), (sk_t E 1, .object "PromisedFish$Boat"), (sk_t E 2, .object "PromisedFish$Law"), (sk_t E 3, .object "PromisedFish$Sheet")]
def sk_A (E : sk_V) : Nat → Prop := fun q => ∃ k, k < 67 ∧ q = sk_a E k
end CORE
end
section
section RULES
/-- the words that a contract carries; the nests' words -/
def gg_W : List Cond := lw_tbl.filter goodWord
def nn_b (w : Cond) : Bool := match w with
  | .fieldLinkNest .. => true
  | .methodLinkNest .. => true
  | _ => false
def nn_W : List Cond := tables_1.filter nn_b
theorem gg_good {w : Cond} (h : w ∈ gg_W) : (w.onTables && w.keeps) = true ∨ ∃ ty, w = .arrayClass ty := good_of_word (List.mem_filter.mp h).2
theorem nn_warm {w : Cond} (hb : nn_b w = true) {s U : State} (hW : s.WarmedH U.vm) (h : va_Nw w s) : va_Nw w U := by
  cases w <;> first | exact va_Nw.warmF hW h | exact va_Nw.warmM hW h | (simp [nn_b] at hb)
abbrev sk_L (E : sk_V) : Nat := E.2.2.2.2.1
abbrev sk_x (E : sk_V) : Nat → Int32 := E.2.2.2.2.2
def ab_L : List Int32 := [-1, 0, 0, 0, 1, 2, 0]
def bo_L : List Int32 := [10, 11, 12, 13, 20, 0, 0, 21, 0, 30, 0, 0, 0, 0, 40, 0, 50, 0, 51, 0, 0, 60, 0, 0, 70, 71, 0, 0]
/-- what is only read: the script, two rows -/
def sk_ro (E : sk_V) (k : Nat) : Option (Nat × (Nat → Int32)) := match k with
  | 67 => some (sk_L E, sk_x E)
  | 68 => some (7, fun j => ab_L.getD j 0)
  | 69 => some (28, fun j => bo_L.getD j 0)
  | _ => none
def st_K : List (String × String × Nat) := [("PromisedFish", "ABOVE", 68), ("PromisedFish$Voices", "BODIES", 69)]
def sk_F (E : sk_V) (s : State) : Prop :=
  va_K (sk_G E) vwCl (sk_y E) s ∧ (∀ i j, i < 67 → j < 67 → sk_a E i = sk_a E j → i = j) ∧
  (∀ k n f, sk_ro E k = some (n, f) → va_T .int (sk_a E k) n (fun j => .int (f j)) (sk_A E) s s.heap) ∧
  (∀ q ∈ st_K, va_Z q.1 q.2.1 "[I" (.ref (sk_a E q.2.2)) (sk_A E) s s.heap) ∧
  vk_S 1 [6] [[99, 115, 110, 112, 116, 110]] (fun _ => sk_a E 70) (fun _ => sk_a E 71) (sk_A E) s s.heap ∧
  vk_R "PromisedFish$Reader" 82 "csnptn" (sk_a E 70) s ∧
  va_Z "java/lang/String" "COMPACT_STRINGS" "Z" (.int 1) (sk_A E) s s.heap ∧
  va_Zq "jdk/internal/util/Preconditions" "SIOOBE_FORMATTER" "Ljava/util/function/BiFunction;" (sk_A E) s s.heap ∧
  ∀ w ∈ nn_W, va_Nw w s
theorem sk_F.go {E : sk_V} {s U : State} (h : sk_F E s) (hW : s.WarmedH U.vm) (hq : ∀ a, a < s.heap.size → ¬ sk_A E a → U.heap[a]? = s.heap[a]?) : sk_F E U := by
  obtain ⟨h1, h2, h3, h4, h5, h6, h7, h8, h9⟩ := h
  exact ⟨va_K.moved hW.alike h1, h2, fun k n f e => va_T.kept (va_T.moved hW.alike (h3 k n f e)) hq, fun q e => va_Z.kept (va_Z.moved hW.alike (h4 q e)) hq, vk_S.kept (vk_S.moved hW.alike h5) hq, vk_R.warm hW h6, va_Z.kept (va_Z.moved hW.alike h7) hq, va_Zq.kept (va_Zq.moved hW.alike h8) hq, fun w hw => nn_warm (List.mem_filter.mp hw).2 hW (h9 w hw)⟩
/-- a method: its name, code, locals, what it returns -/
abbrev sk_m : Type := MethodName × ByteArray × Nat × Option FieldType
def sk_C (E : sk_V) (d : Nat) (M : sk_m) (p : Program) (R : Room) (s : State) (m : MethodId) (args : Array Value) (meth : Method) (c : Code) : Prop :=
  p.tables.exec = Jvm.exec ∧ c.code = M.2.1 ∧ c.maxLocals = M.2.2.1 ∧ s.vm.findClass M.1.cls = some m.cls ∧ (∀ w ∈ gg_W, w.before args s = true) ∧ sk_F E s ∧ meth.sig.returnType = M.2.2.2 ∧ meth.locks = false ∧ d ≤ R.frames ∧ 60 * d ≤ R.locals
def sk_l (E : sk_V) (ls : Array Slot) (L : List (Option Value)) : Prop := ls.size = L.length ∧ lv_wf ls ∧ ∀ (i : Nat) (v : Value), L[i]? = some (some v) → ls[i]? = some (.val (sk_v E v))
def sk_ret (M : sk_m) (pc : Nat) (r : Option Value) : Prop := (∃ (v : Int32) (ty : FieldType), r = some (.int v) ∧ M.2.2.2 = some ty ∧ narrow ty (.int v) = .int v ∧ decode M.2.1 pc = .ok (.ireturn, 1)) ∨ (r = none ∧ M.2.2.2 = none ∧ decode M.2.1 pc = .ok (.return_, 1))
/-- from this place, with these locals, stack and memory, the method comes to its end, where Q holds -/
def sk_S (l : Launch) (E : sk_V) (d : Nat) (M : sk_m) (pc : Nat) (L : List (Option Value)) (St : List Value) (h : sk_M) (Q : Option Value → sk_M → Prop) : Prop :=
  ∀ (p : Program) (e : Env) (R : Room) (s : State) (m : MethodId) (args : Array Value) (below : List Frame) (meth : Method) (c : Code) (cells slots : Nat) (Z : State → Prop), sk_C E d M p R s m args meth c → cells ≤ R.cells → slots ≤ R.slots →
  (∀ (r : Option Value) (h1 : sk_M) (H : Heap) (locs : List Loc) (pc1 : Nat) (ls : Array Slot), Q r h1 → va_P (sk_G E) vwCl (sk_W E h1) H → va_S (sk_A E) s.heap H locs → sk_ret M pc1 r → W p l e R s m args below meth c H locs cells slots Z (F0 m pc1 ls (r.toList.map (sk_v E)))) →
  ∀ (H : Heap) (locs : List Loc) (ls : Array Slot), va_P (sk_G E) vwCl (sk_W E h) H → va_S (sk_A E) s.heap H locs → sk_l E ls L → W p l e R s m args below meth c H locs cells slots Z (F0 m pc ls (St.map (sk_v E)))
variable {l : Launch} {E : sk_V} {d : Nat} {M : sk_m} {pc : Nat} {L : List (Option Value)} {St : List Value} {h : sk_M} {Q : Option Value → sk_M → Prop}
theorem sk_S.mono {Q1 : Option Value → sk_M → Prop} (k : sk_S l E d M pc L St h Q1) (hq : ∀ r h1, Q1 r h1 → Q r h1) : sk_S l E d M pc L St h Q := by
  intro p e R s m args below meth c ce so Z C hc hs hz H locs ls hP hS hl
  exact k p e R s m args below meth c ce so Z C hc hs (fun r h1 H locs pc1 ls q => hz r h1 H locs pc1 ls (hq r h1 q)) H locs ls hP hS hl
/-- the end -/
theorem sk_S.ret {r : Option Value} (hst : St = r.toList) (hr : sk_ret M pc r) (hq : Q r h) : sk_S l E d M pc L St h Q := by
  intro p e R s m args below meth c ce so Z C hc hs hz H locs ls hP hS hl
  subst hst
  exact hz r h H locs pc ls hq hP hS hr
theorem sk_S.iret {v : Int32} {ty : FieldType} (hd : decode M.2.1 pc = .ok (.ireturn, 1)) (hr : M.2.2.2 = some ty) (hn : narrow ty (.int v) = .int v) (hq : Q (some (.int v)) h) : sk_S l E d M pc L [.int v] h Q :=
  sk_S.ret (r := some (.int v)) rfl (Or.inl ⟨v, ty, rfl, hr, hn, hd⟩) hq
theorem sk_S.vret (hd : decode M.2.1 pc = .ok (.return_, 1)) (hr : M.2.2.2 = none) (hq : Q none h) : sk_S l E d M pc L [] h Q :=
  sk_S.ret (r := none) rfl (Or.inr ⟨rfl, hr, hd⟩) hq
theorem sk_S.iconst {n : Int} {v : Int32} (hd : decode M.2.1 pc = .ok (.iconst n, 1)) (hv : Int32.ofInt n = v) (k : sk_S l E d M (pc + 1) L (.int v :: St) h Q) : sk_S l E d M pc L (St) h Q := by
  intro p e R s m args below meth c ce so Z C hc hs hz H locs ls hP hS hl
  exact lv_iconst C.1 C.2.1 hd hv (k p e R s m args below meth c ce so Z C hc hs hz H locs ls hP hS hl)
theorem sk_S.bipush {n : Int} {v : Int32} (hd : decode M.2.1 pc = .ok (.bipush n, 2)) (hv : (Int8.ofInt n).toInt32 = v) (k : sk_S l E d M (pc + 2) L (.int v :: St) h Q) : sk_S l E d M pc L (St) h Q := by
  intro p e R s m args below meth c ce so Z C hc hs hz H locs ls hP hS hl
  exact lv_bipush C.1 C.2.1 hd hv (k p e R s m args below meth c ce so Z C hc hs hz H locs ls hP hS hl)
theorem sk_S.sipush {n : Int} {v : Int32} (hd : decode M.2.1 pc = .ok (.sipush n, 3)) (hv : (Int16.ofInt n).toInt32 = v) (k : sk_S l E d M (pc + 3) L (.int v :: St) h Q) : sk_S l E d M pc L (St) h Q := by
  intro p e R s m args below meth c ce so Z C hc hs hz H locs ls hP hS hl
  exact lv_sipush C.1 C.2.1 hd hv (k p e R s m args below meth c ce so Z C hc hs hz H locs ls hP hS hl)
theorem sk_S.iload_n {q : Fin 4} {i : Nat} {x : Int32} (hd : decode M.2.1 pc = .ok (.iload_n q, 1)) (hi : (q : Nat) = i) (hL : L[i]? = some (some (.int x))) (k : sk_S l E d M (pc + 1) L (.int x :: St) h Q) : sk_S l E d M pc L (St) h Q := by
  intro p e R s m args below meth c ce so Z C hc hs hz H locs ls hP hS hl
  exact lv_iload_n C.1 C.2.1 hd hi (hl.2.2 i _ hL) (k p e R s m args below meth c ce so Z C hc hs hz H locs ls hP hS hl)
theorem sk_S.lload_n {q : Fin 4} {i : Nat} {x : Int64} (hd : decode M.2.1 pc = .ok (.lload_n q, 1)) (hi : (q : Nat) = i) (hL : L[i]? = some (some (.long x))) (k : sk_S l E d M (pc + 1) L (.long x :: St) h Q) : sk_S l E d M pc L (St) h Q := by
  intro p e R s m args below meth c ce so Z C hc hs hz H locs ls hP hS hl
  exact lv_lload_n C.1 C.2.1 hd hi (hl.2.2 i _ hL) (k p e R s m args below meth c ce so Z C hc hs hz H locs ls hP hS hl)
theorem sk_S.iload {i : Nat} {x : Int32} (hd : decode M.2.1 pc = .ok (.iload i, 2)) (hL : L[i]? = some (some (.int x))) (k : sk_S l E d M (pc + 2) L (.int x :: St) h Q) : sk_S l E d M pc L (St) h Q := by
  intro p e R s m args below meth c ce so Z C hc hs hz H locs ls hP hS hl
  exact lv_iload C.1 C.2.1 hd (hl.2.2 i _ hL) (k p e R s m args below meth c ce so Z C hc hs hz H locs ls hP hS hl)
theorem sk_S.aload_n {q : Fin 4} {i : Nat} {x : Nat} (hd : decode M.2.1 pc = .ok (.aload_n q, 1)) (hi : (q : Nat) = i) (hL : L[i]? = some (some (.ref x))) (k : sk_S l E d M (pc + 1) L (.ref x :: St) h Q) : sk_S l E d M pc L (St) h Q := by
  intro p e R s m args below meth c ce so Z C hc hs hz H locs ls hP hS hl
  exact lv_aload_n C.1 C.2.1 hd hi (hl.2.2 i _ hL) (k p e R s m args below meth c ce so Z C hc hs hz H locs ls hP hS hl)
theorem sk_S.aload {i : Nat} {x : Nat} (hd : decode M.2.1 pc = .ok (.aload i, 2)) (hL : L[i]? = some (some (.ref x))) (k : sk_S l E d M (pc + 2) L (.ref x :: St) h Q) : sk_S l E d M pc L (St) h Q := by
  intro p e R s m args below meth c ce so Z C hc hs hz H locs ls hP hS hl
  exact lv_aload C.1 C.2.1 hd (hl.2.2 i _ hL) (k p e R s m args below meth c ce so Z C hc hs hz H locs ls hP hS hl)
theorem sk_S.iadd {x y : Int32} (hd : decode M.2.1 pc = .ok (.iadd, 1)) (k : sk_S l E d M (pc + 1) L (.int (x + y) :: St) h Q) : sk_S l E d M pc L (.int y :: .int x :: St) h Q := by
  intro p e R s m args below meth c ce so Z C hc hs hz H locs ls hP hS hl
  exact lv_iadd C.1 C.2.1 hd (k p e R s m args below meth c ce so Z C hc hs hz H locs ls hP hS hl)
theorem sk_S.isub {x y : Int32} (hd : decode M.2.1 pc = .ok (.isub, 1)) (k : sk_S l E d M (pc + 1) L (.int (x - y) :: St) h Q) : sk_S l E d M pc L (.int y :: .int x :: St) h Q := by
  intro p e R s m args below meth c ce so Z C hc hs hz H locs ls hP hS hl
  exact lv_isub C.1 C.2.1 hd (k p e R s m args below meth c ce so Z C hc hs hz H locs ls hP hS hl)
theorem sk_S.imul {x y : Int32} (hd : decode M.2.1 pc = .ok (.imul, 1)) (k : sk_S l E d M (pc + 1) L (.int (x * y) :: St) h Q) : sk_S l E d M pc L (.int y :: .int x :: St) h Q := by
  intro p e R s m args below meth c ce so Z C hc hs hz H locs ls hP hS hl
  exact lv_imul C.1 C.2.1 hd (k p e R s m args below meth c ce so Z C hc hs hz H locs ls hP hS hl)
theorem sk_S.iand {x y : Int32} (hd : decode M.2.1 pc = .ok (.iand, 1)) (k : sk_S l E d M (pc + 1) L (.int (x &&& y) :: St) h Q) : sk_S l E d M pc L (.int y :: .int x :: St) h Q := by
  intro p e R s m args below meth c ce so Z C hc hs hz H locs ls hP hS hl
  exact lv_iand C.1 C.2.1 hd (k p e R s m args below meth c ce so Z C hc hs hz H locs ls hP hS hl)
theorem sk_S.ior {x y : Int32} (hd : decode M.2.1 pc = .ok (.ior, 1)) (k : sk_S l E d M (pc + 1) L (.int (x ||| y) :: St) h Q) : sk_S l E d M pc L (.int y :: .int x :: St) h Q := by
  intro p e R s m args below meth c ce so Z C hc hs hz H locs ls hP hS hl
  exact lv_ior C.1 C.2.1 hd (k p e R s m args below meth c ce so Z C hc hs hz H locs ls hP hS hl)
theorem sk_S.ixor {x y : Int32} (hd : decode M.2.1 pc = .ok (.ixor, 1)) (k : sk_S l E d M (pc + 1) L (.int (x ^^^ y) :: St) h Q) : sk_S l E d M pc L (.int y :: .int x :: St) h Q := by
  intro p e R s m args below meth c ce so Z C hc hs hz H locs ls hP hS hl
  exact lv_ixor C.1 C.2.1 hd (k p e R s m args below meth c ce so Z C hc hs hz H locs ls hP hS hl)
theorem sk_S.ishl {x y : Int32} (hd : decode M.2.1 pc = .ok (.ishl, 1)) (k : sk_S l E d M (pc + 1) L (.int (x <<< (y &&& 31)) :: St) h Q) : sk_S l E d M pc L (.int y :: .int x :: St) h Q := by
  intro p e R s m args below meth c ce so Z C hc hs hz H locs ls hP hS hl
  exact lv_ishl C.1 C.2.1 hd (k p e R s m args below meth c ce so Z C hc hs hz H locs ls hP hS hl)
theorem sk_S.ishr {x y : Int32} (hd : decode M.2.1 pc = .ok (.ishr, 1)) (k : sk_S l E d M (pc + 1) L (.int (x >>> (y &&& 31)) :: St) h Q) : sk_S l E d M pc L (.int y :: .int x :: St) h Q := by
  intro p e R s m args below meth c ce so Z C hc hs hz H locs ls hP hS hl
  exact lv_ishr C.1 C.2.1 hd (k p e R s m args below meth c ce so Z C hc hs hz H locs ls hP hS hl)
theorem sk_S.idiv {x y : Int32} (hd : decode M.2.1 pc = .ok (.idiv, 1)) (hne : ¬ y = 0) (k : sk_S l E d M (pc + 1) L (.int (x / y) :: St) h Q) : sk_S l E d M pc L (.int y :: .int x :: St) h Q := by
  intro p e R s m args below meth c ce so Z C hc hs hz H locs ls hP hS hl
  exact lv_idiv C.1 C.2.1 hd hne (k p e R s m args below meth c ce so Z C hc hs hz H locs ls hP hS hl)
theorem sk_S.irem {x y : Int32} (hd : decode M.2.1 pc = .ok (.irem, 1)) (hne : ¬ y = 0) (k : sk_S l E d M (pc + 1) L (.int (x - x / y * y) :: St) h Q) : sk_S l E d M pc L (.int y :: .int x :: St) h Q := by
  intro p e R s m args below meth c ce so Z C hc hs hz H locs ls hP hS hl
  exact lv_irem C.1 C.2.1 hd hne (k p e R s m args below meth c ce so Z C hc hs hz H locs ls hP hS hl)
theorem sk_S.land {x y : Int64} (hd : decode M.2.1 pc = .ok (.land, 1)) (k : sk_S l E d M (pc + 1) L (.long (x &&& y) :: St) h Q) : sk_S l E d M pc L (.long y :: .long x :: St) h Q := by
  intro p e R s m args below meth c ce so Z C hc hs hz H locs ls hP hS hl
  exact lv_land C.1 C.2.1 hd (k p e R s m args below meth c ce so Z C hc hs hz H locs ls hP hS hl)
theorem sk_S.lor {x y : Int64} (hd : decode M.2.1 pc = .ok (.lor, 1)) (k : sk_S l E d M (pc + 1) L (.long (x ||| y) :: St) h Q) : sk_S l E d M pc L (.long y :: .long x :: St) h Q := by
  intro p e R s m args below meth c ce so Z C hc hs hz H locs ls hP hS hl
  exact lv_lor C.1 C.2.1 hd (k p e R s m args below meth c ce so Z C hc hs hz H locs ls hP hS hl)
theorem sk_S.ineg {x : Int32} (hd : decode M.2.1 pc = .ok (.ineg, 1)) (k : sk_S l E d M (pc + 1) L (.int (-x) :: St) h Q) : sk_S l E d M pc L (.int x :: St) h Q := by
  intro p e R s m args below meth c ce so Z C hc hs hz H locs ls hP hS hl
  exact lv_ineg C.1 C.2.1 hd (k p e R s m args below meth c ce so Z C hc hs hz H locs ls hP hS hl)
theorem sk_S.iushr {x y : Int32} (hd : decode M.2.1 pc = .ok (.iushr, 1)) (k : sk_S l E d M (pc + 1) L (.int ((x.toUInt32 >>> (y.toUInt32 &&& Int32.toUInt32 31)).toInt32) :: St) h Q) : sk_S l E d M pc L (.int y :: .int x :: St) h Q := by
  intro p e R s m args below meth c ce so Z C hc hs hz H locs ls hP hS hl
  exact lv_iushr C.1 C.2.1 hd rfl (k p e R s m args below meth c ce so Z C hc hs hz H locs ls hP hS hl)
theorem sk_S.lushr {x : Int64} {y : Int32} (hd : decode M.2.1 pc = .ok (.lushr, 1)) (k : sk_S l E d M (pc + 1) L (.long ((x.toUInt64 >>> (y.toInt64.toUInt64 &&& Int64.toUInt64 63)).toInt64) :: St) h Q) : sk_S l E d M pc L (.int y :: .long x :: St) h Q := by
  intro p e R s m args below meth c ce so Z C hc hs hz H locs ls hP hS hl
  exact lv_lushr C.1 C.2.1 hd rfl (k p e R s m args below meth c ce so Z C hc hs hz H locs ls hP hS hl)
theorem sk_S.lshr {x : Int64} {y : Int32} (hd : decode M.2.1 pc = .ok (.lshr, 1)) (k : sk_S l E d M (pc + 1) L (.long (x >>> (y.toInt64 &&& 63)) :: St) h Q) : sk_S l E d M pc L (.int y :: .long x :: St) h Q := by
  intro p e R s m args below meth c ce so Z C hc hs hz H locs ls hP hS hl
  exact lv_lshr C.1 C.2.1 hd rfl (k p e R s m args below meth c ce so Z C hc hs hz H locs ls hP hS hl)
theorem sk_S.lshl {x : Int64} {y : Int32} (hd : decode M.2.1 pc = .ok (.lshl, 1)) (k : sk_S l E d M (pc + 1) L (.long (x <<< (y.toInt64 &&& 63)) :: St) h Q) : sk_S l E d M pc L (.int y :: .long x :: St) h Q := by
  intro p e R s m args below meth c ce so Z C hc hs hz H locs ls hP hS hl
  exact lv_lshl C.1 C.2.1 hd rfl (k p e R s m args below meth c ce so Z C hc hs hz H locs ls hP hS hl)
theorem sk_S.i2l {x : Int32} (hd : decode M.2.1 pc = .ok (.i2l, 1)) (k : sk_S l E d M (pc + 1) L (.long (x.toInt64) :: St) h Q) : sk_S l E d M pc L (.int x :: St) h Q := by
  intro p e R s m args below meth c ce so Z C hc hs hz H locs ls hP hS hl
  exact lv_i2l C.1 C.2.1 hd rfl (k p e R s m args below meth c ce so Z C hc hs hz H locs ls hP hS hl)
theorem sk_S.l2i {x : Int64} (hd : decode M.2.1 pc = .ok (.l2i, 1)) (k : sk_S l E d M (pc + 1) L (.int (x.toInt32) :: St) h Q) : sk_S l E d M pc L (.long x :: St) h Q := by
  intro p e R s m args below meth c ce so Z C hc hs hz H locs ls hP hS hl
  exact lv_l2i C.1 C.2.1 hd rfl (k p e R s m args below meth c ce so Z C hc hs hz H locs ls hP hS hl)
theorem sk_S.i2b {x : Int32} (hd : decode M.2.1 pc = .ok (.i2b, 1)) (k : sk_S l E d M (pc + 1) L (.int (x.toInt8.toInt32) :: St) h Q) : sk_S l E d M pc L (.int x :: St) h Q := by
  intro p e R s m args below meth c ce so Z C hc hs hz H locs ls hP hS hl
  exact lv_i2b C.1 C.2.1 hd rfl (k p e R s m args below meth c ce so Z C hc hs hz H locs ls hP hS hl)
theorem sk_S.i2s {x : Int32} (hd : decode M.2.1 pc = .ok (.i2s, 1)) (k : sk_S l E d M (pc + 1) L (.int (x.toInt16.toInt32) :: St) h Q) : sk_S l E d M pc L (.int x :: St) h Q := by
  intro p e R s m args below meth c ce so Z C hc hs hz H locs ls hP hS hl
  exact lv_i2s C.1 C.2.1 hd rfl (k p e R s m args below meth c ce so Z C hc hs hz H locs ls hP hS hl)
theorem sk_S.i2c {x : Int32} (hd : decode M.2.1 pc = .ok (.i2c, 1)) (k : sk_S l E d M (pc + 1) L (.int ((x.toUInt32 % 65536).toInt32) :: St) h Q) : sk_S l E d M pc L (.int x :: St) h Q := by
  intro p e R s m args below meth c ce so Z C hc hs hz H locs ls hP hS hl
  exact lv_i2c C.1 C.2.1 hd rfl (k p e R s m args below meth c ce so Z C hc hs hz H locs ls hP hS hl)
theorem sk_S.goto {off : Int} {tgt : Nat} (hd : decode M.2.1 pc = .ok (.goto off, 3)) (ht : (pc : Int) + off = (tgt : Int)) (k : sk_S l E d M (tgt) L (St) h Q) : sk_S l E d M pc L (St) h Q := by
  intro p e R s m args below meth c ce so Z C hc hs hz H locs ls hP hS hl
  exact lv_goto C.1 C.2.1 hd ht (k p e R s m args below meth c ce so Z C hc hs hz H locs ls hP hS hl)
theorem sk_S.icmp_eq {x y : Int32} {off : Int} {tgt : Nat} (hd : decode M.2.1 pc = .ok (.if_icmp .eq off, 3)) (ht : (pc : Int) + off = (tgt : Int)) (kt : x = y → sk_S l E d M tgt L St h Q) (kf : ¬ (x = y) → sk_S l E d M (pc + 3) L St h Q) : sk_S l E d M pc L (.int y :: .int x :: St) h Q := by
  intro p e R s m args below meth c ce so Z C hc hs hz H locs ls hP hS hl
  exact lv_icmp_eq C.1 C.2.1  hd ht (fun q => kt q p e R s m args below meth c ce so Z C hc hs hz H locs ls hP hS hl) (fun q => kf q p e R s m args below meth c ce so Z C hc hs hz H locs ls hP hS hl)
theorem sk_S.if_eq {x : Int32} {off : Int} {tgt : Nat} (hd : decode M.2.1 pc = .ok (.ifCond .eq off, 3)) (ht : (pc : Int) + off = (tgt : Int)) (kt : x = 0 → sk_S l E d M tgt L St h Q) (kf : ¬ (x = 0) → sk_S l E d M (pc + 3) L St h Q) : sk_S l E d M pc L (.int x :: St) h Q := by
  intro p e R s m args below meth c ce so Z C hc hs hz H locs ls hP hS hl
  exact lv_if_eq C.1 C.2.1  hd ht (fun q => kt q p e R s m args below meth c ce so Z C hc hs hz H locs ls hP hS hl) (fun q => kf q p e R s m args below meth c ce so Z C hc hs hz H locs ls hP hS hl)
theorem sk_S.icmp_ne {x y : Int32} {off : Int} {tgt : Nat} (hd : decode M.2.1 pc = .ok (.if_icmp .ne off, 3)) (ht : (pc : Int) + off = (tgt : Int)) (kt : ¬ x = y → sk_S l E d M tgt L St h Q) (kf : x = y → sk_S l E d M (pc + 3) L St h Q) : sk_S l E d M pc L (.int y :: .int x :: St) h Q := by
  intro p e R s m args below meth c ce so Z C hc hs hz H locs ls hP hS hl
  exact lv_icmp_ne C.1 C.2.1  hd ht (fun q => kt q p e R s m args below meth c ce so Z C hc hs hz H locs ls hP hS hl) (fun q => kf q p e R s m args below meth c ce so Z C hc hs hz H locs ls hP hS hl)
theorem sk_S.if_ne {x : Int32} {off : Int} {tgt : Nat} (hd : decode M.2.1 pc = .ok (.ifCond .ne off, 3)) (ht : (pc : Int) + off = (tgt : Int)) (kt : ¬ x = 0 → sk_S l E d M tgt L St h Q) (kf : x = 0 → sk_S l E d M (pc + 3) L St h Q) : sk_S l E d M pc L (.int x :: St) h Q := by
  intro p e R s m args below meth c ce so Z C hc hs hz H locs ls hP hS hl
  exact lv_if_ne C.1 C.2.1  hd ht (fun q => kt q p e R s m args below meth c ce so Z C hc hs hz H locs ls hP hS hl) (fun q => kf q p e R s m args below meth c ce so Z C hc hs hz H locs ls hP hS hl)
theorem sk_S.icmp_lt {x y : Int32} {off : Int} {tgt : Nat} (hd : decode M.2.1 pc = .ok (.if_icmp .lt off, 3)) (ht : (pc : Int) + off = (tgt : Int)) (kt : x < y → sk_S l E d M tgt L St h Q) (kf : ¬ (x < y) → sk_S l E d M (pc + 3) L St h Q) : sk_S l E d M pc L (.int y :: .int x :: St) h Q := by
  intro p e R s m args below meth c ce so Z C hc hs hz H locs ls hP hS hl
  exact lv_icmp_lt C.1 C.2.1  hd ht (fun q => kt q p e R s m args below meth c ce so Z C hc hs hz H locs ls hP hS hl) (fun q => kf q p e R s m args below meth c ce so Z C hc hs hz H locs ls hP hS hl)
theorem sk_S.if_lt {x : Int32} {off : Int} {tgt : Nat} (hd : decode M.2.1 pc = .ok (.ifCond .lt off, 3)) (ht : (pc : Int) + off = (tgt : Int)) (kt : x < 0 → sk_S l E d M tgt L St h Q) (kf : ¬ (x < 0) → sk_S l E d M (pc + 3) L St h Q) : sk_S l E d M pc L (.int x :: St) h Q := by
  intro p e R s m args below meth c ce so Z C hc hs hz H locs ls hP hS hl
  exact lv_if_lt C.1 C.2.1  hd ht (fun q => kt q p e R s m args below meth c ce so Z C hc hs hz H locs ls hP hS hl) (fun q => kf q p e R s m args below meth c ce so Z C hc hs hz H locs ls hP hS hl)
theorem sk_S.icmp_ge {x y : Int32} {off : Int} {tgt : Nat} (hd : decode M.2.1 pc = .ok (.if_icmp .ge off, 3)) (ht : (pc : Int) + off = (tgt : Int)) (kt : y ≤ x → sk_S l E d M tgt L St h Q) (kf : ¬ (y ≤ x) → sk_S l E d M (pc + 3) L St h Q) : sk_S l E d M pc L (.int y :: .int x :: St) h Q := by
  intro p e R s m args below meth c ce so Z C hc hs hz H locs ls hP hS hl
  exact lv_icmp_ge C.1 C.2.1  hd ht (fun q => kt q p e R s m args below meth c ce so Z C hc hs hz H locs ls hP hS hl) (fun q => kf q p e R s m args below meth c ce so Z C hc hs hz H locs ls hP hS hl)
theorem sk_S.if_ge {x : Int32} {off : Int} {tgt : Nat} (hd : decode M.2.1 pc = .ok (.ifCond .ge off, 3)) (ht : (pc : Int) + off = (tgt : Int)) (kt : 0 ≤ x → sk_S l E d M tgt L St h Q) (kf : ¬ (0 ≤ x) → sk_S l E d M (pc + 3) L St h Q) : sk_S l E d M pc L (.int x :: St) h Q := by
  intro p e R s m args below meth c ce so Z C hc hs hz H locs ls hP hS hl
  exact lv_if_ge C.1 C.2.1  hd ht (fun q => kt q p e R s m args below meth c ce so Z C hc hs hz H locs ls hP hS hl) (fun q => kf q p e R s m args below meth c ce so Z C hc hs hz H locs ls hP hS hl)
theorem sk_S.icmp_gt {x y : Int32} {off : Int} {tgt : Nat} (hd : decode M.2.1 pc = .ok (.if_icmp .gt off, 3)) (ht : (pc : Int) + off = (tgt : Int)) (kt : y < x → sk_S l E d M tgt L St h Q) (kf : ¬ (y < x) → sk_S l E d M (pc + 3) L St h Q) : sk_S l E d M pc L (.int y :: .int x :: St) h Q := by
  intro p e R s m args below meth c ce so Z C hc hs hz H locs ls hP hS hl
  exact lv_icmp_gt C.1 C.2.1  hd ht (fun q => kt q p e R s m args below meth c ce so Z C hc hs hz H locs ls hP hS hl) (fun q => kf q p e R s m args below meth c ce so Z C hc hs hz H locs ls hP hS hl)
theorem sk_S.if_gt {x : Int32} {off : Int} {tgt : Nat} (hd : decode M.2.1 pc = .ok (.ifCond .gt off, 3)) (ht : (pc : Int) + off = (tgt : Int)) (kt : 0 < x → sk_S l E d M tgt L St h Q) (kf : ¬ (0 < x) → sk_S l E d M (pc + 3) L St h Q) : sk_S l E d M pc L (.int x :: St) h Q := by
  intro p e R s m args below meth c ce so Z C hc hs hz H locs ls hP hS hl
  exact lv_if_gt C.1 C.2.1  hd ht (fun q => kt q p e R s m args below meth c ce so Z C hc hs hz H locs ls hP hS hl) (fun q => kf q p e R s m args below meth c ce so Z C hc hs hz H locs ls hP hS hl)
theorem sk_S.icmp_le {x y : Int32} {off : Int} {tgt : Nat} (hd : decode M.2.1 pc = .ok (.if_icmp .le off, 3)) (ht : (pc : Int) + off = (tgt : Int)) (kt : x ≤ y → sk_S l E d M tgt L St h Q) (kf : ¬ (x ≤ y) → sk_S l E d M (pc + 3) L St h Q) : sk_S l E d M pc L (.int y :: .int x :: St) h Q := by
  intro p e R s m args below meth c ce so Z C hc hs hz H locs ls hP hS hl
  exact lv_icmp_le C.1 C.2.1  hd ht (fun q => kt q p e R s m args below meth c ce so Z C hc hs hz H locs ls hP hS hl) (fun q => kf q p e R s m args below meth c ce so Z C hc hs hz H locs ls hP hS hl)
theorem sk_S.if_le {x : Int32} {off : Int} {tgt : Nat} (hd : decode M.2.1 pc = .ok (.ifCond .le off, 3)) (ht : (pc : Int) + off = (tgt : Int)) (kt : x ≤ 0 → sk_S l E d M tgt L St h Q) (kf : ¬ (x ≤ 0) → sk_S l E d M (pc + 3) L St h Q) : sk_S l E d M pc L (.int x :: St) h Q := by
  intro p e R s m args below meth c ce so Z C hc hs hz H locs ls hP hS hl
  exact lv_if_le C.1 C.2.1  hd ht (fun q => kt q p e R s m args below meth c ce so Z C hc hs hz H locs ls hP hS hl) (fun q => kf q p e R s m args below meth c ce so Z C hc hs hz H locs ls hP hS hl)
/-- what is on the stack behind dup: a value of one word -/
theorem sk_cat (E : sk_V) (v : Value) : (sk_v E v).category = v.category := by cases v <;> rfl
theorem sk_S.dup {v : Value} (hd : decode M.2.1 pc = .ok (.dup, 1)) (hv : v.category = 1) (k : sk_S l E d M (pc + 1) L (v :: v :: St) h Q) : sk_S l E d M pc L (v :: St) h Q := by
  intro p e R s m args below meth c ce so Z C hc hs hz H locs ls hP hS hl
  exact lv_dup C.1 C.2.1 hd ((sk_cat E v).trans hv) (k p e R s m args below meth c ce so Z C hc hs hz H locs ls hP hS hl)
theorem sk_S.pop {v : Value} (hd : decode M.2.1 pc = .ok (.pop, 1)) (hv : v.category = 1) (k : sk_S l E d M (pc + 1) L St h Q) : sk_S l E d M pc L (v :: St) h Q := by
  intro p e R s m args below meth c ce so Z C hc hs hz H locs ls hP hS hl
  exact lv_pop C.1 C.2.1 hd ((sk_cat E v).trans hv) (k p e R s m args below meth c ce so Z C hc hs hz H locs ls hP hS hl)
theorem sk_S.dup2 {v w : Value} (hd : decode M.2.1 pc = .ok (.dup2, 1)) (hv : v.category = 1) (hw : w.category = 1) (k : sk_S l E d M (pc + 1) L (v :: w :: v :: w :: St) h Q) : sk_S l E d M pc L (v :: w :: St) h Q := by
  intro p e R s m args below meth c ce so Z C hc hs hz H locs ls hP hS hl
  exact lv_dup2_11 C.1 C.2.1 hd ((sk_cat E v).trans hv) ((sk_cat E w).trans hw) (k p e R s m args below meth c ce so Z C hc hs hz H locs ls hP hS hl)
/-- the locals as the kit lists them -/
def sk_p (E : sk_V) (L : List (Option Value)) : List (Nat × Value) := L.zipIdx.filterMap (fun q => q.1.map (fun v => (q.2, sk_v E v)))
theorem sk_p_of {E : sk_V} {L : List (Option Value)} {q : Nat × Value} (hq : q ∈ sk_p E L) : ∃ v, L[q.1]? = some (some v) ∧ q.2 = sk_v E v := by
  obtain ⟨⟨o, i⟩, h1, h2⟩ := List.mem_filterMap.mp hq
  cases o with
  | none => simp at h2
  | some v =>
    simp only [Option.map_some, Option.some.injEq] at h2
    subst h2
    exact ⟨v, List.mem_zipIdx_iff_getElem?.mp h1, rfl⟩
theorem sk_p_in {E : sk_V} {L : List (Option Value)} {i : Nat} {v : Value} (hv : L[i]? = some (some v)) : (i, sk_v E v) ∈ sk_p E L :=
  List.mem_filterMap.mpr ⟨(some v, i), List.mem_zipIdx_iff_getElem?.mpr hv, rfl⟩
theorem sk_l.has {E : sk_V} {ls : Array Slot} {L : List (Option Value)} (h : sk_l E ls L) : lv_has ls L.length (sk_p E L) :=
  ⟨h.1, h.2.1, fun q hq => by obtain ⟨v, h1, h2⟩ := sk_p_of hq; rw [h2]; exact h.2.2 _ _ h1⟩
/-- no long stands just below -/
def sk_ok (L : List (Option Value)) (i : Nat) : Bool := match i with
  | 0 => true
  | i + 1 => match L[i]? with
    | some (some w) => w.category == 1
    | _ => true
theorem sk_l.of {E : sk_V} {ls1 : Array Slot} {L : List (Option Value)} {i nL : Nat} {v : Value} {x : List (Nat × Value)} (hn : nL = L.length) (hi : i < L.length) (hk : sk_ok L i = true) (hx : ∀ q ∈ sk_p E L, q ∈ x)
    (h : lv_has ls1 nL ((i, sk_v E v) :: x.filter (fun q => !(q.1 == i) && !(q.1 + 1 == i && q.2.category == 2)))) : sk_l E ls1 (L.set i (some v)) := by
  subst hn
  refine ⟨by rw [List.length_set]; exact h.1, h.2.1, fun j w hj => ?_⟩
  rw [List.getElem?_set] at hj
  by_cases e : i = j
  · subst e
    rw [if_pos rfl, if_pos hi] at hj
    cases hj
    exact h.2.2 (i, sk_v E v) List.mem_cons_self
  · rw [if_neg e] at hj
    refine h.2.2 (j, sk_v E w) (List.mem_cons_of_mem _ (List.mem_filter.mpr ⟨hx _ (sk_p_in hj), ?_⟩))
    have e1 : (j == i) = false := beq_eq_false_iff_ne.mpr (fun q => e (Eq.symm q))
    rw [e1]
    by_cases e2 : j + 1 = i
    · subst e2
      have h3 : w.category = 1 := by
        have h4 : (match L[j]? with | some (some w) => w.category == 1 | _ => true) = true := hk
        rw [hj] at h4
        simpa using h4
      simp [sk_cat, h3]
    · have e3 : (j + 1 == i) = false := by simp [e2]
      rw [e3]
      rfl
theorem sk_S.istore_n {q : Fin 4} {i : Nat} {x : Int32} (hd : decode M.2.1 pc = .ok (.istore_n q, 1)) (hi : (q : Nat) = i) (hn : i < L.length) (hk : sk_ok L i = true) (k : sk_S l E d M (pc + 1) (L.set i (some (.int x))) St h Q) : sk_S l E d M pc L (.int x :: St) h Q := by
  intro p e R s m args below meth c ce so Z C hc hs hz H locs ls hP hS hl
  exact lv_istore_n C.1 C.2.1 hd hi hl.has hn rfl (fun ls1 h1 => k p e R s m args below meth c ce so Z C hc hs hz H locs ls1 hP hS (sk_l.of (v := .int x) rfl hn hk (fun _ z => z) h1))
theorem sk_S.istore {i : Nat} {x : Int32} (hd : decode M.2.1 pc = .ok (.istore i, 2)) (hn : i < L.length) (hk : sk_ok L i = true) (k : sk_S l E d M (pc + 2) (L.set i (some (.int x))) St h Q) : sk_S l E d M pc L (.int x :: St) h Q := by
  intro p e R s m args below meth c ce so Z C hc hs hz H locs ls hP hS hl
  exact lv_istore C.1 C.2.1 hd hl.has hn rfl (fun ls1 h1 => k p e R s m args below meth c ce so Z C hc hs hz H locs ls1 hP hS (sk_l.of (v := .int x) rfl hn hk (fun _ z => z) h1))
theorem sk_S.astore_n {q : Fin 4} {i : Nat} {x : Nat} (hd : decode M.2.1 pc = .ok (.astore_n q, 1)) (hi : (q : Nat) = i) (hn : i < L.length) (hk : sk_ok L i = true) (k : sk_S l E d M (pc + 1) (L.set i (some (.ref x))) St h Q) : sk_S l E d M pc L (.ref x :: St) h Q := by
  intro p e R s m args below meth c ce so Z C hc hs hz H locs ls hP hS hl
  exact lv_astore_n C.1 C.2.1 hd hi hl.has hn rfl (fun ls1 h1 => k p e R s m args below meth c ce so Z C hc hs hz H locs ls1 hP hS (sk_l.of (v := .ref x) rfl hn hk (fun _ z => z) h1))
theorem sk_S.astore {i : Nat} {x : Nat} (hd : decode M.2.1 pc = .ok (.astore i, 2)) (hn : i < L.length) (hk : sk_ok L i = true) (k : sk_S l E d M (pc + 2) (L.set i (some (.ref x))) St h Q) : sk_S l E d M pc L (.ref x :: St) h Q := by
  intro p e R s m args below meth c ce so Z C hc hs hz H locs ls hP hS hl
  exact lv_astore C.1 C.2.1 hd hl.has hn rfl (fun ls1 h1 => k p e R s m args below meth c ce so Z C hc hs hz H locs ls1 hP hS (sk_l.of (v := .ref x) rfl hn hk (fun _ z => z) h1))
theorem sk_S.iinc {i : Nat} {n : Int} {x v : Int32} (hd : decode M.2.1 pc = .ok (.iinc i n, 3)) (hL : L[i]? = some (some (.int x))) (hv : x + Int32.ofInt n = v) (hk : sk_ok L i = true) (k : sk_S l E d M (pc + 3) (L.set i (some (.int v))) St h Q) : sk_S l E d M pc L St h Q := by
  intro p e R s m args below meth c ce so Z C hc hs hz H locs ls hP hS hl
  have hn : i < L.length := (List.getElem?_eq_some_iff.mp hL).1
  have hh : lv_has ls L.length ((i, .int x) :: sk_p E L) := ⟨hl.has.1, hl.has.2.1, fun q hq => (List.mem_cons.mp hq).elim (fun e => by rw [e]; exact hl.2.2 i _ hL) (hl.has.2.2 q)⟩
  exact lv_iinc (k := 0) C.1 C.2.1 hd hh rfl hv hn rfl (fun ls1 h1 => k p e R s m args below meth c ce so Z C hc hs hz H locs ls1 hP hS (sk_l.of (v := .int v) rfl hn hk (fun _ z => List.mem_cons_of_mem _ z) h1))
/-- constants out of the pool -/
theorem sk_S.ldc {own : String} {i : Nat} {v : Int32} (hd : decode M.2.1 pc = .ok (.ldc i, 2)) (ho : M.1.cls = own) (hw : Cond.constant own i v ∈ gg_W) (k : sk_S l E d M (pc + 2) L (.int v :: St) h Q) : sk_S l E d M pc L St h Q := by
  intro p e R s m args below meth c ce so Z C hc hs hz H locs ls hP hS hl
  subst ho
  exact lv_ldc C.1 C.2.1 C.2.2.2.1 (C.2.2.2.2.1 _ hw) hd (k p e R s m args below meth c ce so Z C hc hs hz H locs ls hP hS hl)
theorem sk_S.ldc_w {own : String} {i : Nat} {v : Int32} (hd : decode M.2.1 pc = .ok (.ldc_w i, 3)) (ho : M.1.cls = own) (hw : Cond.constant own i v ∈ gg_W) (k : sk_S l E d M (pc + 3) L (.int v :: St) h Q) : sk_S l E d M pc L St h Q := by
  intro p e R s m args below meth c ce so Z C hc hs hz H locs ls hP hS hl
  subst ho
  exact lv_ldcw C.1 C.2.1 C.2.2.2.1 (C.2.2.2.2.1 _ hw) hd (k p e R s m args below meth c ce so Z C hc hs hz H locs ls hP hS hl)
theorem sk_S.ldc2 {own : String} {i : Nat} {v : Int64} (hd : decode M.2.1 pc = .ok (.ldc2_w i, 3)) (ho : M.1.cls = own) (hw : Cond.constantLong own i v ∈ gg_W) (k : sk_S l E d M (pc + 3) L (.long v :: St) h Q) : sk_S l E d M pc L St h Q := by
  intro p e R s m args below meth c ce so Z C hc hs hz H locs ls hP hS hl
  subst ho
  exact lv_ldc2 C.1 C.2.1 C.2.2.2.1 (C.2.2.2.2.1 _ hw) hd (k p e R s m args below meth c ce so Z C hc hs hz H locs ls hP hS hl)
/-- switches -/
theorem sk_S.lookup {dflt : Int} {ps : Array (Int × Int)} {len : Nat} {x : Int32} {off : Int} {tgt : Nat} (hd : decode M.2.1 pc = .ok (.lookupswitch dflt ps, len)) (hp : (ps.toList.zip (ps.toList.drop 1)).all (fun (a, next) => a.1 < next.1) = true) (ho : Op.lookupswitch.offset ps.toList dflt x.toInt = off) (ht : (pc : Int) + off = (tgt : Int)) (k : sk_S l E d M tgt L St h Q) : sk_S l E d M pc L (.int x :: St) h Q := by
  intro p e R s m args below meth c ce so Z C hc hs hz H locs ls hP hS hl
  exact lv_lookup C.1 C.2.1 hd hp ho ht (k p e R s m args below meth c ce so Z C hc hs hz H locs ls hP hS hl)
theorem sk_S.tableOut {dflt lo hi : Int} {offs : Array Int} {len : Nat} {x : Int32} {tgt : Nat} (hd : decode M.2.1 pc = .ok (.tableswitch dflt lo hi offs, len)) (hx : x.toInt < lo ∨ hi < x.toInt) (ht : (pc : Int) + dflt = (tgt : Int)) (k : sk_S l E d M tgt L St h Q) : sk_S l E d M pc L (.int x :: St) h Q := by
  intro p e R s m args below meth c ce so Z C hc hs hz H locs ls hP hS hl
  exact lv_tableOut C.1 C.2.1 hd hx ht (k p e R s m args below meth c ce so Z C hc hs hz H locs ls hP hS hl)
theorem sk_S.tableIn {dflt lo hi : Int} {offs : Array Int} {len : Nat} {x : Int32} {off : Int} {tgt : Nat} (hd : decode M.2.1 pc = .ok (.tableswitch dflt lo hi offs, len)) (h1 : ¬ x.toInt < lo) (h2 : ¬ hi < x.toInt) (ho : offs[(x.toInt - lo).toNat]? = some off) (ht : (pc : Int) + off = (tgt : Int)) (k : sk_S l E d M tgt L St h Q) : sk_S l E d M pc L (.int x :: St) h Q := by
  intro p e R s m args below meth c ce so Z C hc hs hz H locs ls hP hS hl
  exact lv_tableIn C.1 C.2.1 hd h1 h2 ho ht (k p e R s m args below meth c ce so Z C hc hs hz H locs ls hP hS hl)
/-- an index that stands in a row -/
def sk_ix (i : Int32) (j n : Nat) : Prop := ¬ i < 0 ∧ i.toNatClampNeg = j ∧ j < n
theorem sk_ix.vp {i : Int32} {j n : Nat} (h : sk_ix i j n) : vp_in i n := by
  obtain ⟨h1, h2, h3⟩ := h
  subst h2
  rintro (q | q)
  · exact h1 q
  · omega
theorem sk_e_lt {k a b c : Nat} {rs : List (Option Nat)} (he : sk_e k = (a, b, c, rs)) (hc : 0 < c) : k < 67 := by
  apply Decidable.byContradiction
  intro hk
  have h1 : sk_e k = (0, 0, 0, []) := by
    unfold sk_e
    rw [List.getD_eq_getElem?_getD, List.getElem?_eq_none (by show 67 ≤ k; omega)]
    rfl
  rw [h1] at he
  cases he
  omega
theorem sk_S.iald {i : Int32} {a j n : Nat} {rs : List (Option Nat)} (hd : decode M.2.1 pc = .ok (.iaload, 1)) (he : sk_e a = (0, 0, n, rs)) (hi : sk_ix i j n) (k : sk_S l E d M (pc + 1) L (.int (h a j) :: St) h Q) : sk_S l E d M pc L (.int i :: .ref a :: St) h Q := by
  intro p e R s m args below meth c ce so Z C hc hs hz H locs ls hP hS hl
  have ha := sk_W_at (E := E) (h := h) (sk_e_lt he (Nat.lt_of_le_of_lt (Nat.zero_le _) hi.2.2))
  rw [he] at ha
  refine va_iald C.1 C.2.1 C.2.2.2.2.2.1.1 hP a 0 ha rfl hi.vp hd ?_
  rw [hi.2.1]
  exact k p e R s m args below meth c ce so Z C hc hs hz H locs ls hP hS hl
theorem sk_inj {E : sk_V} {H : sk_M} (h : ∀ i j, i < 67 → j < 67 → sk_a E i = sk_a E j → i = j) : va_D (sk_A E) (sk_W E H) := by
  have key : ∀ (k : Nat) (q : Nat × va_E), (sk_W E H)[k]? = some q → k < 67 ∧ q.1 = sk_a E k := by
    intro k q hq
    by_cases hk : k < 67
    · rw [sk_W_at hk] at hq
      cases hq
      exact ⟨hk, rfl⟩
    · simp [sk_W, hk] at hq
  refine ⟨fun i j p q hi hj hpq => ?_, fun k q hk => ⟨k, (key k q hk).1, (key k q hk).2⟩⟩
  obtain ⟨a1, a2⟩ := key i p hi
  obtain ⟨b1, b2⟩ := key j q hj
  exact h i j a1 b1 (by rw [← a2, ← b2]; exact hpq)
theorem sk_S.iast {i x : Int32} {a j n : Nat} {rs : List (Option Nat)} (hd : decode M.2.1 pc = .ok (.iastore, 1)) (he : sk_e a = (0, 0, n, rs)) (hi : sk_ix i j n) (k : sk_S l E d M (pc + 1) L St (sk_u h a j x) Q) : sk_S l E d M pc L (.int x :: .int i :: .ref a :: St) h Q := by
  intro p e R s m args below meth c ce so Z C hc hs hz H locs ls hP hS hl
  have ha := sk_W_at (E := E) (h := h) (sk_e_lt he (Nat.lt_of_le_of_lt (Nat.zero_le _) hi.2.2))
  rw [he] at ha
  refine va_iast C.1 C.2.1 C.2.2.2.2.2.1.1 hP (sk_inj C.2.2.2.2.2.1.2.1) hS a 0 ha rfl hi.vp hd (fun H1 locs1 hP1 hD1 hS1 => ?_)
  rw [hi.2.1, sk_W_row he] at hP1
  exact k p e R s m args below meth c ce so Z C hc hs hz H1 locs1 ls hP1 hS1 hl
theorem sk_S.alen {a t n : Nat} {v : Int32} {rs : List (Option Nat)} (hd : decode M.2.1 pc = .ok (.arraylength, 1)) (he : sk_e a = (0, 0, n, rs)) (hn : 0 < n) (hv : Int32.ofNat n = v) (k : sk_S l E d M (pc + 1) L (.int v :: St) h Q) : sk_S l E d M pc L (.ref a :: St) h Q := by
  intro p e R s m args below meth c ce so Z C hc hs hz H locs ls hP hS hl
  have ha := sk_W_at (E := E) (h := h) (sk_e_lt he hn)
  rw [he] at ha
  exact va_alen C.1 C.2.1 C.2.2.2.2.2.1.1 hP a 0 ha (ty := .int) rfl hv hd (k p e R s m args below meth c ce so Z C hc hs hz H locs ls hP hS hl)
theorem sk_S.aald {i : Int32} {a j n t r : Nat} {X : String} {rs : List (Option Nat)} (hd : decode M.2.1 pc = .ok (.aaload, 1)) (he : sk_e a = (2, t, n, rs)) (hT : [FieldType.int, .object "PromisedFish$Boat", .object "PromisedFish$Law", .object "PromisedFish$Sheet"][t]? = some (.object X)) (hi : sk_ix i j n) (hr : sk_rf rs j = some r) (k : sk_S l E d M (pc + 1) L (.ref r :: St) h Q) : sk_S l E d M pc L (.int i :: .ref a :: St) h Q := by
  intro p e R s m args below meth c ce so Z C hc hs hz H locs ls hP hS hl
  have ha := sk_W_at (E := E) (h := h) (sk_e_lt he (Nat.lt_of_le_of_lt (Nat.zero_le _) hi.2.2))
  rw [he] at ha
  have ht : (sk_y E)[t]? = some (sk_t E t, .object X) := by
    match t, hT with
    | 0, hT => cases hT
    | 1, hT => cases hT; rfl
    | 2, hT => cases hT; rfl
    | 3, hT => cases hT; rfl
    | t + 4, hT => simp at hT
  refine va_aldq C.1 C.2.1 C.2.2.2.2.2.1.1 hP a t ha ht hi.vp hd ?_
  rw [hi.2.1, hr]
  exact k p e R s m args below meth c ce so Z C hc hs hz H locs ls hP hS hl
/-- rows that are only read -/
theorem sk_S.roald {i v : Int32} {a j n : Nat} {f : Nat → Int32} (hd : decode M.2.1 pc = .ok (.iaload, 1)) (he : sk_ro E a = some (n, f)) (hi : sk_ix i j n) (hv : f j = v) (k : sk_S l E d M (pc + 1) L (.int v :: St) h Q) : sk_S l E d M pc L (.int i :: .ref a :: St) h Q := by
  intro p e R s m args below meth c ce so Z C hc hs hz H locs ls hP hS hl
  refine va_ti C.1 C.2.1 (C.2.2.2.2.2.1.2.2.1 a n f he) hS hi.vp (v := .int v) ?_ hd (k p e R s m args below meth c ce so Z C hc hs hz H locs ls hP hS hl)
  rw [hi.2.1, hv]
theorem sk_S.rolen {v : Int32} {a n : Nat} {f : Nat → Int32} (hd : decode M.2.1 pc = .ok (.arraylength, 1)) (he : sk_ro E a = some (n, f)) (hv : Int32.ofNat n = v) (k : sk_S l E d M (pc + 1) L (.int v :: St) h Q) : sk_S l E d M pc L (.ref a :: St) h Q := by
  intro p e R s m args below meth c ce so Z C hc hs hz H locs ls hP hS hl
  exact va_tlen C.1 C.2.1 (C.2.2.2.2.2.1.2.2.1 a n f he) hS hv hd (k p e R s m args below meth c ce so Z C hc hs hz H locs ls hP hS hl)
/-- a static row's place -/
def sk_gs (own : String) (i r : Nat) : Prop := ∃ q ∈ st_K, q.2.2 = r ∧ (Cond.fieldLink own i q.1 q.2.1 "[I" ∈ gg_W ∨ ∃ host, Cond.fieldLinkNest own i q.1 q.2.1 "[I" host ∈ nn_W)
theorem sk_S.gets {own : String} {i r : Nat} (hd : decode M.2.1 pc = .ok (.getstatic i, 3)) (ho : M.1.cls = own) (hg : sk_gs own i r) (k : sk_S l E d M (pc + 3) L (.ref r :: St) h Q) : sk_S l E d M pc L St h Q := by
  intro p e R s m args below meth c ce so Z C hc hs hz H locs ls hP hS hl
  subst ho
  obtain ⟨q, hq, rfl, hw | ⟨host, hw⟩⟩ := hg
  · exact va_gets C.1 C.2.1 (C.2.2.2.2.2.1.2.2.2.1 q hq) hS C.2.2.2.1 (C.2.2.2.2.1 _ hw) (fun _ z => z) hd (k p e R s m args below meth c ce so Z C hc hs hz H locs ls hP hS hl)
  · exact va_getsN C.1 C.2.1 (C.2.2.2.2.2.1.2.2.2.1 q hq) hS C.2.2.2.1 (va_Nw.use rfl (C.2.2.2.2.2.1.2.2.2.2.2.2.2.2 _ hw)) (fun _ z => z) hd (k p e R s m args below meth c ce so Z C hc hs hz H locs ls hP hS hl)
/-- a field, by its class's number and its place -/
def sk_fl (own : String) (i ci f : Nat) : Prop := ∃ (X : String) (T : u_T) (N : Nat), vwCl[ci]? = some (X, T, N) ∧ (∀ w ∈ u_ws X T N, w ∈ gg_W) ∧ f < N ∧ (Cond.fieldLink own i (T f).1 (T f).2.1 (T f).2.2.1 ∈ gg_W ∨ ∃ host, Cond.fieldLinkNest own i (T f).1 (T f).2.1 (T f).2.2.1 host ∈ nn_W)
def sk_fp (own : String) (i ci f : Nat) (ty : FieldType) : Prop := ∃ (X : String) (T : u_T) (N : Nat) (ty0 : Nat → FieldType), vwCl[ci]? = some (X, T, N) ∧ (∀ w ∈ u_ws X T N, w ∈ gg_W) ∧ f < N ∧ (Cond.fieldLink own i (T f).1 (T f).2.1 (T f).2.2.1 ∈ gg_W ∨ ∃ host, Cond.fieldLinkNest own i (T f).1 (T f).2.1 (T f).2.2.1 host ∈ nn_W) ∧
  (∀ k, k < N → parseFieldDescriptor (T k).2.2.1 = some (ty0 k)) ∧ (∀ a, a < N → ∀ b, b < N → a ≠ b → (T a).2.1 ≠ (T b).2.1) ∧ (T f).2.2.2 = false ∧ parseFieldDescriptor (T f).2.2.1 = some ty
theorem sk_S.getf {own : String} {i ci f a n : Nat} {v : Value} {rs : List (Option Nat)} (hd : decode M.2.1 pc = .ok (.getfield i, 3)) (ho : M.1.cls = own) (hf : sk_fl own i ci f) (he : sk_e a = (1, ci, n, rs)) (hn : f < n) (hv : sk_g h a rs f = v) (k : sk_S l E d M (pc + 3) L (v :: St) h Q) : sk_S l E d M pc L (.ref a :: St) h Q := by
  intro p e R s m args below meth c ce so Z C hc hs hz H locs ls hP hS hl
  subst ho; subst hv
  have ha := sk_W_at (E := E) (h := h) (sk_e_lt he (Nat.lt_of_le_of_lt (Nat.zero_le _) hn))
  rw [he] at ha
  obtain ⟨X, T, N, h1, h2, h3, hw | ⟨host, hw⟩⟩ := hf
  · exact va_get C.1 C.2.1 C.2.2.2.2.1 h2 C.2.2.2.1 C.2.2.2.2.2.1.1 hP a ha h1 f h3 (C.2.2.2.2.1 _ hw) (fun _ z => z) (sk_get hn) hd (k p e R s m args below meth c ce so Z C hc hs hz H locs ls hP hS hl)
  · exact va_getN C.1 C.2.1 C.2.2.2.2.1 h2 C.2.2.2.1 C.2.2.2.2.2.1.1 hP a ha h1 f h3 (va_Nw.use rfl (C.2.2.2.2.2.1.2.2.2.2.2.2.2.2 _ hw)) (fun _ z => z) (sk_get hn) hd (k p e R s m args below meth c ce so Z C hc hs hz H locs ls hP hS hl)
theorem sk_S.putf {own : String} {i ci f a n : Nat} {x : Int32} {ty : FieldType} {rs : List (Option Nat)} (hd : decode M.2.1 pc = .ok (.putfield i, 3)) (ho : M.1.cls = own) (hf : sk_fp own i ci f ty) (he : sk_e a = (1, ci, n, rs)) (hn : f < n) (hr : sk_rf rs f = none) (hx : narrow ty (.int x) = .int x) (hfit : fits ty (.int x) = true) (k : sk_S l E d M (pc + 3) L St (sk_u h a f x) Q) : sk_S l E d M pc L (.int x :: .ref a :: St) h Q := by
  intro p e R s m args below meth c ce so Z C hc hs hz H locs ls hP hS hl
  subst ho
  have ha := sk_W_at (E := E) (h := h) (sk_e_lt he (Nat.lt_of_le_of_lt (Nat.zero_le _) hn))
  rw [he] at ha
  obtain ⟨X, T, N, ty0, h1, h2, h3, hw, h4, h5, h6, h7⟩ := hf
  have go : ∀ (H1 : Heap) (locs1 : List Loc), va_P (sk_G E) vwCl ((sk_W E h).set a (sk_a E a, .inr (ci, ((List.range n).map (fun i => sk_v E (sk_g h a rs i))).set f (.int x)))) H1 → va_D (sk_A E) ((sk_W E h).set a (sk_a E a, .inr (ci, ((List.range n).map (fun i => sk_v E (sk_g h a rs i))).set f (.int x)))) → va_S (sk_A E) s.heap H1 locs1 → W p l e R s m args below meth c H1 locs1 ce so Z (F0 m (pc + 3) ls (St.map (sk_v E))) := by
    intro H1 locs1 hP1 _ hS1
    rw [sk_W_obj he hr] at hP1
    exact k p e R s m args below meth c ce so Z C hc hs hz H1 locs1 ls hP1 hS1 hl
  have hl9 : f < ((List.range n).map (fun i => sk_v E (sk_g h a rs i))).length := by simpa using hn
  obtain hw | ⟨host, hw⟩ := hw
  · exact va_put C.1 C.2.1 C.2.2.2.2.1 h2 ty0 h4 h5 C.2.2.2.1 C.2.2.2.2.2.1.1 hP (sk_inj C.2.2.2.2.2.1.2.1) hS a ha h1 f h3 (C.2.2.2.2.1 _ hw) (fun _ z => z) h6 h7 hx hfit hl9 hd go
  · exact va_putN C.1 C.2.1 C.2.2.2.2.1 h2 ty0 h4 h5 C.2.2.2.1 C.2.2.2.2.2.1.1 hP (sk_inj C.2.2.2.2.2.1.2.1) hS a ha h1 f h3 (va_Nw.use rfl (C.2.2.2.2.2.1.2.2.2.2.2.2.2.2 _ hw)) (fun _ z => z) h6 h7 hx hfit hl9 hd go
/-! contracts and calls -/
def sk_Q (E : sk_V) (Q : Option Value → sk_M → Prop) : Array Value → State → Outcome → State → Prop := fun _ st oc t =>
  (∃ (r : Option Value) (h1 : sk_M), oc = .returned (r.map (sk_v E)) ∧ Q r h1 ∧ va_P (sk_G E) vwCl (sk_W E h1) t.heap) ∧ va_F (sk_A E) st t
abbrev sk_w (M : sk_m) : List Cond := .code M.1 M.2.1 M.2.2.1 M.2.2.2 :: gg_W
abbrev sk_R (d : Nat) : Room := { frames := d, cells := 0, slots := 0, locals := 60 * d }
def sk_P (E : sk_V) (h : sk_M) (as : List Value) : Array Value → State → Prop := va_Pc (as.map (sk_v E)) (fun U => va_P (sk_G E) vwCl (sk_W E h) U.heap ∧ sk_F E U)
def sk_K (l : Launch) (E : sk_V) (d : Nat) (M : sk_m) (as : List Value) (h : sk_M) (Q : Option Value → sk_M → Prop) : Prop :=
  Met l M.1 (sk_w M) (sk_R d) (sk_P E h as) (sk_Q E Q) 0 0 (sk_A E)
def sk_in0 (as : List Value) : List (Option Value) := as.flatMap (fun v => if v.category = 2 then [some v, none] else [some v])
def sk_in (as : List Value) (n : Nat) : List (Option Value) := sk_in0 as ++ List.replicate (n - (sk_in0 as).length) none
theorem sk_in0_args {E : sk_V} : ∀ (as : List Value) (k i : Nat) (v : Value), (sk_in0 as)[i]? = some (some v) → (k + i, sk_v E v) ∈ lv_args k (as.map (sk_v E))
  | [], k, i, v, h => by simp [sk_in0] at h
  | w :: as, k, i, v, h => by
    have ih := sk_in0_args (E := E) as
    by_cases hc : w.category = 2
    · have e1 : sk_in0 (w :: as) = some w :: none :: sk_in0 as := by simp [sk_in0, hc]
      rw [e1] at h
      have hc2 : (sk_v E w).category = 2 := (sk_cat E w).trans hc
      match i, h with
      | 0, h =>
        simp only [List.getElem?_cons_zero, Option.some.injEq] at h
        subst h
        exact List.mem_cons_self
      | 1, h => simp at h
      | i + 2, h =>
        have h1 : (sk_in0 as)[i]? = some (some v) := by simpa using h
        have h2 := ih (k + 2) i v h1
        have e2 : k + 2 + i = k + (i + 2) := by omega
        rw [e2] at h2
        show _ ∈ lv_args k (sk_v E w :: as.map (sk_v E))
        rw [lv_args, if_pos hc2]
        exact List.mem_cons_of_mem _ h2
    · have e1 : sk_in0 (w :: as) = some w :: sk_in0 as := by simp [sk_in0, hc]
      rw [e1] at h
      have hc2 : ¬ (sk_v E w).category = 2 := by rw [sk_cat]; exact hc
      match i, h with
      | 0, h =>
        simp only [List.getElem?_cons_zero, Option.some.injEq] at h
        subst h
        exact List.mem_cons_self
      | i + 1, h =>
        have h1 : (sk_in0 as)[i]? = some (some v) := by simpa using h
        have h2 := ih (k + 1) i v h1
        have e2 : k + 1 + i = k + (i + 1) := by omega
        rw [e2] at h2
        show _ ∈ lv_args k (sk_v E w :: as.map (sk_v E))
        rw [lv_args, if_neg hc2]
        exact List.mem_cons_of_mem _ h2
theorem sk_in0_len {E : sk_V} : ∀ (as : List Value), (lg_sl (as.map (sk_v E))).length = (sk_in0 as).length
  | [] => rfl
  | w :: as => by
    have ih := sk_in0_len (E := E) as
    have h1 := sk_cat E w
    unfold lg_sl sk_in0 at ih ⊢
    rw [List.map_cons, List.flatMap_cons, List.flatMap_cons, List.length_append, List.length_append, ih, h1]
    by_cases hc : w.category = 2 <;> simp [hc]
theorem sk_in_l {E : sk_V} {as : List Value} {n : Nat} (hn : (sk_in0 as).length ≤ n) : sk_l E ((lg_sl (as.map (sk_v E)) ++ List.replicate (n - (lg_sl (as.map (sk_v E))).length) Slot.unset).toArray) (sk_in as n) := by
  have h1 := lv_entry (as.map (sk_v E)) (n := n) (by rw [sk_in0_len]; exact hn)
  refine ⟨?_, h1.2.1, fun i v hi => ?_⟩
  · rw [h1.1]
    unfold sk_in
    rw [List.length_append, List.length_replicate]
    omega
  · refine h1.2.2 (i, sk_v E v) ?_
    have h2 : (sk_in0 as)[i]? = some (some v) := by
      unfold sk_in at hi
      by_cases q : i < (sk_in0 as).length
      · rw [List.getElem?_append_left q] at hi
        exact hi
      · rw [List.getElem?_append_right (by omega), List.getElem?_replicate] at hi
        split at hi <;> simp at hi
    have h3 := sk_in0_args (E := E) as 0 i v h2
    rwa [Nat.zero_add] at h3
theorem sk_K.of {as : List Value} (hy : plainName M.1.cls = true) (hn : (sk_in0 as).length ≤ M.2.2.1) (k : sk_S l E d M 0 (sk_in as M.2.2.1) [] h Q) : sk_K l E d M as h Q := by
  refine Met.ofW (cc := M.2.1) (maxL := M.2.2.1) (ret := M.2.2.2) hy rfl ?_
  intro p e s m args below meth c s₁ B hml hv
  obtain ⟨rfl, hP, hF⟩ := hv
  have hx := B.exec
  have hb := B.bytes
  have hr := B.returns
  have hts := atoms_spec (ws := sk_w M) B.pre
  have hown : s.vm.findClass M.1.cls = some m.cls := findClass_of_methodNamed B.named
  have hlocks := B.notSynchronized
  rw [lg_entry_eq]
  refine k p e (sk_R d) s m _ below meth c 0 0 _ ⟨hx, hb, hml, hown, fun w hw => hts w (List.mem_cons_of_mem _ hw), hF, hr, hlocks, Nat.le_refl _, Nat.le_refl _⟩ (Nat.zero_le _) (Nat.zero_le _) ?_ s.heap [] _ hP va_S.rf (sk_in_l hn)
  intro r h1 H locs pc1 ls hq hP1 hS1 hret
  rcases hret with ⟨v, ty, rfl, hty, hn, hd⟩ | ⟨rfl, hty, hd⟩
  · exact W.zret hx hb (hr.trans hty) hn (fun t ht hW => ⟨⟨some (.int v), h1, rfl, hq, by rw [ht]; exact hP1⟩, hS1.F ht⟩) hS1.2.2 hd
  · exact W.vret hx hb (hr.trans hty) (fun t ht hW => ⟨⟨none, h1, rfl, hq, by rw [ht]; exact hP1⟩, hS1.F ht⟩) hS1.2.2 hd
theorem sk_blind {E : sk_V} {h : sk_M} {as : List Value} : FrameBlind (sk_P E h as) := by
  intro a U g mk hv
  obtain ⟨q1, q2, q3⟩ := hv
  exact ⟨q1, q2, q3.go (U := U.calling g mk a) (State.WarmedH.refl U) (fun _ _ _ => rfl)⟩
theorem sk_run {p : Program} {e : Env} {R : Room} {s : State} {m : MethodId} {args : Array Value} {below : List Frame} {meth : Method} {c : Code} {H : Heap} {locs : List Loc} {cells slots : Nat} {Z : State → Prop} {rest st0 : List Value} {ls : Array Slot} {a : Array Value} {Q1 : Option Value → sk_M → Prop}
    (hr : va_Run p l e R s m args below meth c H locs cells slots 0 0 (F0 m pc ls st0) rest (sk_Q E Q1 a) (sk_A E)) (hS : va_S (sk_A E) s.heap H locs)
    (kk : ∀ (r : Option Value) (h1 : sk_M) (H1 : Heap) (locs1 : List Loc), Q1 r h1 → va_P (sk_G E) vwCl (sk_W E h1) H1 → va_S (sk_A E) s.heap H1 locs1 → W p l e R s m args below meth c H1 locs1 cells slots Z (F0 m (pc + 3) ls ((r.map (sk_v E)).toList ++ rest))) : W p l e R s m args below meth c H locs cells slots Z (F0 m pc ls st0) := by
  intro T hT X
  obtain ⟨v, st₀, t, T', L, h0, X', hL, e1, e2, ⟨⟨r, h1, hv, hq, hP1⟩, hz, hk⟩, st⟩ := hr T hT X
  cases hv
  rw [h0] at hz hk
  obtain ⟨t2, a1, b1⟩ := kk r h1 T'.heap (locs ++ L) hq (by rw [e1]; exact hP1)
    ⟨Nat.le_trans hS.1 (by rw [e1]; exact hz), fun q h1 h2 => by rw [e1, hk q (Nat.lt_of_lt_of_le h1 hS.1) h2]; exact hS.2.1 q h1 h2, fun q hq => by
      rcases List.mem_append.mp hq with h | h
      · exact hS.2.2 q h
      · exact hL q h⟩ T' rfl X'
  exact ⟨t2, st t2 a1, b1⟩
/-- a call's words -/
def sk_cl (own : String) (i : Nat) (M : sk_m) (n : Nat) (virt : Bool) : Prop :=
  Cond.code M.1 M.2.1 M.2.2.1 M.2.2.2 ∈ gg_W ∧ Cond.initialized M.1.cls ∈ gg_W ∧ (M.1.cls ≠ "java/lang/invoke/MethodHandle" ∧ M.1.cls ≠ "java/lang/invoke/VarHandle" ∧ (parseMethodDescriptor M.1.desc).map (fun d => d.parameters.length) = some n) ∧ M.2.2.1 ≤ 40 ∧
  (if virt = true then Cond.instanceMethod M.1 ∈ gg_W ∧ Cond.selects M.1.cls M.1 M.1 ∈ gg_W else Cond.static M.1 ∈ gg_W) ∧ (Cond.methodLink own i M.1 ∈ gg_W ∨ ∃ host, Cond.methodLinkNest own i M.1 host ∈ nn_W)
theorem gg_in {ws : List Cond} (h : ∀ w ∈ ws, w ∈ gg_W) : GoodIn gg_W ws := fun w hw => ⟨h w hw, gg_good (h w hw)⟩
theorem sk_w_in {M : sk_m} (h : Cond.code M.1 M.2.1 M.2.2.1 M.2.2.2 ∈ gg_W) : ∀ w ∈ sk_w M, w ∈ gg_W := fun w hw => (List.mem_cons.mp hw).elim (fun e => by rw [e]; exact h) (fun z => z)
theorem sk_rest {E : sk_V} {rest : List Value} (h : (rest.map fun v => v.category).sum ≤ 8) : ((rest.map (sk_v E)).map fun v => v.category).sum ≤ 8 := by
  rw [List.map_map]
  have e : ((fun v : Value => v.category) ∘ sk_v E) = fun v => v.category := by funext v; exact sk_cat E v
  rw [e]
  exact h
theorem sk_S.callV {own : String} {i a ci n : Nat} {as rest : List Value} {M1 : sk_m} {n0 : Nat} {rs : List (Option Nat)} {Q1 : Option Value → sk_M → Prop} (hd : decode M.2.1 pc = .ok (.invokevirtual i, 3)) (ho : M.1.cls = own) (hc : sk_cl own i M1 n true) (hM : sk_K l E d M1 (.ref a :: as) h Q1) (he : sk_e a = (1, ci, n0, rs)) (hn0 : 0 < n0) (hci : (vwCl[ci]?).map (fun q => q.1) = some M1.1.cls) (hlen : as.length = n) (hL : L.length = M.2.2.1) (hst : St = as.reverse ++ .ref a :: rest) (hrest : (rest.map fun v => v.category).sum ≤ 8)
    (k : ∀ r h1, Q1 r h1 → sk_S l E (d + 1) M (pc + 3) L (r.toList ++ rest) h1 Q) : sk_S l E (d + 1) M pc L St h Q := by
  intro p e R s m args below meth c ce so Z C hce hso hz H locs ls hP hS hl
  subst ho; subst hst
  obtain ⟨w1, w2, w3, w4, w5, w6⟩ := hc
  rw [if_pos rfl] at w5
  have ha := sk_W_at (E := E) (h := h) (sk_e_lt he hn0)
  rw [he] at ha
  have hFr : d + 1 ≤ R.frames := C.2.2.2.2.2.2.2.2.1
  have hLo : 60 * (d + 1) ≤ R.locals := C.2.2.2.2.2.2.2.2.2
  obtain ⟨q, hq1, hq2⟩ := Option.map_eq_some_iff.mp hci
  have hrecv := va_recv C.2.2.2.2.2.1.1 hP hq1 ha
  rw [hq2] at hrecv
  have hpre : PreV s H M1.1.cls (sk_a E a) (sk_P E h (.ref a :: as)) (as.map (sk_v E)) := ⟨sk_blind, hrecv, fun U hU hW => ⟨rfl, by rw [hU]; exact hP, C.2.2.2.2.2.1.go hW (fun a h1 h2 => by rw [hU]; exact hS.2.1 a h1 h2)⟩⟩
  have hst : ((as.reverse ++ Value.ref a :: rest).map (sk_v E)) = (as.map (sk_v E)).reverse ++ .ref (sk_a E a) :: rest.map (sk_v E) := by
    rw [List.map_append, List.map_reverse]; rfl
  have fin : ∀ (r : Option Value) (h1 : sk_M) (H1 : Heap) (locs1 : List Loc), Q1 r h1 → va_P (sk_G E) vwCl (sk_W E h1) H1 → va_S (sk_A E) s.heap H1 locs1 → W p l e R s m args below meth c H1 locs1 ce so Z (F0 m (pc + 3) ls ((r.map (sk_v E)).toList ++ rest.map (sk_v E))) := by
    intro r h1 H1 locs1 hq hP1 hS1
    have h2 := k r h1 hq p e R s m args below meth c ce so Z C hce hso hz H1 locs1 ls hP1 hS1 hl
    have e3 : (r.toList ++ rest).map (sk_v E) = (r.map (sk_v E)).toList ++ rest.map (sk_v E) := by cases r <;> simp
    rw [e3] at h2
    exact h2
  have fixx : CallFix p m c M.2.1 M.2.2.1 s args gg_W M.1.cls := ⟨C.1, C.2.1, C.2.2.1, C.2.2.2.1, C.2.2.2.2.1⟩
  have hini : (Cond.initialized M1.1.cls).before args s = true := C.2.2.2.2.1 _ w2
  rcases w6 with w6 | ⟨host, w6⟩
  · have cb : CallB R s args M.1.cls i M1.1 M1.2.1 M1.2.2.1 M1.2.2.2 (sk_w M1) (sk_R d) 0 0 n := callB_of n C.2.2.2.2.1 (gg_in (sk_w_in w1)) rfl rfl rfl hini (C.2.2.2.2.1 _ w6) w3 ⟨by show d + 1 ≤ _; exact hFr, by show 8 + (M1.2.2.1 + 11) + 60 * d ≤ _; omega⟩
    exact sk_run (va_runV (C := M1.1.cls) fixx hM ⟨cb, C.2.2.2.2.1 _ w5.1, C.2.2.2.2.1 _ w5.2⟩ hpre rfl (by rw [List.length_map]; exact hlen) (hl.1.trans hL) hst (lv_room (sk_rest hrest)) hd ⟨hce, hso⟩) hS fin
  · have cb : va_CN R s args M.1.cls i M1.1 host M1.2.1 M1.2.2.1 M1.2.2.2 (sk_w M1) (sk_R d) 0 0 n := va_cnB n C.2.2.2.2.1 (gg_in (sk_w_in w1)) rfl rfl rfl (C.2.2.2.2.2.1.2.2.2.2.2.2.2.2 _ w6) hini w3 ⟨by show d + 1 ≤ _; exact hFr, by show 8 + (M1.2.2.1 + 11) + 60 * d ≤ _; omega⟩
    exact sk_run (va_runVN (C := M1.1.cls) fixx hM ⟨cb, C.2.2.2.2.1 _ w5.1, C.2.2.2.2.1 _ w5.2⟩ hpre rfl (by rw [List.length_map]; exact hlen) (hl.1.trans hL) hst (lv_room (sk_rest hrest)) hd ⟨hce, hso⟩) hS fin
theorem sk_S.callS {own : String} {i n : Nat} {as rest : List Value} {M1 : sk_m} {Q1 : Option Value → sk_M → Prop} (hd : decode M.2.1 pc = .ok (.invokestatic i, 3)) (ho : M.1.cls = own) (hc : sk_cl own i M1 n false) (hM : sk_K l E d M1 as h Q1) (hlen : as.length = n) (hL : L.length = M.2.2.1) (hst : St = as.reverse ++ rest) (hrest : (rest.map fun v => v.category).sum ≤ 8)
    (k : ∀ r h1, Q1 r h1 → sk_S l E (d + 1) M (pc + 3) L (r.toList ++ rest) h1 Q) : sk_S l E (d + 1) M pc L St h Q := by
  intro p e R s m args below meth c ce so Z C hce hso hz H locs ls hP hS hl
  subst ho; subst hst
  obtain ⟨w1, w2, w3, w4, w5, w6⟩ := hc
  rw [if_neg (by decide)] at w5
  have hFr : d + 1 ≤ R.frames := C.2.2.2.2.2.2.2.2.1
  have hLo : 60 * (d + 1) ≤ R.locals := C.2.2.2.2.2.2.2.2.2
  have hpre : PreS s H (sk_P E h as) (as.map (sk_v E)) := ⟨sk_blind, fun U hU hW => ⟨rfl, by rw [hU]; exact hP, C.2.2.2.2.2.1.go hW (fun a h1 h2 => by rw [hU]; exact hS.2.1 a h1 h2)⟩⟩
  have hst : ((as.reverse ++ rest).map (sk_v E)) = (as.map (sk_v E)).reverse ++ rest.map (sk_v E) := by
    rw [List.map_append, List.map_reverse]
  have fin : ∀ (r : Option Value) (h1 : sk_M) (H1 : Heap) (locs1 : List Loc), Q1 r h1 → va_P (sk_G E) vwCl (sk_W E h1) H1 → va_S (sk_A E) s.heap H1 locs1 → W p l e R s m args below meth c H1 locs1 ce so Z (F0 m (pc + 3) ls ((r.map (sk_v E)).toList ++ rest.map (sk_v E))) := by
    intro r h1 H1 locs1 hq hP1 hS1
    have h2 := k r h1 hq p e R s m args below meth c ce so Z C hce hso hz H1 locs1 ls hP1 hS1 hl
    have e3 : (r.toList ++ rest).map (sk_v E) = (r.map (sk_v E)).toList ++ rest.map (sk_v E) := by cases r <;> simp
    rw [e3] at h2
    exact h2
  have fixx : CallFix p m c M.2.1 M.2.2.1 s args gg_W M.1.cls := ⟨C.1, C.2.1, C.2.2.1, C.2.2.2.1, C.2.2.2.2.1⟩
  have hini : (Cond.initialized M1.1.cls).before args s = true := C.2.2.2.2.1 _ w2
  rcases w6 with w6 | ⟨host, w6⟩
  · have cb : CallB R s args M.1.cls i M1.1 M1.2.1 M1.2.2.1 M1.2.2.2 (sk_w M1) (sk_R d) 0 0 n := callB_of n C.2.2.2.2.1 (gg_in (sk_w_in w1)) rfl rfl rfl hini (C.2.2.2.2.1 _ w6) w3 ⟨by show d + 1 ≤ _; exact hFr, by show 8 + (M1.2.2.1 + 11) + 60 * d ≤ _; omega⟩
    exact sk_run (va_runS fixx hM ⟨cb, C.2.2.2.2.1 _ w5⟩ hpre rfl (by rw [List.length_map]; exact hlen) (hl.1.trans hL) hst (lv_room (sk_rest hrest)) hd ⟨hce, hso⟩) hS fin
  · have cb : va_CN R s args M.1.cls i M1.1 host M1.2.1 M1.2.2.1 M1.2.2.2 (sk_w M1) (sk_R d) 0 0 n := va_cnB n C.2.2.2.2.1 (gg_in (sk_w_in w1)) rfl rfl rfl (C.2.2.2.2.2.1.2.2.2.2.2.2.2.2 _ w6) hini w3 ⟨by show d + 1 ≤ _; exact hFr, by show 8 + (M1.2.2.1 + 11) + 60 * d ≤ _; omega⟩
    exact sk_run (va_runSN fixx hM ⟨cb, C.2.2.2.2.1 _ w5, trivial⟩ hpre rfl (by rw [List.length_map]; exact hlen) (hl.1.trans hL) hst (lv_room (sk_rest hrest)) hd ⟨hce, hso⟩) hS fin
/-- the JDK's greater and smaller of two -/
theorem sk_S.mmax {own : String} {i : Nat} {x y : Int32} (hd : decode M.2.1 pc = .ok (.invokestatic i, 3)) (ho : M.1.cls = own) (hw : Cond.methodLink own i Lib.Math.max.name ∈ gg_W) (hw2 : Cond.static Lib.Math.max.name ∈ gg_W) (hw3 : Cond.initialized "java/lang/Math" ∈ gg_W) (hw4 : Cond.code Lib.Math.max.name Lib.Math.max.code 2 (some .int) ∈ gg_W) (hL : L.length = M.2.2.1) (hrest : (St.map fun v => v.category).sum ≤ 8)
    (k : sk_S l E (d + 1) M (pc + 3) L (.int (if x < y then y else x) :: St) h Q) : sk_S l E (d + 1) M pc L (.int y :: .int x :: St) h Q := by
  intro p e R s m args below meth c ce so Z C hc hs hz H locs ls hP hS hl
  subst ho
  have hFr : d + 1 ≤ R.frames := C.2.2.2.2.2.2.2.2.1
  have hLo : 60 * (d + 1) ≤ R.locals := C.2.2.2.2.2.2.2.2.2
  have hre := sk_rest (E := E) hrest
  exact va_mmax C.1 C.2.1 (C.2.2.1.trans (hl.1.trans hL).symm) C.2.2.2.1 (C.2.2.2.2.1 _ hw) (C.2.2.2.2.1 _ hw2) (C.2.2.2.2.1 _ hw3) (C.2.2.2.2.1 _ hw4) (by omega) (by omega) hc hs hd (k p e R s m args below meth c ce so Z C hc hs hz H locs ls hP hS hl)
theorem sk_S.mmin {own : String} {i : Nat} {x y : Int32} (hd : decode M.2.1 pc = .ok (.invokestatic i, 3)) (ho : M.1.cls = own) (hw : Cond.methodLink own i Lib.Math.min.name ∈ gg_W) (hw2 : Cond.static Lib.Math.min.name ∈ gg_W) (hw3 : Cond.initialized "java/lang/Math" ∈ gg_W) (hw4 : Cond.code Lib.Math.min.name Lib.Math.min.code 2 (some .int) ∈ gg_W) (hL : L.length = M.2.2.1) (hrest : (St.map fun v => v.category).sum ≤ 8)
    (k : sk_S l E (d + 1) M (pc + 3) L (.int (if y < x then y else x) :: St) h Q) : sk_S l E (d + 1) M pc L (.int y :: .int x :: St) h Q := by
  intro p e R s m args below meth c ce so Z C hc hs hz H locs ls hP hS hl
  subst ho
  have hFr : d + 1 ≤ R.frames := C.2.2.2.2.2.2.2.2.1
  have hLo : 60 * (d + 1) ≤ R.locals := C.2.2.2.2.2.2.2.2.2
  have hre := sk_rest (E := E) hrest
  exact va_mmin C.1 C.2.1 (C.2.2.1.trans (hl.1.trans hL).symm) C.2.2.2.1 (C.2.2.2.2.1 _ hw) (C.2.2.2.2.1 _ hw2) (C.2.2.2.2.1 _ hw3) (C.2.2.2.2.1 _ hw4) (by omega) (by omega) hc hs hd (k p e R s m args below meth c ce so Z C hc hs hz H locs ls hP hS hl)
/-- the JDK's copy of a row's part -/
theorem sk_S.acopy {own : String} {i a b n0 n1 : Nat} {sp dp n : Int32} {sn dn nn : Nat} {rs0 rs1 : List (Option Nat)} (hd : decode M.2.1 pc = .ok (.invokestatic i, 3)) (ho : M.1.cls = own) (hw : Cond.methodLink own i arraycopyName ∈ gg_W) (hw2 : Cond.native arraycopyName ∈ gg_W) (hw3 : Cond.static arraycopyName ∈ gg_W) (hw4 : Cond.initialized "java/lang/System" ∈ gg_W) (hL : L.length = M.2.2.1) (hrest : (St.map fun v => v.category).sum ≤ 8)
    (he0 : sk_e a = (0, 0, n0, rs0)) (he1 : sk_e b = (0, 0, n1, rs1)) (hn0 : 0 < n0) (hn1 : 0 < n1) (h1 : ¬ sp < 0) (h2 : ¬ dp < 0) (h3 : ¬ n < 0) (e1 : sp.toNatClampNeg = sn) (e2 : dp.toNatClampNeg = dn) (e3 : n.toNatClampNeg = nn) (h4 : sn + nn ≤ n0) (h5 : dn + nn ≤ n1)
    (k : sk_S l E (d + 1) M (pc + 3) L St (sk_r h b (va_cpy (h a) (h b) sn dn nn)) Q) : sk_S l E (d + 1) M pc L (.int n :: .int dp :: .ref b :: .int sp :: .ref a :: St) h Q := by
  intro p e R s m args below meth c ce so Z C hc hs hz H locs ls hP hS hl
  subst ho; subst e1; subst e2; subst e3
  have hFr : d + 1 ≤ R.frames := C.2.2.2.2.2.2.2.2.1
  have hLo : 60 * (d + 1) ≤ R.locals := C.2.2.2.2.2.2.2.2.2
  have hre := sk_rest (E := E) hrest
  have ha0 := sk_W_at (E := E) (h := h) (sk_e_lt he0 hn0)
  have ha1 := sk_W_at (E := E) (h := h) (sk_e_lt he1 hn1)
  rw [he0] at ha0
  rw [he1] at ha1
  have hnat : nativeFrameWords "java/lang/System" "arraycopy" 5 + 11 ≤ 40 := by decide +kernel
  refine va_copyi C.1 C.2.1 (C.2.2.1.trans (hl.1.trans hL).symm) C.2.2.2.1 (C.2.2.2.2.1 _ hw) (C.2.2.2.2.1 _ hw2) (C.2.2.2.2.1 _ hw3) (C.2.2.2.2.1 _ hw4) C.2.2.2.2.2.1.1 hP (sk_inj C.2.2.2.2.2.1.2.1) hS a b 0 0 ha0 ha1 rfl rfl rfl h1 h2 h3 h4 h5 (fun _ _ => rfl) (by omega) (by omega) hd (fun H1 locs1 hP1 _ hS1 => ?_)
  rw [sk_W_row he1] at hP1
  exact k p e R s m args below meth c ce so Z C hc hs hz H1 locs1 ls hP1 hS1 hl
end RULES
end
