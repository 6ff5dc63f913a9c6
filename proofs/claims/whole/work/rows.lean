section
-- ===== PART A: goes FIRST, ahead of the names: the tables' words, and 'selects' of the private methods out of them =====
/-- a private method of a class that the tables say can be made, by its rows of tables_1 -/
def lw_okq (q : MethodName × Nat) : Prop := (q.1.cls ≠ "java/lang/invoke/MethodHandle" ∧ q.1.cls ≠ "java/lang/invoke/VarHandle") ∧ Cond.instantiable q.1.cls q.2 ∈ tables_1 ∧ Cond.privateMethod q.1 ∈ tables_1 ∧ Cond.instanceMethod q.1 ∈ tables_1
theorem lw_p0 : lw_okq (⟨"PromisedFish", "refuse", "(I)I"⟩, 7) := ⟨⟨by decide +kernel, by decide +kernel⟩, List.mem_of_getElem? (i := 19) (by decide +kernel), List.mem_of_getElem? (i := 254) (by decide +kernel), List.mem_of_getElem? (i := 255) (by decide +kernel)⟩
theorem lw_p1 : lw_okq (⟨"PromisedFish$Boat", "turnInto", "(I)V"⟩, 3) := ⟨⟨by decide +kernel, by decide +kernel⟩, List.mem_of_getElem? (i := 39) (by decide +kernel), List.mem_of_getElem? (i := 260) (by decide +kernel), List.mem_of_getElem? (i := 261) (by decide +kernel)⟩
theorem lw_p2 : lw_okq (⟨"PromisedFish", "isBoat", "(I)Z"⟩, 7) := ⟨⟨by decide +kernel, by decide +kernel⟩, List.mem_of_getElem? (i := 19) (by decide +kernel), List.mem_of_getElem? (i := 268) (by decide +kernel), List.mem_of_getElem? (i := 269) (by decide +kernel)⟩
theorem lw_p3 : lw_okq (⟨"PromisedFish$Boat", "eats", "(I)I"⟩, 3) := ⟨⟨by decide +kernel, by decide +kernel⟩, List.mem_of_getElem? (i := 39) (by decide +kernel), List.mem_of_getElem? (i := 275) (by decide +kernel), List.mem_of_getElem? (i := 276) (by decide +kernel)⟩
theorem lw_p4 : lw_okq (⟨"PromisedFish$Quay", "landed", "(IIIII)I"⟩, 15) := ⟨⟨by decide +kernel, by decide +kernel⟩, List.mem_of_getElem? (i := 27) (by decide +kernel), List.mem_of_getElem? (i := 279) (by decide +kernel), List.mem_of_getElem? (i := 280) (by decide +kernel)⟩
theorem lw_p5 : lw_okq (⟨"PromisedFish$Boat", "hauls", "(III)I"⟩, 3) := ⟨⟨by decide +kernel, by decide +kernel⟩, List.mem_of_getElem? (i := 39) (by decide +kernel), List.mem_of_getElem? (i := 283) (by decide +kernel), List.mem_of_getElem? (i := 284) (by decide +kernel)⟩
theorem lw_p6 : lw_okq (⟨"PromisedFish$Law", "gives", "(III)I"⟩, 4) := ⟨⟨by decide +kernel, by decide +kernel⟩, List.mem_of_getElem? (i := 61) (by decide +kernel), List.mem_of_getElem? (i := 287) (by decide +kernel), List.mem_of_getElem? (i := 288) (by decide +kernel)⟩
theorem lw_p7 : lw_okq (⟨"PromisedFish$Boat", "isOneOf", "(I)Z"⟩, 3) := ⟨⟨by decide +kernel, by decide +kernel⟩, List.mem_of_getElem? (i := 39) (by decide +kernel), List.mem_of_getElem? (i := 311) (by decide +kernel), List.mem_of_getElem? (i := 312) (by decide +kernel)⟩
theorem lw_p8 : lw_okq (⟨"PromisedFish$Quay", "promise", "(II)I"⟩, 15) := ⟨⟨by decide +kernel, by decide +kernel⟩, List.mem_of_getElem? (i := 27) (by decide +kernel), List.mem_of_getElem? (i := 338) (by decide +kernel), List.mem_of_getElem? (i := 339) (by decide +kernel)⟩
theorem lw_p9 : lw_okq (⟨"PromisedFish$Quay", "coins", "(II)I"⟩, 15) := ⟨⟨by decide +kernel, by decide +kernel⟩, List.mem_of_getElem? (i := 27) (by decide +kernel), List.mem_of_getElem? (i := 342) (by decide +kernel), List.mem_of_getElem? (i := 343) (by decide +kernel)⟩
theorem lw_p10 : lw_okq (⟨"PromisedFish$Reader", "faultIn", "([III)I"⟩, 6) := ⟨⟨by decide +kernel, by decide +kernel⟩, List.mem_of_getElem? (i := 147) (by decide +kernel), List.mem_of_getElem? (i := 359) (by decide +kernel), List.mem_of_getElem? (i := 360) (by decide +kernel)⟩
theorem lw_p11 : lw_okq (⟨"PromisedFish$Reader", "readLevel", "(II)Z"⟩, 6) := ⟨⟨by decide +kernel, by decide +kernel⟩, List.mem_of_getElem? (i := 147) (by decide +kernel), List.mem_of_getElem? (i := 368) (by decide +kernel), List.mem_of_getElem? (i := 369) (by decide +kernel)⟩
theorem lw_p12 : lw_okq (⟨"PromisedFish$Reader", "readItem", "(I)Z"⟩, 6) := ⟨⟨by decide +kernel, by decide +kernel⟩, List.mem_of_getElem? (i := 147) (by decide +kernel), List.mem_of_getElem? (i := 372) (by decide +kernel), List.mem_of_getElem? (i := 373) (by decide +kernel)⟩
theorem lw_p13 : lw_okq (⟨"PromisedFish$Reader", "next", "()I"⟩, 6) := ⟨⟨by decide +kernel, by decide +kernel⟩, List.mem_of_getElem? (i := 147) (by decide +kernel), List.mem_of_getElem? (i := 376) (by decide +kernel), List.mem_of_getElem? (i := 377) (by decide +kernel)⟩
theorem lw_p14 : lw_okq (⟨"PromisedFish$Reader", "readNumber", "()I"⟩, 6) := ⟨⟨by decide +kernel, by decide +kernel⟩, List.mem_of_getElem? (i := 147) (by decide +kernel), List.mem_of_getElem? (i := 383) (by decide +kernel), List.mem_of_getElem? (i := 384) (by decide +kernel)⟩
theorem lw_p15 : lw_okq (⟨"PromisedFish$Reader", "write", "(I)V"⟩, 6) := ⟨⟨by decide +kernel, by decide +kernel⟩, List.mem_of_getElem? (i := 147) (by decide +kernel), List.mem_of_getElem? (i := 387) (by decide +kernel), List.mem_of_getElem? (i := 388) (by decide +kernel)⟩
def lw_privs_1 : List (MethodName × Nat) := [(⟨"PromisedFish", "refuse", "(I)I"⟩, 7), (⟨"PromisedFish$Boat", "turnInto", "(I)V"⟩, 3), (⟨"PromisedFish", "isBoat", "(I)Z"⟩, 7), (⟨"PromisedFish$Boat", "eats", "(I)I"⟩, 3), (⟨"PromisedFish$Quay", "landed", "(IIIII)I"⟩, 15), (⟨"PromisedFish$Boat", "hauls", "(III)I"⟩, 3), (⟨"PromisedFish$Law", "gives", "(III)I"⟩, 4), (⟨"PromisedFish$Boat", "isOneOf", "(I)Z"⟩, 3), (⟨"PromisedFish$Quay", "promise", "(II)I"⟩, 15), (⟨"PromisedFish$Quay", "coins", "(II)I"⟩, 15), (⟨"PromisedFish$Reader", "faultIn", "([III)I"⟩, 6), (⟨"PromisedFish$Reader", "readLevel", "(II)Z"⟩, 6), (⟨"PromisedFish$Reader", "readItem", "(I)Z"⟩, 6), (⟨"PromisedFish$Reader", "next", "()I"⟩, 6), (⟨"PromisedFish$Reader", "readNumber", "()I"⟩, 6), (⟨"PromisedFish$Reader", "write", "(I)V"⟩, 6)]
theorem lw_r1 : ∀ q ∈ lw_privs_1, lw_okq q := List.forall_mem_cons.mpr ⟨lw_p0, List.forall_mem_cons.mpr ⟨lw_p1, List.forall_mem_cons.mpr ⟨lw_p2, List.forall_mem_cons.mpr ⟨lw_p3, List.forall_mem_cons.mpr ⟨lw_p4, List.forall_mem_cons.mpr ⟨lw_p5, List.forall_mem_cons.mpr ⟨lw_p6, List.forall_mem_cons.mpr ⟨lw_p7, List.forall_mem_cons.mpr ⟨lw_p8, List.forall_mem_cons.mpr ⟨lw_p9, List.forall_mem_cons.mpr ⟨lw_p10, List.forall_mem_cons.mpr ⟨lw_p11, List.forall_mem_cons.mpr ⟨lw_p12, List.forall_mem_cons.mpr ⟨lw_p13, List.forall_mem_cons.mpr ⟨lw_p14, List.forall_mem_cons.mpr ⟨lw_p15, fun _ h => absurd h List.not_mem_nil⟩⟩⟩⟩⟩⟩⟩⟩⟩⟩⟩⟩⟩⟩⟩⟩
theorem lw_p16 : lw_okq (⟨"PromisedFish$Reader", "nameOf", "(I)I"⟩, 6) := ⟨⟨by decide +kernel, by decide +kernel⟩, List.mem_of_getElem? (i := 147) (by decide +kernel), List.mem_of_getElem? (i := 391) (by decide +kernel), List.mem_of_getElem? (i := 392) (by decide +kernel)⟩
theorem lw_p17 : lw_okq (⟨"PromisedFish$Reader", "readDenied", "(I)Z"⟩, 6) := ⟨⟨by decide +kernel, by decide +kernel⟩, List.mem_of_getElem? (i := 147) (by decide +kernel), List.mem_of_getElem? (i := 444) (by decide +kernel), List.mem_of_getElem? (i := 445) (by decide +kernel)⟩
theorem lw_p18 : lw_okq (⟨"PromisedFish$Reader", "readBracketed", "(I)Z"⟩, 6) := ⟨⟨by decide +kernel, by decide +kernel⟩, List.mem_of_getElem? (i := 147) (by decide +kernel), List.mem_of_getElem? (i := 448) (by decide +kernel), List.mem_of_getElem? (i := 449) (by decide +kernel)⟩
theorem lw_p19 : lw_okq (⟨"PromisedFish$Law", "take", "([II)V"⟩, 4) := ⟨⟨by decide +kernel, by decide +kernel⟩, List.mem_of_getElem? (i := 61) (by decide +kernel), List.mem_of_getElem? (i := 455) (by decide +kernel), List.mem_of_getElem? (i := 456) (by decide +kernel)⟩
theorem lw_p20 : lw_okq (⟨"PromisedFish$Quay", "settle", "()I"⟩, 15) := ⟨⟨by decide +kernel, by decide +kernel⟩, List.mem_of_getElem? (i := 27) (by decide +kernel), List.mem_of_getElem? (i := 475) (by decide +kernel), List.mem_of_getElem? (i := 476) (by decide +kernel)⟩
theorem lw_p21 : lw_okq (⟨"PromisedFish$Quay", "caught", "(IIII)I"⟩, 15) := ⟨⟨by decide +kernel, by decide +kernel⟩, List.mem_of_getElem? (i := 27) (by decide +kernel), List.mem_of_getElem? (i := 479) (by decide +kernel), List.mem_of_getElem? (i := 480) (by decide +kernel)⟩
theorem lw_p22 : lw_okq (⟨"PromisedFish$Quay", "dayByDraws", "()I"⟩, 15) := ⟨⟨by decide +kernel, by decide +kernel⟩, List.mem_of_getElem? (i := 27) (by decide +kernel), List.mem_of_getElem? (i := 492) (by decide +kernel), List.mem_of_getElem? (i := 493) (by decide +kernel)⟩
theorem lw_p23 : lw_okq (⟨"PromisedFish$Quay", "draw", "()I"⟩, 15) := ⟨⟨by decide +kernel, by decide +kernel⟩, List.mem_of_getElem? (i := 27) (by decide +kernel), List.mem_of_getElem? (i := 496) (by decide +kernel), List.mem_of_getElem? (i := 497) (by decide +kernel)⟩
theorem lw_p24 : lw_okq (⟨"PromisedFish$Quay", "caughtNow", "(I)I"⟩, 15) := ⟨⟨by decide +kernel, by decide +kernel⟩, List.mem_of_getElem? (i := 27) (by decide +kernel), List.mem_of_getElem? (i := 511) (by decide +kernel), List.mem_of_getElem? (i := 512) (by decide +kernel)⟩
theorem lw_p25 : lw_okq (⟨"PromisedFish$Sheet", "isMissing", "()Z"⟩, 3) := ⟨⟨by decide +kernel, by decide +kernel⟩, List.mem_of_getElem? (i := 203) (by decide +kernel), List.mem_of_getElem? (i := 602) (by decide +kernel), List.mem_of_getElem? (i := 603) (by decide +kernel)⟩
theorem lw_p26 : lw_okq (⟨"PromisedFish$Voices", "hear", "(LPromisedFish$Boat;III)I"⟩, 6) := ⟨⟨by decide +kernel, by decide +kernel⟩, List.mem_of_getElem? (i := 174) (by decide +kernel), List.mem_of_getElem? (i := 620) (by decide +kernel), List.mem_of_getElem? (i := 621) (by decide +kernel)⟩
theorem lw_p27 : lw_okq (⟨"PromisedFish$Voices", "speak", "(IIII)I"⟩, 6) := ⟨⟨by decide +kernel, by decide +kernel⟩, List.mem_of_getElem? (i := 174) (by decide +kernel), List.mem_of_getElem? (i := 624) (by decide +kernel), List.mem_of_getElem? (i := 625) (by decide +kernel)⟩
theorem lw_p28 : lw_okq (⟨"PromisedFish$Voices", "say", "(IIII)I"⟩, 6) := ⟨⟨by decide +kernel, by decide +kernel⟩, List.mem_of_getElem? (i := 174) (by decide +kernel), List.mem_of_getElem? (i := 631) (by decide +kernel), List.mem_of_getElem? (i := 632) (by decide +kernel)⟩
theorem lw_p29 : lw_okq (⟨"PromisedFish$Voices", "part", "(I)I"⟩, 6) := ⟨⟨by decide +kernel, by decide +kernel⟩, List.mem_of_getElem? (i := 174) (by decide +kernel), List.mem_of_getElem? (i := 635) (by decide +kernel), List.mem_of_getElem? (i := 636) (by decide +kernel)⟩
theorem lw_p30 : lw_okq (⟨"PromisedFish$Sheet", "lay", "(II)V"⟩, 3) := ⟨⟨by decide +kernel, by decide +kernel⟩, List.mem_of_getElem? (i := 203) (by decide +kernel), List.mem_of_getElem? (i := 648) (by decide +kernel), List.mem_of_getElem? (i := 649) (by decide +kernel)⟩
theorem lw_p31 : lw_okq (⟨"PromisedFish$Sheet", "lowestBits", "(I)I"⟩, 3) := ⟨⟨by decide +kernel, by decide +kernel⟩, List.mem_of_getElem? (i := 203) (by decide +kernel), List.mem_of_getElem? (i := 657) (by decide +kernel), List.mem_of_getElem? (i := 658) (by decide +kernel)⟩
def lw_privs_2 : List (MethodName × Nat) := [(⟨"PromisedFish$Reader", "nameOf", "(I)I"⟩, 6), (⟨"PromisedFish$Reader", "readDenied", "(I)Z"⟩, 6), (⟨"PromisedFish$Reader", "readBracketed", "(I)Z"⟩, 6), (⟨"PromisedFish$Law", "take", "([II)V"⟩, 4), (⟨"PromisedFish$Quay", "settle", "()I"⟩, 15), (⟨"PromisedFish$Quay", "caught", "(IIII)I"⟩, 15), (⟨"PromisedFish$Quay", "dayByDraws", "()I"⟩, 15), (⟨"PromisedFish$Quay", "draw", "()I"⟩, 15), (⟨"PromisedFish$Quay", "caughtNow", "(I)I"⟩, 15), (⟨"PromisedFish$Sheet", "isMissing", "()Z"⟩, 3), (⟨"PromisedFish$Voices", "hear", "(LPromisedFish$Boat;III)I"⟩, 6), (⟨"PromisedFish$Voices", "speak", "(IIII)I"⟩, 6), (⟨"PromisedFish$Voices", "say", "(IIII)I"⟩, 6), (⟨"PromisedFish$Voices", "part", "(I)I"⟩, 6), (⟨"PromisedFish$Sheet", "lay", "(II)V"⟩, 3), (⟨"PromisedFish$Sheet", "lowestBits", "(I)I"⟩, 3)]
theorem lw_r2 : ∀ q ∈ lw_privs_2, lw_okq q := List.forall_mem_cons.mpr ⟨lw_p16, List.forall_mem_cons.mpr ⟨lw_p17, List.forall_mem_cons.mpr ⟨lw_p18, List.forall_mem_cons.mpr ⟨lw_p19, List.forall_mem_cons.mpr ⟨lw_p20, List.forall_mem_cons.mpr ⟨lw_p21, List.forall_mem_cons.mpr ⟨lw_p22, List.forall_mem_cons.mpr ⟨lw_p23, List.forall_mem_cons.mpr ⟨lw_p24, List.forall_mem_cons.mpr ⟨lw_p25, List.forall_mem_cons.mpr ⟨lw_p26, List.forall_mem_cons.mpr ⟨lw_p27, List.forall_mem_cons.mpr ⟨lw_p28, List.forall_mem_cons.mpr ⟨lw_p29, List.forall_mem_cons.mpr ⟨lw_p30, List.forall_mem_cons.mpr ⟨lw_p31, fun _ h => absurd h List.not_mem_nil⟩⟩⟩⟩⟩⟩⟩⟩⟩⟩⟩⟩⟩⟩⟩⟩
theorem lw_p32 : lw_okq (⟨"PromisedFish$Sheet", "has", "(II)Z"⟩, 3) := ⟨⟨by decide +kernel, by decide +kernel⟩, List.mem_of_getElem? (i := 203) (by decide +kernel), List.mem_of_getElem? (i := 666) (by decide +kernel), List.mem_of_getElem? (i := 667) (by decide +kernel)⟩
theorem lw_p33 : lw_okq (⟨"PromisedFish$Quay", "takeFrom", "(LPromisedFish$Quay;)V"⟩, 15) := ⟨⟨by decide +kernel, by decide +kernel⟩, List.mem_of_getElem? (i := 27) (by decide +kernel), List.mem_of_getElem? (i := 683) (by decide +kernel), List.mem_of_getElem? (i := 684) (by decide +kernel)⟩
theorem lw_p34 : lw_okq (⟨"PromisedFish$Boat", "takeFrom", "(LPromisedFish$Boat;)V"⟩, 3) := ⟨⟨by decide +kernel, by decide +kernel⟩, List.mem_of_getElem? (i := 39) (by decide +kernel), List.mem_of_getElem? (i := 688) (by decide +kernel), List.mem_of_getElem? (i := 689) (by decide +kernel)⟩
theorem lw_p35 : lw_okq (⟨"PromisedFish$Law", "takeFrom", "(LPromisedFish$Law;)V"⟩, 4) := ⟨⟨by decide +kernel, by decide +kernel⟩, List.mem_of_getElem? (i := 61) (by decide +kernel), List.mem_of_getElem? (i := 692) (by decide +kernel), List.mem_of_getElem? (i := 693) (by decide +kernel)⟩
theorem lw_p36 : lw_okq (⟨"PromisedFishModel", "error", "(I)I"⟩, 20) := ⟨⟨by decide +kernel, by decide +kernel⟩, List.mem_of_getElem? (i := 717) (by decide +kernel), List.mem_of_getElem? (i := 795) (by decide +kernel), List.mem_of_getElem? (i := 796) (by decide +kernel)⟩
theorem lw_p37 : lw_okq (⟨"PromisedFishModel", "isBoat", "(I)Z"⟩, 20) := ⟨⟨by decide +kernel, by decide +kernel⟩, List.mem_of_getElem? (i := 717) (by decide +kernel), List.mem_of_getElem? (i := 805) (by decide +kernel), List.mem_of_getElem? (i := 806) (by decide +kernel)⟩
theorem lw_p38 : lw_okq (⟨"PromisedFishModel", "of", "(II)I"⟩, 20) := ⟨⟨by decide +kernel, by decide +kernel⟩, List.mem_of_getElem? (i := 717) (by decide +kernel), List.mem_of_getElem? (i := 809) (by decide +kernel), List.mem_of_getElem? (i := 810) (by decide +kernel)⟩
theorem lw_p39 : lw_okq (⟨"PromisedFishModel", "eatsOf", "(I)I"⟩, 20) := ⟨⟨by decide +kernel, by decide +kernel⟩, List.mem_of_getElem? (i := 717) (by decide +kernel), List.mem_of_getElem? (i := 813) (by decide +kernel), List.mem_of_getElem? (i := 814) (by decide +kernel)⟩
theorem lw_p40 : lw_okq (⟨"PromisedFishModel", "landsOf", "(III)I"⟩, 20) := ⟨⟨by decide +kernel, by decide +kernel⟩, List.mem_of_getElem? (i := 717) (by decide +kernel), List.mem_of_getElem? (i := 817) (by decide +kernel), List.mem_of_getElem? (i := 818) (by decide +kernel)⟩
theorem lw_p41 : lw_okq (⟨"PromisedFishModel", "haulsOf", "(II)I"⟩, 20) := ⟨⟨by decide +kernel, by decide +kernel⟩, List.mem_of_getElem? (i := 717) (by decide +kernel), List.mem_of_getElem? (i := 821) (by decide +kernel), List.mem_of_getElem? (i := 822) (by decide +kernel)⟩
theorem lw_p42 : lw_okq (⟨"PromisedFishModel", "gives", "(IIII)I"⟩, 20) := ⟨⟨by decide +kernel, by decide +kernel⟩, List.mem_of_getElem? (i := 717) (by decide +kernel), List.mem_of_getElem? (i := 825) (by decide +kernel), List.mem_of_getElem? (i := 826) (by decide +kernel)⟩
theorem lw_p43 : lw_okq (⟨"PromisedFishModel", "works", "(I)I"⟩, 20) := ⟨⟨by decide +kernel, by decide +kernel⟩, List.mem_of_getElem? (i := 717) (by decide +kernel), List.mem_of_getElem? (i := 829) (by decide +kernel), List.mem_of_getElem? (i := 830) (by decide +kernel)⟩
theorem lw_p44 : lw_okq (⟨"PromisedFishModel", "becomes", "(II)I"⟩, 20) := ⟨⟨by decide +kernel, by decide +kernel⟩, List.mem_of_getElem? (i := 717) (by decide +kernel), List.mem_of_getElem? (i := 843) (by decide +kernel), List.mem_of_getElem? (i := 844) (by decide +kernel)⟩
theorem lw_p45 : lw_okq (⟨"PromisedFishModel", "sells", "(II)I"⟩, 20) := ⟨⟨by decide +kernel, by decide +kernel⟩, List.mem_of_getElem? (i := 717) (by decide +kernel), List.mem_of_getElem? (i := 872) (by decide +kernel), List.mem_of_getElem? (i := 873) (by decide +kernel)⟩
theorem lw_p46 : lw_okq (⟨"PromisedFishModel", "coinsFor", "(II)I"⟩, 20) := ⟨⟨by decide +kernel, by decide +kernel⟩, List.mem_of_getElem? (i := 717) (by decide +kernel), List.mem_of_getElem? (i := 876) (by decide +kernel), List.mem_of_getElem? (i := 877) (by decide +kernel)⟩
theorem lw_p47 : lw_okq (⟨"PromisedFishModel", "any", "()V"⟩, 20) := ⟨⟨by decide +kernel, by decide +kernel⟩, List.mem_of_getElem? (i := 717) (by decide +kernel), List.mem_of_getElem? (i := 891) (by decide +kernel), List.mem_of_getElem? (i := 892) (by decide +kernel)⟩
def lw_privs_3 : List (MethodName × Nat) := [(⟨"PromisedFish$Sheet", "has", "(II)Z"⟩, 3), (⟨"PromisedFish$Quay", "takeFrom", "(LPromisedFish$Quay;)V"⟩, 15), (⟨"PromisedFish$Boat", "takeFrom", "(LPromisedFish$Boat;)V"⟩, 3), (⟨"PromisedFish$Law", "takeFrom", "(LPromisedFish$Law;)V"⟩, 4), (⟨"PromisedFishModel", "error", "(I)I"⟩, 20), (⟨"PromisedFishModel", "isBoat", "(I)Z"⟩, 20), (⟨"PromisedFishModel", "of", "(II)I"⟩, 20), (⟨"PromisedFishModel", "eatsOf", "(I)I"⟩, 20), (⟨"PromisedFishModel", "landsOf", "(III)I"⟩, 20), (⟨"PromisedFishModel", "haulsOf", "(II)I"⟩, 20), (⟨"PromisedFishModel", "gives", "(IIII)I"⟩, 20), (⟨"PromisedFishModel", "works", "(I)I"⟩, 20), (⟨"PromisedFishModel", "becomes", "(II)I"⟩, 20), (⟨"PromisedFishModel", "sells", "(II)I"⟩, 20), (⟨"PromisedFishModel", "coinsFor", "(II)I"⟩, 20), (⟨"PromisedFishModel", "any", "()V"⟩, 20)]
theorem lw_r3 : ∀ q ∈ lw_privs_3, lw_okq q := List.forall_mem_cons.mpr ⟨lw_p32, List.forall_mem_cons.mpr ⟨lw_p33, List.forall_mem_cons.mpr ⟨lw_p34, List.forall_mem_cons.mpr ⟨lw_p35, List.forall_mem_cons.mpr ⟨lw_p36, List.forall_mem_cons.mpr ⟨lw_p37, List.forall_mem_cons.mpr ⟨lw_p38, List.forall_mem_cons.mpr ⟨lw_p39, List.forall_mem_cons.mpr ⟨lw_p40, List.forall_mem_cons.mpr ⟨lw_p41, List.forall_mem_cons.mpr ⟨lw_p42, List.forall_mem_cons.mpr ⟨lw_p43, List.forall_mem_cons.mpr ⟨lw_p44, List.forall_mem_cons.mpr ⟨lw_p45, List.forall_mem_cons.mpr ⟨lw_p46, List.forall_mem_cons.mpr ⟨lw_p47, fun _ h => absurd h List.not_mem_nil⟩⟩⟩⟩⟩⟩⟩⟩⟩⟩⟩⟩⟩⟩⟩⟩
theorem lw_p48 : lw_okq (⟨"PromisedFishModel", "all", "()V"⟩, 20) := ⟨⟨by decide +kernel, by decide +kernel⟩, List.mem_of_getElem? (i := 717) (by decide +kernel), List.mem_of_getElem? (i := 895) (by decide +kernel), List.mem_of_getElem? (i := 896) (by decide +kernel)⟩
theorem lw_p49 : lw_okq (⟨"PromisedFishModel", "compares", "()V"⟩, 20) := ⟨⟨by decide +kernel, by decide +kernel⟩, List.mem_of_getElem? (i := 717) (by decide +kernel), List.mem_of_getElem? (i := 899) (by decide +kernel), List.mem_of_getElem? (i := 900) (by decide +kernel)⟩
theorem lw_p50 : lw_okq (⟨"PromisedFishModel", "sum", "()V"⟩, 20) := ⟨⟨by decide +kernel, by decide +kernel⟩, List.mem_of_getElem? (i := 717) (by decide +kernel), List.mem_of_getElem? (i := 903) (by decide +kernel), List.mem_of_getElem? (i := 904) (by decide +kernel)⟩
theorem lw_p51 : lw_okq (⟨"PromisedFishModel", "times", "()V"⟩, 20) := ⟨⟨by decide +kernel, by decide +kernel⟩, List.mem_of_getElem? (i := 717) (by decide +kernel), List.mem_of_getElem? (i := 907) (by decide +kernel), List.mem_of_getElem? (i := 908) (by decide +kernel)⟩
theorem lw_p52 : lw_okq (⟨"PromisedFishModel", "one", "()V"⟩, 20) := ⟨⟨by decide +kernel, by decide +kernel⟩, List.mem_of_getElem? (i := 717) (by decide +kernel), List.mem_of_getElem? (i := 911) (by decide +kernel), List.mem_of_getElem? (i := 912) (by decide +kernel)⟩
theorem lw_p53 : lw_okq (⟨"PromisedFishModel", "look", "()I"⟩, 20) := ⟨⟨by decide +kernel, by decide +kernel⟩, List.mem_of_getElem? (i := 717) (by decide +kernel), List.mem_of_getElem? (i := 915) (by decide +kernel), List.mem_of_getElem? (i := 916) (by decide +kernel)⟩
theorem lw_p54 : lw_okq (⟨"PromisedFishModel", "nameOf", "(I)I"⟩, 20) := ⟨⟨by decide +kernel, by decide +kernel⟩, List.mem_of_getElem? (i := 717) (by decide +kernel), List.mem_of_getElem? (i := 919) (by decide +kernel), List.mem_of_getElem? (i := 920) (by decide +kernel)⟩
theorem lw_p55 : lw_okq (⟨"PromisedFishModel", "lays", "(II)V"⟩, 20) := ⟨⟨by decide +kernel, by decide +kernel⟩, List.mem_of_getElem? (i := 717) (by decide +kernel), List.mem_of_getElem? (i := 923) (by decide +kernel), List.mem_of_getElem? (i := 924) (by decide +kernel)⟩
theorem lw_p56 : lw_okq (⟨"PromisedFishModel", "opens", "(I)V"⟩, 20) := ⟨⟨by decide +kernel, by decide +kernel⟩, List.mem_of_getElem? (i := 717) (by decide +kernel), List.mem_of_getElem? (i := 927) (by decide +kernel), List.mem_of_getElem? (i := 928) (by decide +kernel)⟩
theorem lw_p57 : lw_okq (⟨"PromisedFishModel", "number", "()V"⟩, 20) := ⟨⟨by decide +kernel, by decide +kernel⟩, List.mem_of_getElem? (i := 717) (by decide +kernel), List.mem_of_getElem? (i := 931) (by decide +kernel), List.mem_of_getElem? (i := 932) (by decide +kernel)⟩
theorem lw_p58 : lw_okq (⟨"PromisedFishModel", "tallies", "()I"⟩, 20) := ⟨⟨by decide +kernel, by decide +kernel⟩, List.mem_of_getElem? (i := 717) (by decide +kernel), List.mem_of_getElem? (i := 947) (by decide +kernel), List.mem_of_getElem? (i := 948) (by decide +kernel)⟩
theorem lw_p59 : lw_okq (⟨"PromisedFishModel", "shortBy", "(II)I"⟩, 20) := ⟨⟨by decide +kernel, by decide +kernel⟩, List.mem_of_getElem? (i := 717) (by decide +kernel), List.mem_of_getElem? (i := 951) (by decide +kernel), List.mem_of_getElem? (i := 952) (by decide +kernel)⟩
theorem lw_p60 : lw_okq (⟨"PromisedFishModel", "catchBy", "(II)I"⟩, 20) := ⟨⟨by decide +kernel, by decide +kernel⟩, List.mem_of_getElem? (i := 717) (by decide +kernel), List.mem_of_getElem? (i := 955) (by decide +kernel), List.mem_of_getElem? (i := 956) (by decide +kernel)⟩
theorem lw_p61 : lw_okq (⟨"PromisedFishModel", "pays", "(I)V"⟩, 20) := ⟨⟨by decide +kernel, by decide +kernel⟩, List.mem_of_getElem? (i := 717) (by decide +kernel), List.mem_of_getElem? (i := 959) (by decide +kernel), List.mem_of_getElem? (i := 960) (by decide +kernel)⟩
theorem lw_p62 : lw_okq (⟨"PromisedFishModel", "drawn", "()I"⟩, 20) := ⟨⟨by decide +kernel, by decide +kernel⟩, List.mem_of_getElem? (i := 717) (by decide +kernel), List.mem_of_getElem? (i := 967) (by decide +kernel), List.mem_of_getElem? (i := 968) (by decide +kernel)⟩
theorem lw_p63 : lw_okq (⟨"PromisedFishModel", "draw", "()I"⟩, 20) := ⟨⟨by decide +kernel, by decide +kernel⟩, List.mem_of_getElem? (i := 717) (by decide +kernel), List.mem_of_getElem? (i := 971) (by decide +kernel), List.mem_of_getElem? (i := 972) (by decide +kernel)⟩
def lw_privs_4 : List (MethodName × Nat) := [(⟨"PromisedFishModel", "all", "()V"⟩, 20), (⟨"PromisedFishModel", "compares", "()V"⟩, 20), (⟨"PromisedFishModel", "sum", "()V"⟩, 20), (⟨"PromisedFishModel", "times", "()V"⟩, 20), (⟨"PromisedFishModel", "one", "()V"⟩, 20), (⟨"PromisedFishModel", "look", "()I"⟩, 20), (⟨"PromisedFishModel", "nameOf", "(I)I"⟩, 20), (⟨"PromisedFishModel", "lays", "(II)V"⟩, 20), (⟨"PromisedFishModel", "opens", "(I)V"⟩, 20), (⟨"PromisedFishModel", "number", "()V"⟩, 20), (⟨"PromisedFishModel", "tallies", "()I"⟩, 20), (⟨"PromisedFishModel", "shortBy", "(II)I"⟩, 20), (⟨"PromisedFishModel", "catchBy", "(II)I"⟩, 20), (⟨"PromisedFishModel", "pays", "(I)V"⟩, 20), (⟨"PromisedFishModel", "drawn", "()I"⟩, 20), (⟨"PromisedFishModel", "draw", "()I"⟩, 20)]
theorem lw_r4 : ∀ q ∈ lw_privs_4, lw_okq q := List.forall_mem_cons.mpr ⟨lw_p48, List.forall_mem_cons.mpr ⟨lw_p49, List.forall_mem_cons.mpr ⟨lw_p50, List.forall_mem_cons.mpr ⟨lw_p51, List.forall_mem_cons.mpr ⟨lw_p52, List.forall_mem_cons.mpr ⟨lw_p53, List.forall_mem_cons.mpr ⟨lw_p54, List.forall_mem_cons.mpr ⟨lw_p55, List.forall_mem_cons.mpr ⟨lw_p56, List.forall_mem_cons.mpr ⟨lw_p57, List.forall_mem_cons.mpr ⟨lw_p58, List.forall_mem_cons.mpr ⟨lw_p59, List.forall_mem_cons.mpr ⟨lw_p60, List.forall_mem_cons.mpr ⟨lw_p61, List.forall_mem_cons.mpr ⟨lw_p62, List.forall_mem_cons.mpr ⟨lw_p63, fun _ h => absurd h List.not_mem_nil⟩⟩⟩⟩⟩⟩⟩⟩⟩⟩⟩⟩⟩⟩⟩⟩
theorem lw_p64 : lw_okq (⟨"PromisedFishModel", "catchOf", "(I)I"⟩, 20) := ⟨⟨by decide +kernel, by decide +kernel⟩, List.mem_of_getElem? (i := 717) (by decide +kernel), List.mem_of_getElem? (i := 984) (by decide +kernel), List.mem_of_getElem? (i := 985) (by decide +kernel)⟩
theorem lw_p65 : lw_okq (⟨"PromisedFishModel", "enough", "(II)I"⟩, 20) := ⟨⟨by decide +kernel, by decide +kernel⟩, List.mem_of_getElem? (i := 717) (by decide +kernel), List.mem_of_getElem? (i := 992) (by decide +kernel), List.mem_of_getElem? (i := 993) (by decide +kernel)⟩
theorem lw_p66 : lw_okq (⟨"PromisedFishModel", "shortest", "(II)I"⟩, 20) := ⟨⟨by decide +kernel, by decide +kernel⟩, List.mem_of_getElem? (i := 717) (by decide +kernel), List.mem_of_getElem? (i := 1000) (by decide +kernel), List.mem_of_getElem? (i := 1001) (by decide +kernel)⟩
theorem lw_p67 : lw_okq (⟨"PromisedFishModel", "isEnough", "(I)Z"⟩, 20) := ⟨⟨by decide +kernel, by decide +kernel⟩, List.mem_of_getElem? (i := 717) (by decide +kernel), List.mem_of_getElem? (i := 1016) (by decide +kernel), List.mem_of_getElem? (i := 1017) (by decide +kernel)⟩
theorem lw_p68 : lw_okq (⟨"PromisedFishModel", "rightOf", "(I)I"⟩, 20) := ⟨⟨by decide +kernel, by decide +kernel⟩, List.mem_of_getElem? (i := 717) (by decide +kernel), List.mem_of_getElem? (i := 1042) (by decide +kernel), List.mem_of_getElem? (i := 1043) (by decide +kernel)⟩
theorem lw_p69 : lw_okq (⟨"PromisedFishModel", "calls", "(II)I"⟩, 20) := ⟨⟨by decide +kernel, by decide +kernel⟩, List.mem_of_getElem? (i := 717) (by decide +kernel), List.mem_of_getElem? (i := 1050) (by decide +kernel), List.mem_of_getElem? (i := 1051) (by decide +kernel)⟩
theorem lw_p70 : lw_okq (⟨"PromisedFishModel", "smackCalls", "(II)I"⟩, 20) := ⟨⟨by decide +kernel, by decide +kernel⟩, List.mem_of_getElem? (i := 717) (by decide +kernel), List.mem_of_getElem? (i := 1054) (by decide +kernel), List.mem_of_getElem? (i := 1055) (by decide +kernel)⟩
theorem lw_p71 : lw_okq (⟨"PromisedFishModel", "begins", "(I)V"⟩, 20) := ⟨⟨by decide +kernel, by decide +kernel⟩, List.mem_of_getElem? (i := 717) (by decide +kernel), List.mem_of_getElem? (i := 1058) (by decide +kernel), List.mem_of_getElem? (i := 1059) (by decide +kernel)⟩
theorem lw_p72 : lw_okq (⟨"PromisedFishModel", "plainCalls", "(II)I"⟩, 20) := ⟨⟨by decide +kernel, by decide +kernel⟩, List.mem_of_getElem? (i := 717) (by decide +kernel), List.mem_of_getElem? (i := 1062) (by decide +kernel), List.mem_of_getElem? (i := 1063) (by decide +kernel)⟩
theorem lw_p73 : lw_okq (⟨"PromisedFishModel", "hauls", "(II)I"⟩, 20) := ⟨⟨by decide +kernel, by decide +kernel⟩, List.mem_of_getElem? (i := 717) (by decide +kernel), List.mem_of_getElem? (i := 1066) (by decide +kernel), List.mem_of_getElem? (i := 1067) (by decide +kernel)⟩
theorem lw_p74 : lw_okq (⟨"PromisedFishModel", "skiffHauls", "(II)I"⟩, 20) := ⟨⟨by decide +kernel, by decide +kernel⟩, List.mem_of_getElem? (i := 717) (by decide +kernel), List.mem_of_getElem? (i := 1070) (by decide +kernel), List.mem_of_getElem? (i := 1071) (by decide +kernel)⟩
theorem lw_p75 : lw_okq (⟨"PromisedFishModel", "plainHauls", "(II)I"⟩, 20) := ⟨⟨by decide +kernel, by decide +kernel⟩, List.mem_of_getElem? (i := 717) (by decide +kernel), List.mem_of_getElem? (i := 1074) (by decide +kernel), List.mem_of_getElem? (i := 1075) (by decide +kernel)⟩
theorem lw_p76 : lw_okq (⟨"PromisedFishModel", "letsBy", "(II)I"⟩, 20) := ⟨⟨by decide +kernel, by decide +kernel⟩, List.mem_of_getElem? (i := 717) (by decide +kernel), List.mem_of_getElem? (i := 1078) (by decide +kernel), List.mem_of_getElem? (i := 1079) (by decide +kernel)⟩
theorem lw_p77 : lw_okq (⟨"PromisedFishModel", "plainLets", "(II)I"⟩, 20) := ⟨⟨by decide +kernel, by decide +kernel⟩, List.mem_of_getElem? (i := 717) (by decide +kernel), List.mem_of_getElem? (i := 1082) (by decide +kernel), List.mem_of_getElem? (i := 1083) (by decide +kernel)⟩
theorem lw_p78 : lw_okq (⟨"PromisedFishModel", "partsBy", "(II)I"⟩, 20) := ⟨⟨by decide +kernel, by decide +kernel⟩, List.mem_of_getElem? (i := 717) (by decide +kernel), List.mem_of_getElem? (i := 1086) (by decide +kernel), List.mem_of_getElem? (i := 1087) (by decide +kernel)⟩
theorem lw_p79 : lw_okq (⟨"PromisedFishModel", "plainParts", "(II)I"⟩, 20) := ⟨⟨by decide +kernel, by decide +kernel⟩, List.mem_of_getElem? (i := 717) (by decide +kernel), List.mem_of_getElem? (i := 1090) (by decide +kernel), List.mem_of_getElem? (i := 1091) (by decide +kernel)⟩
def lw_privs_5 : List (MethodName × Nat) := [(⟨"PromisedFishModel", "catchOf", "(I)I"⟩, 20), (⟨"PromisedFishModel", "enough", "(II)I"⟩, 20), (⟨"PromisedFishModel", "shortest", "(II)I"⟩, 20), (⟨"PromisedFishModel", "isEnough", "(I)Z"⟩, 20), (⟨"PromisedFishModel", "rightOf", "(I)I"⟩, 20), (⟨"PromisedFishModel", "calls", "(II)I"⟩, 20), (⟨"PromisedFishModel", "smackCalls", "(II)I"⟩, 20), (⟨"PromisedFishModel", "begins", "(I)V"⟩, 20), (⟨"PromisedFishModel", "plainCalls", "(II)I"⟩, 20), (⟨"PromisedFishModel", "hauls", "(II)I"⟩, 20), (⟨"PromisedFishModel", "skiffHauls", "(II)I"⟩, 20), (⟨"PromisedFishModel", "plainHauls", "(II)I"⟩, 20), (⟨"PromisedFishModel", "letsBy", "(II)I"⟩, 20), (⟨"PromisedFishModel", "plainLets", "(II)I"⟩, 20), (⟨"PromisedFishModel", "partsBy", "(II)I"⟩, 20), (⟨"PromisedFishModel", "plainParts", "(II)I"⟩, 20)]
theorem lw_r5 : ∀ q ∈ lw_privs_5, lw_okq q := List.forall_mem_cons.mpr ⟨lw_p64, List.forall_mem_cons.mpr ⟨lw_p65, List.forall_mem_cons.mpr ⟨lw_p66, List.forall_mem_cons.mpr ⟨lw_p67, List.forall_mem_cons.mpr ⟨lw_p68, List.forall_mem_cons.mpr ⟨lw_p69, List.forall_mem_cons.mpr ⟨lw_p70, List.forall_mem_cons.mpr ⟨lw_p71, List.forall_mem_cons.mpr ⟨lw_p72, List.forall_mem_cons.mpr ⟨lw_p73, List.forall_mem_cons.mpr ⟨lw_p74, List.forall_mem_cons.mpr ⟨lw_p75, List.forall_mem_cons.mpr ⟨lw_p76, List.forall_mem_cons.mpr ⟨lw_p77, List.forall_mem_cons.mpr ⟨lw_p78, List.forall_mem_cons.mpr ⟨lw_p79, fun _ h => absurd h List.not_mem_nil⟩⟩⟩⟩⟩⟩⟩⟩⟩⟩⟩⟩⟩⟩⟩⟩
theorem lw_p80 : lw_okq (⟨"PromisedFishModel", "notThere", "(I)I"⟩, 20) := ⟨⟨by decide +kernel, by decide +kernel⟩, List.mem_of_getElem? (i := 717) (by decide +kernel), List.mem_of_getElem? (i := 1107) (by decide +kernel), List.mem_of_getElem? (i := 1108) (by decide +kernel)⟩
theorem lw_p81 : lw_okq (⟨"PromisedFishModel", "notMoved", "(IIIII)I"⟩, 20) := ⟨⟨by decide +kernel, by decide +kernel⟩, List.mem_of_getElem? (i := 717) (by decide +kernel), List.mem_of_getElem? (i := 1115) (by decide +kernel), List.mem_of_getElem? (i := 1116) (by decide +kernel)⟩
def lw_privs_6 : List (MethodName × Nat) := [(⟨"PromisedFishModel", "notThere", "(I)I"⟩, 20), (⟨"PromisedFishModel", "notMoved", "(IIIII)I"⟩, 20)]
theorem lw_r6 : ∀ q ∈ lw_privs_6, lw_okq q := List.forall_mem_cons.mpr ⟨lw_p80, List.forall_mem_cons.mpr ⟨lw_p81, fun _ h => absurd h List.not_mem_nil⟩⟩
def lw_privs : List (MethodName × Nat) := lw_privs_1 ++ (lw_privs_2 ++ (lw_privs_3 ++ (lw_privs_4 ++ (lw_privs_5 ++ (lw_privs_6)))))
def lw_tbl : List Cond := k2_sels lw_privs ++ tables_1
theorem lw_privs_ok : ∀ q ∈ lw_privs, lw_okq q := by
  show ∀ q ∈ lw_privs_1 ++ (lw_privs_2 ++ (lw_privs_3 ++ (lw_privs_4 ++ (lw_privs_5 ++ (lw_privs_6))))), lw_okq q
  exact List.forall_mem_append.mpr ⟨lw_r1, List.forall_mem_append.mpr ⟨lw_r2, List.forall_mem_append.mpr ⟨lw_r3, List.forall_mem_append.mpr ⟨lw_r4, List.forall_mem_append.mpr ⟨lw_r5, lw_r6⟩⟩⟩⟩⟩
-- ===== end of PART A; then your names; then what follows =====
end
section
def RX0 : String := "PromisedFish$Boat"
def TX0 : u_T := fun k => match k with
  | 0 => ("PromisedFish$Boat", "kind", "I", false)
  | 1 => ("PromisedFish$Boat", "m", "I", false)
  | _ => ("PromisedFish$Boat", "lost", "I", false)
def tyX0 : Nat → FieldType := fun k => match k with
  | 0 => .int
  | 1 => .int
  | _ => .int
theorem nmX0 : ∀ a, a < 3 → ∀ b, b < 3 → a ≠ b → (TX0 a).2.1 ≠ (TX0 b).2.1 := by decide +kernel
theorem tyX0_ok : ∀ k, k < 3 → parseFieldDescriptor (TX0 k).2.2.1 = some (tyX0 k) := by decide +kernel
abbrev cX0_init : ByteArray := prog_2_method_1_code
def yX0_init : MethodName := ⟨RX0, "<init>", "()V"⟩
abbrev cX0_turnInto : ByteArray := prog_2_method_2_code
def yX0_turnInto : MethodName := ⟨RX0, "turnInto", "(I)V"⟩
abbrev cX0_takeFrom : ByteArray := prog_2_method_3_code
def yX0_takeFrom : MethodName := ⟨RX0, "takeFrom", "(LPromisedFish$Boat;)V"⟩
abbrev cX0_isOneOf : ByteArray := prog_2_method_4_code
def yX0_isOneOf : MethodName := ⟨RX0, "isOneOf", "(I)Z"⟩
abbrev cX0_hauls : ByteArray := prog_2_method_5_code
def yX0_hauls : MethodName := ⟨RX0, "hauls", "(III)I"⟩
abbrev cX0_eats : ByteArray := prog_2_method_6_code
def yX0_eats : MethodName := ⟨RX0, "eats", "(I)I"⟩
def RX1 : String := "PromisedFish$Law"
def TX1 : u_T := fun k => match k with
  | 0 => ("PromisedFish$Law", "code", "[I", true)
  | 1 => ("PromisedFish$Law", "pile", "[I", true)
  | 2 => ("PromisedFish$Law", "length", "I", false)
  | _ => ("PromisedFish$Law", "stands", "Z", false)
def tyX1 : Nat → FieldType := fun k => match k with
  | 0 => .array .int
  | 1 => .array .int
  | 2 => .int
  | _ => .boolean
theorem nmX1 : ∀ a, a < 4 → ∀ b, b < 4 → a ≠ b → (TX1 a).2.1 ≠ (TX1 b).2.1 := by decide +kernel
theorem tyX1_ok : ∀ k, k < 4 → parseFieldDescriptor (TX1 k).2.2.1 = some (tyX1 k) := by decide +kernel
abbrev cX1_init : ByteArray := prog_3_method_1_code
def yX1_init : MethodName := ⟨RX1, "<init>", "()V"⟩
abbrev cX1_take : ByteArray := prog_3_method_2_code
def yX1_take : MethodName := ⟨RX1, "take", "([II)V"⟩
abbrev cX1_takeFrom : ByteArray := prog_3_method_3_code
def yX1_takeFrom : MethodName := ⟨RX1, "takeFrom", "(LPromisedFish$Law;)V"⟩
abbrev cX1_gives : ByteArray := prog_3_method_4_code
def yX1_gives : MethodName := ⟨RX1, "gives", "(III)I"⟩
abbrev cX1_joined : ByteArray := prog_3_method_5_code
def yX1_joined : MethodName := ⟨RX1, "joined", "(III)I"⟩
def RX2 : String := "PromisedFish$Quay"
def TX2 : u_T := fun k => match k with
  | 0 => ("PromisedFish$Quay", "sold", "[I", true)
  | 1 => ("PromisedFish$Quay", "asked", "[I", true)
  | 2 => ("PromisedFish$Quay", "fleet", "[LPromisedFish$Boat;", true)
  | 3 => ("PromisedFish$Quay", "laws", "[LPromisedFish$Law;", true)
  | 4 => ("PromisedFish$Quay", "tape", "[I", true)
  | 5 => ("PromisedFish$Quay", "waiting", "[I", true)
  | 6 => ("PromisedFish$Quay", "boats", "I", false)
  | 7 => ("PromisedFish$Quay", "waves", "I", false)
  | 8 => ("PromisedFish$Quay", "day", "I", false)
  | 9 => ("PromisedFish$Quay", "purse", "I", false)
  | 10 => ("PromisedFish$Quay", "owed", "I", false)
  | 11 => ("PromisedFish$Quay", "trust", "I", false)
  | 12 => ("PromisedFish$Quay", "taped", "I", false)
  | 13 => ("PromisedFish$Quay", "waits", "I", false)
  | _ => ("PromisedFish$Quay", "z", "I", false)
def tyX2 : Nat → FieldType := fun k => match k with
  | 0 => .array .int
  | 1 => .array .int
  | 2 => .array (.object "PromisedFish$Boat")
  | 3 => .array (.object "PromisedFish$Law")
  | 4 => .array .int
  | 5 => .array .int
  | 6 => .int
  | 7 => .int
  | 8 => .int
  | 9 => .int
  | 10 => .int
  | 11 => .int
  | 12 => .int
  | 13 => .int
  | _ => .int
theorem nmX2 : ∀ a, a < 15 → ∀ b, b < 15 → a ≠ b → (TX2 a).2.1 ≠ (TX2 b).2.1 := by decide +kernel
theorem tyX2_ok : ∀ k, k < 15 → parseFieldDescriptor (TX2 k).2.2.1 = some (tyX2 k) := by decide +kernel
abbrev cX2_init : ByteArray := prog_4_method_1_code
def yX2_init : MethodName := ⟨RX2, "<init>", "()V"⟩
abbrev cX2_takeFrom : ByteArray := prog_4_method_2_code
def yX2_takeFrom : MethodName := ⟨RX2, "takeFrom", "(LPromisedFish$Quay;)V"⟩
abbrev cX2_landed : ByteArray := prog_4_method_3_code
def yX2_landed : MethodName := ⟨RX2, "landed", "(IIIII)I"⟩
abbrev cX2_caught : ByteArray := prog_4_method_4_code
def yX2_caught : MethodName := ⟨RX2, "caught", "(IIII)I"⟩
abbrev cX2_caughtNow : ByteArray := prog_4_method_5_code
def yX2_caughtNow : MethodName := ⟨RX2, "caughtNow", "(I)I"⟩
abbrev cX2_coins : ByteArray := prog_4_method_6_code
def yX2_coins : MethodName := ⟨RX2, "coins", "(II)I"⟩
abbrev cX2_promise : ByteArray := prog_4_method_7_code
def yX2_promise : MethodName := ⟨RX2, "promise", "(II)I"⟩
abbrev cX2_settle : ByteArray := prog_4_method_8_code
def yX2_settle : MethodName := ⟨RX2, "settle", "()I"⟩
abbrev cX2_dayByDraws : ByteArray := prog_4_method_9_code
def yX2_dayByDraws : MethodName := ⟨RX2, "dayByDraws", "()I"⟩
abbrev cX2_draw : ByteArray := prog_4_method_10_code
def yX2_draw : MethodName := ⟨RX2, "draw", "()I"⟩
def RX3 : String := "PromisedFish$Reader"
def TX3 : u_T := fun k => match k with
  | 0 => ("PromisedFish$Reader", "code", "[I", true)
  | 1 => ("PromisedFish$Reader", "written", "I", false)
  | 2 => ("PromisedFish$Reader", "tape", "[I", true)
  | 3 => ("PromisedFish$Reader", "end", "I", false)
  | 4 => ("PromisedFish$Reader", "place", "I", false)
  | _ => ("PromisedFish$Reader", "use", "I", false)
def tyX3 : Nat → FieldType := fun k => match k with
  | 0 => .array .int
  | 1 => .int
  | 2 => .array .int
  | 3 => .int
  | 4 => .int
  | _ => .int
theorem nmX3 : ∀ a, a < 6 → ∀ b, b < 6 → a ≠ b → (TX3 a).2.1 ≠ (TX3 b).2.1 := by decide +kernel
theorem tyX3_ok : ∀ k, k < 6 → parseFieldDescriptor (TX3 k).2.2.1 = some (tyX3 k) := by decide +kernel
abbrev cX3_init : ByteArray := prog_5_method_1_code
def yX3_init : MethodName := ⟨RX3, "<init>", "()V"⟩
abbrev cX3_faultIn : ByteArray := prog_5_method_2_code
def yX3_faultIn : MethodName := ⟨RX3, "faultIn", "([III)I"⟩
abbrev cX3_readLevel : ByteArray := prog_5_method_3_code
def yX3_readLevel : MethodName := ⟨RX3, "readLevel", "(II)Z"⟩
abbrev cX3_readItem : ByteArray := prog_5_method_4_code
def yX3_readItem : MethodName := ⟨RX3, "readItem", "(I)Z"⟩
abbrev cX3_readDenied : ByteArray := prog_5_method_5_code
def yX3_readDenied : MethodName := ⟨RX3, "readDenied", "(I)Z"⟩
abbrev cX3_readBracketed : ByteArray := prog_5_method_6_code
def yX3_readBracketed : MethodName := ⟨RX3, "readBracketed", "(I)Z"⟩
abbrev cX3_readNumber : ByteArray := prog_5_method_7_code
def yX3_readNumber : MethodName := ⟨RX3, "readNumber", "()I"⟩
abbrev cX3_next : ByteArray := prog_5_method_8_code
def yX3_next : MethodName := ⟨RX3, "next", "()I"⟩
abbrev cX3_write : ByteArray := prog_5_method_9_code
def yX3_write : MethodName := ⟨RX3, "write", "(I)V"⟩
abbrev cX3_isDigit : ByteArray := prog_5_method_10_code
def yX3_isDigit : MethodName := ⟨RX3, "isDigit", "(I)Z"⟩
abbrev cX3_nameOf : ByteArray := prog_5_method_11_code
def yX3_nameOf : MethodName := ⟨RX3, "nameOf", "(I)I"⟩
abbrev cX3_levelOf : ByteArray := prog_5_method_12_code
def yX3_levelOf : MethodName := ⟨RX3, "levelOf", "(I)I"⟩
def RX4 : String := "PromisedFish$Sheet"
def TX4 : u_T := fun k => match k with
  | 0 => ("PromisedFish$Sheet", "numbers", "[I", true)
  | 1 => ("PromisedFish$Sheet", "bits", "I", false)
  | _ => ("PromisedFish$Sheet", "length", "I", false)
def tyX4 : Nat → FieldType := fun k => match k with
  | 0 => .array .int
  | 1 => .int
  | _ => .int
theorem nmX4 : ∀ a, a < 3 → ∀ b, b < 3 → a ≠ b → (TX4 a).2.1 ≠ (TX4 b).2.1 := by decide +kernel
theorem tyX4_ok : ∀ k, k < 3 → parseFieldDescriptor (TX4 k).2.2.1 = some (tyX4 k) := by decide +kernel
abbrev cX4_init : ByteArray := prog_6_method_1_code
def yX4_init : MethodName := ⟨RX4, "<init>", "()V"⟩
abbrev cX4_lay : ByteArray := prog_6_method_2_code
def yX4_lay : MethodName := ⟨RX4, "lay", "(II)V"⟩
abbrev cX4_isMissing : ByteArray := prog_6_method_3_code
def yX4_isMissing : MethodName := ⟨RX4, "isMissing", "()Z"⟩
abbrev cX4_has : ByteArray := prog_6_method_4_code
def yX4_has : MethodName := ⟨RX4, "has", "(II)Z"⟩
abbrev cX4_lowestBits : ByteArray := prog_6_method_5_code
def yX4_lowestBits : MethodName := ⟨RX4, "lowestBits", "(I)I"⟩
def RX5 : String := "PromisedFish$Thoughts"
def TX5 : u_T := fun k => match k with
  | _ => ("", "", "", false)
def tyX5 : Nat → FieldType := fun k => match k with
  | _ => .int
theorem nmX5 : ∀ a, a < 0 → ∀ b, b < 0 → a ≠ b → (TX5 a).2.1 ≠ (TX5 b).2.1 := by decide +kernel
theorem tyX5_ok : ∀ k, k < 0 → parseFieldDescriptor (TX5 k).2.2.1 = some (tyX5 k) := by decide +kernel
abbrev cX5_safest : ByteArray := prog_7_method_2_code
def yX5_safest : MethodName := ⟨RX5, "safest", "(LPromisedFish$Quay;I)I"⟩
abbrev cX5_isSafe : ByteArray := prog_7_method_3_code
def yX5_isSafe : MethodName := ⟨RX5, "isSafe", "(LPromisedFish$Quay;II)Z"⟩
abbrev cX5_bestToSell : ByteArray := prog_7_method_4_code
def yX5_bestToSell : MethodName := ⟨RX5, "bestToSell", "(LPromisedFish$Quay;I)I"⟩
abbrev cX5_gain : ByteArray := prog_7_method_5_code
def yX5_gain : MethodName := ⟨RX5, "gain", "(LPromisedFish$Quay;II)I"⟩
abbrev cX5_agreesWithItself : ByteArray := prog_7_method_6_code
def yX5_agreesWithItself : MethodName := ⟨RX5, "agreesWithItself", "(LPromisedFish$Quay;II)Z"⟩
abbrev cX5_howManyAgree : ByteArray := prog_7_method_7_code
def yX5_howManyAgree : MethodName := ⟨RX5, "howManyAgree", "(LPromisedFish$Quay;I)I"⟩
abbrev cX5_leastThatAgrees : ByteArray := prog_7_method_8_code
def yX5_leastThatAgrees : MethodName := ⟨RX5, "leastThatAgrees", "(LPromisedFish$Quay;I)I"⟩
abbrev cX5_fewestBoats : ByteArray := prog_7_method_9_code
def yX5_fewestBoats : MethodName := ⟨RX5, "fewestBoats", "(LPromisedFish$Quay;)I"⟩
abbrev cX5_isEnough : ByteArray := prog_7_method_10_code
def yX5_isEnough : MethodName := ⟨RX5, "isEnough", "(LPromisedFish$Quay;I)Z"⟩
abbrev cX5_daysUntil : ByteArray := prog_7_method_11_code
def yX5_daysUntil : MethodName := ⟨RX5, "daysUntil", "(LPromisedFish$Quay;II)I"⟩
abbrev cX5_seasThatDo : ByteArray := prog_7_method_12_code
def yX5_seasThatDo : MethodName := ⟨RX5, "seasThatDo", "(LPromisedFish$Quay;II)I"⟩
abbrev cX5_caughtInAllSeas : ByteArray := prog_7_method_13_code
def yX5_caughtInAllSeas : MethodName := ⟨RX5, "caughtInAllSeas", "(LPromisedFish$Quay;I)I"⟩
abbrev cX5_seasThatFit : ByteArray := prog_7_method_14_code
def yX5_seasThatFit : MethodName := ⟨RX5, "seasThatFit", "(LPromisedFish$Quay;LPromisedFish$Sheet;)I"⟩
abbrev cX5_isSoBy : ByteArray := prog_7_method_15_code
def yX5_isSoBy : MethodName := ⟨RX5, "isSoBy", "(LPromisedFish$Quay;LPromisedFish$Sheet;I)Z"⟩
abbrev cX5_partOfTenths : ByteArray := prog_7_method_16_code
def yX5_partOfTenths : MethodName := ⟨RX5, "partOfTenths", "(II)I"⟩
def RX6 : String := "PromisedFish$Voices"
def TX6 : u_T := fun k => match k with
  | 0 => ("PromisedFish$Voices", "trace", "[I", true)
  | 1 => ("PromisedFish$Voices", "traced", "I", false)
  | 2 => ("PromisedFish$Voices", "parted", "Z", false)
  | 3 => ("PromisedFish$Voices", "kind", "I", false)
  | 4 => ("PromisedFish$Voices", "k", "I", false)
  | _ => ("PromisedFish$Voices", "m", "I", false)
def tyX6 : Nat → FieldType := fun k => match k with
  | 0 => .array .int
  | 1 => .int
  | 2 => .boolean
  | 3 => .int
  | 4 => .int
  | _ => .int
theorem nmX6 : ∀ a, a < 6 → ∀ b, b < 6 → a ≠ b → (TX6 a).2.1 ≠ (TX6 b).2.1 := by decide +kernel
theorem tyX6_ok : ∀ k, k < 6 → parseFieldDescriptor (TX6 k).2.2.1 = some (tyX6 k) := by decide +kernel
abbrev cX6_init : ByteArray := prog_8_method_1_code
def yX6_init : MethodName := ⟨RX6, "<init>", "()V"⟩
abbrev cX6_hear : ByteArray := prog_8_method_2_code
def yX6_hear : MethodName := ⟨RX6, "hear", "(LPromisedFish$Boat;III)I"⟩
abbrev cX6_speak : ByteArray := prog_8_method_3_code
def yX6_speak : MethodName := ⟨RX6, "speak", "(IIII)I"⟩
abbrev cX6_say : ByteArray := prog_8_method_4_code
def yX6_say : MethodName := ⟨RX6, "say", "(IIII)I"⟩
abbrev cX6_part : ByteArray := prog_8_method_5_code
def yX6_part : MethodName := ⟨RX6, "part", "(I)I"⟩
def RX7 : String := "PromisedFish"
def TX7 : u_T := fun k => match k with
  | 0 => ("PromisedFish", "now", "LPromisedFish$Quay;", true)
  | 1 => ("PromisedFish", "kept", "LPromisedFish$Quay;", true)
  | 2 => ("PromisedFish", "reader", "LPromisedFish$Reader;", true)
  | 3 => ("PromisedFish", "voices", "LPromisedFish$Voices;", true)
  | 4 => ("PromisedFish", "sheets", "[LPromisedFish$Sheet;", true)
  | 5 => ("PromisedFish", "refused", "[I", true)
  | _ => ("PromisedFish", "images", "I", false)
def tyX7 : Nat → FieldType := fun k => match k with
  | 0 => .object "PromisedFish$Quay"
  | 1 => .object "PromisedFish$Quay"
  | 2 => .object "PromisedFish$Reader"
  | 3 => .object "PromisedFish$Voices"
  | 4 => .array (.object "PromisedFish$Sheet")
  | 5 => .array .int
  | _ => .int
theorem nmX7 : ∀ a, a < 7 → ∀ b, b < 7 → a ≠ b → (TX7 a).2.1 ≠ (TX7 b).2.1 := by decide +kernel
theorem tyX7_ok : ∀ k, k < 7 → parseFieldDescriptor (TX7 k).2.2.1 = some (tyX7 k) := by decide +kernel
abbrev cX7_init : ByteArray := prog_1_method_1_code
def yX7_init : MethodName := ⟨RX7, "<init>", "()V"⟩
abbrev cX7_boat : ByteArray := prog_1_method_2_code
def yX7_boat : MethodName := ⟨RX7, "boat", "(I)I"⟩
abbrev cX7_boatIs : ByteArray := prog_1_method_3_code
def yX7_boatIs : MethodName := ⟨RX7, "boatIs", "(II)I"⟩
abbrev cX7_become : ByteArray := prog_1_method_4_code
def yX7_become : MethodName := ⟨RX7, "become", "(II)I"⟩
abbrev cX7_as : ByteArray := prog_1_method_5_code
def yX7_as : MethodName := ⟨RX7, "as", "(II)I"⟩
abbrev cX7_lose : ByteArray := prog_1_method_6_code
def yX7_lose : MethodName := ⟨RX7, "lose", "(II)I"⟩
abbrev cX7_rises : ByteArray := prog_1_method_7_code
def yX7_rises : MethodName := ⟨RX7, "rises", "(I)I"⟩
abbrev cX7_price : ByteArray := prog_1_method_8_code
def yX7_price : MethodName := ⟨RX7, "price", "(II)I"⟩
abbrev cX7_sell : ByteArray := prog_1_method_9_code
def yX7_sell : MethodName := ⟨RX7, "sell", "(II)I"⟩
abbrev cX7_feed : ByteArray := prog_1_method_10_code
def yX7_feed : MethodName := ⟨RX7, "feed", "(JI)I"⟩
abbrev cX7_text : ByteArray := prog_1_method_11_code
def yX7_text : MethodName := ⟨RX7, "text", "(I)I"⟩
abbrev cX7_untell : ByteArray := prog_1_method_12_code
def yX7_untell : MethodName := ⟨RX7, "untell", "(I)I"⟩
abbrev cX7_law : ByteArray := prog_1_method_13_code
def yX7_law : MethodName := ⟨RX7, "law", "(IIII)I"⟩
abbrev cX7_tally : ByteArray := prog_1_method_14_code
def yX7_tally : MethodName := ⟨RX7, "tally", "()I"⟩
abbrev cX7_loose : ByteArray := prog_1_method_15_code
def yX7_loose : MethodName := ⟨RX7, "loose", "(I)I"⟩
abbrev cX7_seed : ByteArray := prog_1_method_16_code
def yX7_seed : MethodName := ⟨RX7, "seed", "(I)I"⟩
abbrev cX7_catches : ByteArray := prog_1_method_17_code
def yX7_catches : MethodName := ⟨RX7, "catches", "(I)I"⟩
abbrev cX7_safe : ByteArray := prog_1_method_18_code
def yX7_safe : MethodName := ⟨RX7, "safe", "(I)I"⟩
abbrev cX7_best : ByteArray := prog_1_method_19_code
def yX7_best : MethodName := ⟨RX7, "best", "(II)I"⟩
abbrev cX7_agrees : ByteArray := prog_1_method_20_code
def yX7_agrees : MethodName := ⟨RX7, "agrees", "(II)I"⟩
abbrev cX7_needs : ByteArray := prog_1_method_21_code
def yX7_needs : MethodName := ⟨RX7, "needs", "(I)I"⟩
abbrev cX7_soonest : ByteArray := prog_1_method_22_code
def yX7_soonest : MethodName := ⟨RX7, "soonest", "(II)I"⟩
abbrev cX7_odds : ByteArray := prog_1_method_23_code
def yX7_odds : MethodName := ⟨RX7, "odds", "(III)I"⟩
abbrev cX7_mean : ByteArray := prog_1_method_24_code
def yX7_mean : MethodName := ⟨RX7, "mean", "(II)I"⟩
abbrev cX7_fits : ByteArray := prog_1_method_25_code
def yX7_fits : MethodName := ⟨RX7, "fits", "(II)I"⟩
abbrev cX7_voice : ByteArray := prog_1_method_26_code
def yX7_voice : MethodName := ⟨RX7, "voice", "(III)I"⟩
abbrev cX7_body : ByteArray := prog_1_method_27_code
def yX7_body : MethodName := ⟨RX7, "body", "(I)I"⟩
abbrev cX7_sheet : ByteArray := prog_1_method_28_code
def yX7_sheet : MethodName := ⟨RX7, "sheet", "(III)I"⟩
abbrev cX7_put : ByteArray := prog_1_method_29_code
def yX7_put : MethodName := ⟨RX7, "put", "(III)I"⟩
abbrev cX7_move : ByteArray := prog_1_method_30_code
def yX7_move : MethodName := ⟨RX7, "move", "(IIIII)I"⟩
abbrev cX7_prices : ByteArray := prog_1_method_31_code
def yX7_prices : MethodName := ⟨RX7, "prices", "(I)I"⟩
abbrev cX7_judge : ByteArray := prog_1_method_32_code
def yX7_judge : MethodName := ⟨RX7, "judge", "(I)I"⟩
abbrev cX7_image : ByteArray := prog_1_method_33_code
def yX7_image : MethodName := ⟨RX7, "image", "()I"⟩
abbrev cX7_restore : ByteArray := prog_1_method_34_code
def yX7_restore : MethodName := ⟨RX7, "restore", "()I"⟩
abbrev cX7_tell : ByteArray := prog_1_method_35_code
def yX7_tell : MethodName := ⟨RX7, "tell", "(I)I"⟩
abbrev cX7_check : ByteArray := prog_1_method_36_code
def yX7_check : MethodName := ⟨RX7, "check", "()I"⟩
abbrev cX7_count : ByteArray := prog_1_method_37_code
def yX7_count : MethodName := ⟨RX7, "count", "(I)I"⟩
abbrev cX7_told : ByteArray := prog_1_method_38_code
def yX7_told : MethodName := ⟨RX7, "told", "(I)I"⟩
abbrev cX7_refuse : ByteArray := prog_1_method_39_code
def yX7_refuse : MethodName := ⟨RX7, "refuse", "(I)I"⟩
abbrev cX7_isWithin : ByteArray := prog_1_method_40_code
def yX7_isWithin : MethodName := ⟨RX7, "isWithin", "(II)Z"⟩
abbrev cX7_isFish : ByteArray := prog_1_method_41_code
def yX7_isFish : MethodName := ⟨RX7, "isFish", "(I)Z"⟩
abbrev cX7_isUse : ByteArray := prog_1_method_42_code
def yX7_isUse : MethodName := ⟨RX7, "isUse", "(I)Z"⟩
abbrev cX7_isSheet : ByteArray := prog_1_method_43_code
def yX7_isSheet : MethodName := ⟨RX7, "isSheet", "(I)Z"⟩
abbrev cX7_isKindWithNumber : ByteArray := prog_1_method_44_code
def yX7_isKindWithNumber : MethodName := ⟨RX7, "isKindWithNumber", "(I)Z"⟩
abbrev cX7_isBoat : ByteArray := prog_1_method_45_code
def yX7_isBoat : MethodName := ⟨RX7, "isBoat", "(I)Z"⟩
abbrev cX7_held : ByteArray := prog_1_method_46_code
def yX7_held : MethodName := ⟨RX7, "held", "(III)I"⟩
def RX8 : String := "PromisedFishModel"
def TX8 : u_T := fun k => match k with
  | 0 => ("PromisedFishModel", "row", "[I", true)
  | 1 => ("PromisedFishModel", "kept", "[I", true)
  | 2 => ("PromisedFishModel", "images", "I", false)
  | 3 => ("PromisedFishModel", "errors", "[I", true)
  | 4 => ("PromisedFishModel", "bitsOf", "[I", true)
  | 5 => ("PromisedFishModel", "sizeOf", "[I", true)
  | 6 => ("PromisedFishModel", "cells", "[I", true)
  | 7 => ("PromisedFishModel", "act", "[I", true)
  | 8 => ("PromisedFishModel", "with", "[I", true)
  | 9 => ("PromisedFishModel", "facts", "[I", true)
  | 10 => ("PromisedFishModel", "pile", "[I", true)
  | 11 => ("PromisedFishModel", "laid", "I", false)
  | 12 => ("PromisedFishModel", "here", "I", false)
  | 13 => ("PromisedFishModel", "opened", "I", false)
  | 14 => ("PromisedFishModel", "bad", "Z", false)
  | 15 => ("PromisedFishModel", "using", "I", false)
  | 16 => ("PromisedFishModel", "landing", "[I", true)
  | 17 => ("PromisedFishModel", "trace", "[I", true)
  | 18 => ("PromisedFishModel", "traced", "I", false)
  | _ => ("PromisedFishModel", "isParted", "Z", false)
def tyX8 : Nat → FieldType := fun k => match k with
  | 0 => .array .int
  | 1 => .array .int
  | 2 => .int
  | 3 => .array .int
  | 4 => .array .int
  | 5 => .array .int
  | 6 => .array .int
  | 7 => .array .int
  | 8 => .array .int
  | 9 => .array .int
  | 10 => .array .int
  | 11 => .int
  | 12 => .int
  | 13 => .int
  | 14 => .boolean
  | 15 => .int
  | 16 => .array .int
  | 17 => .array .int
  | 18 => .int
  | _ => .boolean
theorem nmX8 : ∀ a, a < 20 → ∀ b, b < 20 → a ≠ b → (TX8 a).2.1 ≠ (TX8 b).2.1 := by decide +kernel
theorem tyX8_ok : ∀ k, k < 20 → parseFieldDescriptor (TX8 k).2.2.1 = some (tyX8 k) := by decide +kernel
abbrev cX8_init : ByteArray := prog_10_method_1_code
def yX8_init : MethodName := ⟨RX8, "<init>", "()V"⟩
abbrev cX8_error : ByteArray := prog_10_method_2_code
def yX8_error : MethodName := ⟨RX8, "error", "(I)I"⟩
abbrev cX8_in : ByteArray := prog_10_method_3_code
def yX8_in : MethodName := ⟨RX8, "in", "(III)Z"⟩
abbrev cX8_held : ByteArray := prog_10_method_4_code
def yX8_held : MethodName := ⟨RX8, "held", "(III)I"⟩
abbrev cX8_copyAll : ByteArray := prog_10_method_5_code
def yX8_copyAll : MethodName := ⟨RX8, "copyAll", "([I[I)V"⟩
abbrev cX8_bits : ByteArray := prog_10_method_6_code
def yX8_bits : MethodName := ⟨RX8, "bits", "(I)I"⟩
abbrev cX8_isBoat : ByteArray := prog_10_method_7_code
def yX8_isBoat : MethodName := ⟨RX8, "isBoat", "(I)Z"⟩
abbrev cX8_isFish : ByteArray := prog_10_method_8_code
def yX8_isFish : MethodName := ⟨RX8, "isFish", "(I)Z"⟩
abbrev cX8_becomes : ByteArray := prog_10_method_9_code
def yX8_becomes : MethodName := ⟨RX8, "becomes", "(II)I"⟩
abbrev cX8_of : ByteArray := prog_10_method_10_code
def yX8_of : MethodName := ⟨RX8, "of", "(II)I"⟩
abbrev cX8_haulsOf : ByteArray := prog_10_method_11_code
def yX8_haulsOf : MethodName := ⟨RX8, "haulsOf", "(II)I"⟩
abbrev cX8_eatsOf : ByteArray := prog_10_method_12_code
def yX8_eatsOf : MethodName := ⟨RX8, "eatsOf", "(I)I"⟩
abbrev cX8_landsOf : ByteArray := prog_10_method_13_code
def yX8_landsOf : MethodName := ⟨RX8, "landsOf", "(III)I"⟩
abbrev cX8_catchBy : ByteArray := prog_10_method_14_code
def yX8_catchBy : MethodName := ⟨RX8, "catchBy", "(II)I"⟩
abbrev cX8_catchOf : ByteArray := prog_10_method_15_code
def yX8_catchOf : MethodName := ⟨RX8, "catchOf", "(I)I"⟩
abbrev cX8_shortBy : ByteArray := prog_10_method_16_code
def yX8_shortBy : MethodName := ⟨RX8, "shortBy", "(II)I"⟩
abbrev cX8_coinsFor : ByteArray := prog_10_method_17_code
def yX8_coinsFor : MethodName := ⟨RX8, "coinsFor", "(II)I"⟩
abbrev cX8_isKm : ByteArray := prog_10_method_18_code
def yX8_isKm : MethodName := ⟨RX8, "isKm", "(I)Z"⟩
abbrev cX8_boat : ByteArray := prog_10_method_19_code
def yX8_boat : MethodName := ⟨RX8, "boat", "(I)I"⟩
abbrev cX8_boatIs : ByteArray := prog_10_method_20_code
def yX8_boatIs : MethodName := ⟨RX8, "boatIs", "(II)I"⟩
abbrev cX8_become : ByteArray := prog_10_method_21_code
def yX8_become : MethodName := ⟨RX8, "become", "(II)I"⟩
abbrev cX8_as : ByteArray := prog_10_method_22_code
def yX8_as : MethodName := ⟨RX8, "as", "(II)I"⟩
abbrev cX8_lose : ByteArray := prog_10_method_23_code
def yX8_lose : MethodName := ⟨RX8, "lose", "(II)I"⟩
abbrev cX8_rises : ByteArray := prog_10_method_24_code
def yX8_rises : MethodName := ⟨RX8, "rises", "(I)I"⟩
abbrev cX8_price : ByteArray := prog_10_method_25_code
def yX8_price : MethodName := ⟨RX8, "price", "(II)I"⟩
abbrev cX8_sells : ByteArray := prog_10_method_26_code
def yX8_sells : MethodName := ⟨RX8, "sells", "(II)I"⟩
abbrev cX8_sell : ByteArray := prog_10_method_27_code
def yX8_sell : MethodName := ⟨RX8, "sell", "(II)I"⟩
abbrev cX8_feed : ByteArray := prog_10_method_28_code
def yX8_feed : MethodName := ⟨RX8, "feed", "(JI)I"⟩
abbrev cX8_look : ByteArray := prog_10_method_29_code
def yX8_look : MethodName := ⟨RX8, "look", "()I"⟩
abbrev cX8_lays : ByteArray := prog_10_method_30_code
def yX8_lays : MethodName := ⟨RX8, "lays", "(II)V"⟩
abbrev cX8_nameOf : ByteArray := prog_10_method_31_code
def yX8_nameOf : MethodName := ⟨RX8, "nameOf", "(I)I"⟩
abbrev cX8_number : ByteArray := prog_10_method_32_code
def yX8_number : MethodName := ⟨RX8, "number", "()V"⟩
abbrev cX8_opens : ByteArray := prog_10_method_33_code
def yX8_opens : MethodName := ⟨RX8, "opens", "(I)V"⟩
abbrev cX8_one : ByteArray := prog_10_method_34_code
def yX8_one : MethodName := ⟨RX8, "one", "()V"⟩
abbrev cX8_times : ByteArray := prog_10_method_35_code
def yX8_times : MethodName := ⟨RX8, "times", "()V"⟩
abbrev cX8_sum : ByteArray := prog_10_method_36_code
def yX8_sum : MethodName := ⟨RX8, "sum", "()V"⟩
abbrev cX8_compares : ByteArray := prog_10_method_37_code
def yX8_compares : MethodName := ⟨RX8, "compares", "()V"⟩
abbrev cX8_all : ByteArray := prog_10_method_38_code
def yX8_all : MethodName := ⟨RX8, "all", "()V"⟩
abbrev cX8_any : ByteArray := prog_10_method_39_code
def yX8_any : MethodName := ⟨RX8, "any", "()V"⟩
abbrev cX8_text : ByteArray := prog_10_method_40_code
def yX8_text : MethodName := ⟨RX8, "text", "(I)I"⟩
abbrev cX8_untell : ByteArray := prog_10_method_41_code
def yX8_untell : MethodName := ⟨RX8, "untell", "(I)I"⟩
abbrev cX8_twoOf : ByteArray := prog_10_method_42_code
def yX8_twoOf : MethodName := ⟨RX8, "twoOf", "(III)I"⟩
abbrev cX8_works : ByteArray := prog_10_method_43_code
def yX8_works : MethodName := ⟨RX8, "works", "(I)I"⟩
abbrev cX8_gives : ByteArray := prog_10_method_44_code
def yX8_gives : MethodName := ⟨RX8, "gives", "(IIII)I"⟩
abbrev cX8_law : ByteArray := prog_10_method_45_code
def yX8_law : MethodName := ⟨RX8, "law", "(IIII)I"⟩
abbrev cX8_pays : ByteArray := prog_10_method_46_code
def yX8_pays : MethodName := ⟨RX8, "pays", "(I)V"⟩
abbrev cX8_tallies : ByteArray := prog_10_method_47_code
def yX8_tallies : MethodName := ⟨RX8, "tallies", "()I"⟩
abbrev cX8_tally : ByteArray := prog_10_method_48_code
def yX8_tally : MethodName := ⟨RX8, "tally", "()I"⟩
abbrev cX8_draw : ByteArray := prog_10_method_49_code
def yX8_draw : MethodName := ⟨RX8, "draw", "()I"⟩
abbrev cX8_drawn : ByteArray := prog_10_method_50_code
def yX8_drawn : MethodName := ⟨RX8, "drawn", "()I"⟩
abbrev cX8_loose : ByteArray := prog_10_method_51_code
def yX8_loose : MethodName := ⟨RX8, "loose", "(I)I"⟩
abbrev cX8_seed : ByteArray := prog_10_method_52_code
def yX8_seed : MethodName := ⟨RX8, "seed", "(I)I"⟩
abbrev cX8_catches : ByteArray := prog_10_method_53_code
def yX8_catches : MethodName := ⟨RX8, "catches", "(I)I"⟩
abbrev cX8_enough : ByteArray := prog_10_method_54_code
def yX8_enough : MethodName := ⟨RX8, "enough", "(II)I"⟩
abbrev cX8_safe : ByteArray := prog_10_method_55_code
def yX8_safe : MethodName := ⟨RX8, "safe", "(I)I"⟩
abbrev cX8_shortest : ByteArray := prog_10_method_56_code
def yX8_shortest : MethodName := ⟨RX8, "shortest", "(II)I"⟩
abbrev cX8_best : ByteArray := prog_10_method_57_code
def yX8_best : MethodName := ⟨RX8, "best", "(II)I"⟩
abbrev cX8_agrees : ByteArray := prog_10_method_58_code
def yX8_agrees : MethodName := ⟨RX8, "agrees", "(II)I"⟩
abbrev cX8_isEnough : ByteArray := prog_10_method_59_code
def yX8_isEnough : MethodName := ⟨RX8, "isEnough", "(I)Z"⟩
abbrev cX8_needs : ByteArray := prog_10_method_60_code
def yX8_needs : MethodName := ⟨RX8, "needs", "(I)I"⟩
abbrev cX8_soonest : ByteArray := prog_10_method_61_code
def yX8_soonest : MethodName := ⟨RX8, "soonest", "(II)I"⟩
abbrev cX8_partOf : ByteArray := prog_10_method_62_code
def yX8_partOf : MethodName := ⟨RX8, "partOf", "(III)I"⟩
abbrev cX8_odds : ByteArray := prog_10_method_63_code
def yX8_odds : MethodName := ⟨RX8, "odds", "(III)I"⟩
abbrev cX8_mean : ByteArray := prog_10_method_64_code
def yX8_mean : MethodName := ⟨RX8, "mean", "(II)I"⟩
abbrev cX8_rightOf : ByteArray := prog_10_method_65_code
def yX8_rightOf : MethodName := ⟨RX8, "rightOf", "(I)I"⟩
abbrev cX8_fits : ByteArray := prog_10_method_66_code
def yX8_fits : MethodName := ⟨RX8, "fits", "(II)I"⟩
abbrev cX8_begins : ByteArray := prog_10_method_67_code
def yX8_begins : MethodName := ⟨RX8, "begins", "(I)V"⟩
abbrev cX8_plainCalls : ByteArray := prog_10_method_68_code
def yX8_plainCalls : MethodName := ⟨RX8, "plainCalls", "(II)I"⟩
abbrev cX8_smackCalls : ByteArray := prog_10_method_69_code
def yX8_smackCalls : MethodName := ⟨RX8, "smackCalls", "(II)I"⟩
abbrev cX8_calls : ByteArray := prog_10_method_70_code
def yX8_calls : MethodName := ⟨RX8, "calls", "(II)I"⟩
abbrev cX8_plainHauls : ByteArray := prog_10_method_71_code
def yX8_plainHauls : MethodName := ⟨RX8, "plainHauls", "(II)I"⟩
abbrev cX8_skiffHauls : ByteArray := prog_10_method_72_code
def yX8_skiffHauls : MethodName := ⟨RX8, "skiffHauls", "(II)I"⟩
abbrev cX8_hauls : ByteArray := prog_10_method_73_code
def yX8_hauls : MethodName := ⟨RX8, "hauls", "(II)I"⟩
abbrev cX8_plainLets : ByteArray := prog_10_method_74_code
def yX8_plainLets : MethodName := ⟨RX8, "plainLets", "(II)I"⟩
abbrev cX8_letsBy : ByteArray := prog_10_method_75_code
def yX8_letsBy : MethodName := ⟨RX8, "letsBy", "(II)I"⟩
abbrev cX8_plainParts : ByteArray := prog_10_method_76_code
def yX8_plainParts : MethodName := ⟨RX8, "plainParts", "(II)I"⟩
abbrev cX8_partsBy : ByteArray := prog_10_method_77_code
def yX8_partsBy : MethodName := ⟨RX8, "partsBy", "(II)I"⟩
abbrev cX8_voice : ByteArray := prog_10_method_78_code
def yX8_voice : MethodName := ⟨RX8, "voice", "(III)I"⟩
abbrev cX8_body : ByteArray := prog_10_method_79_code
def yX8_body : MethodName := ⟨RX8, "body", "(I)I"⟩
abbrev cX8_isSheet : ByteArray := prog_10_method_80_code
def yX8_isSheet : MethodName := ⟨RX8, "isSheet", "(I)Z"⟩
abbrev cX8_sheet : ByteArray := prog_10_method_81_code
def yX8_sheet : MethodName := ⟨RX8, "sheet", "(III)I"⟩
abbrev cX8_notThere : ByteArray := prog_10_method_82_code
def yX8_notThere : MethodName := ⟨RX8, "notThere", "(I)I"⟩
abbrev cX8_put : ByteArray := prog_10_method_83_code
def yX8_put : MethodName := ⟨RX8, "put", "(III)I"⟩
abbrev cX8_notMoved : ByteArray := prog_10_method_84_code
def yX8_notMoved : MethodName := ⟨RX8, "notMoved", "(IIIII)I"⟩
abbrev cX8_move : ByteArray := prog_10_method_85_code
def yX8_move : MethodName := ⟨RX8, "move", "(IIIII)I"⟩
abbrev cX8_prices : ByteArray := prog_10_method_86_code
def yX8_prices : MethodName := ⟨RX8, "prices", "(I)I"⟩
abbrev cX8_judge : ByteArray := prog_10_method_87_code
def yX8_judge : MethodName := ⟨RX8, "judge", "(I)I"⟩
abbrev cX8_image : ByteArray := prog_10_method_88_code
def yX8_image : MethodName := ⟨RX8, "image", "()I"⟩
abbrev cX8_restore : ByteArray := prog_10_method_89_code
def yX8_restore : MethodName := ⟨RX8, "restore", "()I"⟩
abbrev cX8_tell : ByteArray := prog_10_method_90_code
def yX8_tell : MethodName := ⟨RX8, "tell", "(I)I"⟩
abbrev cX8_check : ByteArray := prog_10_method_91_code
def yX8_check : MethodName := ⟨RX8, "check", "()I"⟩
abbrev cX8_count : ByteArray := prog_10_method_92_code
def yX8_count : MethodName := ⟨RX8, "count", "(I)I"⟩
abbrev cX8_told : ByteArray := prog_10_method_93_code
def yX8_told : MethodName := ⟨RX8, "told", "(I)I"⟩
def RJx145de : String := "java/io/Serializable"
def TJx145de : u_T := fun k => match k with
  | _ => ("", "", "", false)
def tyJx145de : Nat → FieldType := fun k => match k with
  | _ => .int
def RJx9f9b0 : String := "java/lang/CharSequence"
def TJx9f9b0 : u_T := fun k => match k with
  | _ => ("", "", "", false)
def tyJx9f9b0 : Nat → FieldType := fun k => match k with
  | _ => .int
def RJxb160c : String := "java/lang/Comparable"
def TJxb160c : u_T := fun k => match k with
  | _ => ("", "", "", false)
def tyJxb160c : Nat → FieldType := fun k => match k with
  | _ => .int
def RJ6 : String := "java/lang/Integer"
def TJ6 : u_T := fun k => match k with
  | _ => ("", "", "", false)
def tyJ6 : Nat → FieldType := fun k => match k with
  | _ => .int
abbrev cJ6_numberOfTrailingZeros_0f7a4 : ByteArray := prog_11_method_48_code
def yJ6_numberOfTrailingZeros_0f7a4 : MethodName := ⟨RJ6, "numberOfTrailingZeros", "(I)I"⟩
abbrev cJ6_bitCount_0f7a4 : ByteArray := prog_11_method_49_code
def yJ6_bitCount_0f7a4 : MethodName := ⟨RJ6, "bitCount", "(I)I"⟩
def RJ9 : String := "java/lang/Math"
def TJ9 : u_T := fun k => match k with
  | _ => ("", "", "", false)
def tyJ9 : Nat → FieldType := fun k => match k with
  | _ => .int
abbrev cJ9_max_7cf53 : ByteArray := prog_12_method_65_code
def yJ9_max_7cf53 : MethodName := ⟨RJ9, "max", "(II)I"⟩
abbrev cJ9_min_7cf53 : ByteArray := prog_12_method_69_code
def yJ9_min_7cf53 : MethodName := ⟨RJ9, "min", "(II)I"⟩
def RJ0 : String := "java/lang/String"
def TJ0 : u_T := fun k => match k with
  | _ => ("", "", "", false)
def tyJ0 : Nat → FieldType := fun k => match k with
  | _ => .int
abbrev cJ0_length_8abf5 : ByteArray := prog_13_method_54_code
def yJ0_length_8abf5 : MethodName := ⟨RJ0, "length", "()I"⟩
abbrev cJ0_charAt_5068e : ByteArray := prog_13_method_56_code
def yJ0_charAt_5068e : MethodName := ⟨RJ0, "charAt", "(I)C"⟩
abbrev cJ0_coder_7d493 : ByteArray := prog_13_method_152_code
def yJ0_coder_7d493 : MethodName := ⟨RJ0, "coder", "()B"⟩
abbrev cJ0_isLatin1_aae02 : ByteArray := prog_13_method_154_code
def yJ0_isLatin1_aae02 : MethodName := ⟨RJ0, "isLatin1", "()Z"⟩
abbrev cJ0_checkIndex_df160 : ByteArray := prog_13_method_155_code
def yJ0_checkIndex_df160 : MethodName := ⟨RJ0, "checkIndex", "(II)V"⟩
def RJ1 : String := "java/lang/StringLatin1"
def TJ1 : u_T := fun k => match k with
  | _ => ("", "", "", false)
def tyJ1 : Nat → FieldType := fun k => match k with
  | _ => .int
abbrev cJ1_charAt_3b067 : ByteArray := prog_14_method_2_code
def yJ1_charAt_3b067 : MethodName := ⟨RJ1, "charAt", "([BI)C"⟩
def RJ2 : String := "java/lang/StringUTF16"
def TJ2 : u_T := fun k => match k with
  | _ => ("", "", "", false)
def tyJ2 : Nat → FieldType := fun k => match k with
  | _ => .int
abbrev cJ2_getChar_3b067 : ByteArray := prog_15_method_5_code
def yJ2_getChar_3b067 : MethodName := ⟨RJ2, "getChar", "([BI)C"⟩
abbrev cJ2_length_9d52b : ByteArray := prog_15_method_6_code
def yJ2_length_9d52b : MethodName := ⟨RJ2, "length", "([B)I"⟩
abbrev cJ2_charAt_3b067 : ByteArray := prog_15_method_83_code
def yJ2_charAt_3b067 : MethodName := ⟨RJ2, "charAt", "([BI)C"⟩
abbrev cJ2_checkIndex_2214a : ByteArray := prog_15_method_91_code
def yJ2_checkIndex_2214a : MethodName := ⟨RJ2, "checkIndex", "(I[B)V"⟩
def RJ10 : String := "java/lang/System"
def TJ10 : u_T := fun k => match k with
  | _ => ("", "", "", false)
def tyJ10 : Nat → FieldType := fun k => match k with
  | _ => .int
def RJxfd54e : String := "java/lang/constant/Constable"
def TJxfd54e : u_T := fun k => match k with
  | _ => ("", "", "", false)
def tyJxfd54e : Nat → FieldType := fun k => match k with
  | _ => .int
def RJx3cf43 : String := "java/lang/constant/ConstantDesc"
def TJx3cf43 : u_T := fun k => match k with
  | _ => ("", "", "", false)
def tyJx3cf43 : Nat → FieldType := fun k => match k with
  | _ => .int
def RJ7 : String := "java/util/Arrays"
def TJ7 : u_T := fun k => match k with
  | _ => ("", "", "", false)
def tyJ7 : Nat → FieldType := fun k => match k with
  | _ => .int
abbrev cJ7_fill_53178 : ByteArray := prog_17_method_103_code
def yJ7_fill_53178 : MethodName := ⟨RJ7, "fill", "([II)V"⟩
def RJ3 : String := "jdk/internal/util/Preconditions"
def TJ3 : u_T := fun k => match k with
  | _ => ("", "", "", false)
def tyJ3 : Nat → FieldType := fun k => match k with
  | _ => .int
abbrev cJ3_checkIndex_8e157 : ByteArray := prog_18_method_11_code
def yJ3_checkIndex_8e157 : MethodName := ⟨RJ3, "checkIndex", "(IILjava/util/function/BiFunction;)I"⟩
def RL : String := "PromisedFishLaw"
abbrev cL_law : ByteArray := code
def yL_law : MethodName := ⟨RL, "law", "([I)Z"⟩
abbrev vwCl : List vw_C := [(RX0, TX0, 3), (RX1, TX1, 4), (RX2, TX2, 15), (RX3, TX3, 6), (RX4, TX4, 3), (RX6, TX6, 6), (RX7, TX7, 7), (RX8, TX8, 20)]
end
section
section CORE
/-- the fixed shape of all cells that the two constructors make: kind (0 a row of ints, 1 an object, 2 a row of references), number of its type or class, size, references by place -/
abbrev sk_E : Type := Nat × Nat × Nat × List (Option Nat)
def sk_T : List sk_E := [(1, 6, 7, [some 1, some 2, some 3, some 4, some 5, some 6]), (1, 2, 15, [some 18, some 19, some 20, some 21, some 22, some 23]), (1, 2, 15, [some 36, some 37, some 38, some 39, some 40, some 41]), (1, 3, 6, [some 15, none, some 16]), (1, 5, 6, [some 17]), (2, 3, 4, [some 7, some 8, some 9, some 10]), (0, 0, 7, []), (1, 4, 3, [some 11]), (1, 4, 3, [some 12]), (1, 4, 3, [some 13]), (1, 4, 3, [some 14]), (0, 0, 24, []), (0, 0, 24, []), (0, 0, 24, []), (0, 0, 24, []), (0, 0, 60, []), (0, 0, 60, []), (0, 0, 30, []), (0, 0, 4, []), (0, 0, 4, []), (2, 1, 6, [some 24, some 25, some 26, some 27, some 28, some 29]), (2, 2, 2, [some 30, some 31]), (0, 0, 60, []), (0, 0, 24, []), (1, 0, 3, []), (1, 0, 3, []), (1, 0, 3, []), (1, 0, 3, []), (1, 0, 3, []), (1, 0, 3, []), (1, 1, 4, [some 32, some 34]), (1, 1, 4, [some 33, some 35]), (0, 0, 60, []), (0, 0, 60, []), (0, 0, 60, []), (0, 0, 60, []), (0, 0, 4, []), (0, 0, 4, []), (2, 1, 6, [some 42, some 43, some 44, some 45, some 46, some 47]), (2, 2, 2, [some 48, some 49]), (0, 0, 60, []), (0, 0, 24, []), (1, 0, 3, []), (1, 0, 3, []), (1, 0, 3, []), (1, 0, 3, []), (1, 0, 3, []), (1, 0, 3, []), (1, 1, 4, [some 50, some 52]), (1, 1, 4, [some 51, some 53]), (0, 0, 60, []), (0, 0, 60, []), (0, 0, 60, []), (0, 0, 60, []), (1, 7, 20, [some 55, some 56, none, some 57, some 58, some 59, some 60, some 61, some 62, some 63, some 64, none, none, none, none, none, some 65, some 66]), (0, 0, 361, []), (0, 0, 361, []), (0, 0, 7, []), (0, 0, 4, []), (0, 0, 4, []), (0, 0, 96, []), (0, 0, 60, []), (0, 0, 60, []), (0, 0, 3, []), (0, 0, 60, []), (0, 0, 24, []), (0, 0, 30, [])]
abbrev sk_M : Type := Nat → Nat → Int32
/-- class numbers, field places, row classes, addresses by place, the script's length, the script -/
abbrev sk_V : Type := (Nat → ClassId) × (Nat → Nat → Nat) × (Nat → ClassId) × (Nat → Nat) × Nat × (Nat → Int32)
abbrev sk_G (E : sk_V) : va_G := (E.1, E.2.1)
abbrev sk_t (E : sk_V) : Nat → ClassId := E.2.2.1
abbrev sk_a (E : sk_V) : Nat → Nat := E.2.2.2.1
def sk_e (k : Nat) : sk_E := sk_T.getD k (0, 0, 0, [])
def sk_v (E : sk_V) (v : Value) : Value := match v with
  | .ref k => .ref (sk_a E k)
  | v => v
def sk_rf (rs : List (Option Nat)) (i : Nat) : Option Nat := rs.getD i none
/-- what an object's field holds, by places -/
def sk_g (h : sk_M) (k : Nat) (rs : List (Option Nat)) (i : Nat) : Value := match sk_rf rs i with
  | some r => .ref r
  | none => .int (h k i)
def sk_c (E : sk_V) (h : sk_M) (k : Nat) (e : sk_E) : va_E := match e with
  | (0, t, n, _) => .inl (sk_t E t, n, .inl (h k))
  | (1, ci, n, rs) => .inr (ci, (List.range n).map (fun i => sk_v E (sk_g h k rs i)))
  | (_, t, n, rs) => .inl (sk_t E t, n, .inr (.inr (.inr (.inr (fun i => (sk_rf rs i).map (sk_a E))))))
def sk_W (E : sk_V) (h : sk_M) : va_W := (List.range 67).map (fun k => (sk_a E k, sk_c E h k (sk_e k)))
theorem sk_W_at {E : sk_V} {h : sk_M} {k : Nat} (hk : k < 67) : (sk_W E h)[k]? = some (sk_a E k, sk_c E h k (sk_e k)) := by
  simp [sk_W, hk]
/-- a row anew -/
def sk_r (h : sk_M) (k : Nat) (f : Nat → Int32) : sk_M := fun a => if a = k then f else h a
theorem sk_r_eq (h : sk_M) (k : Nat) (f : Nat → Int32) : sk_r h k f k = f := if_pos rfl
theorem sk_r_ne (h : sk_M) {k a : Nat} (f : Nat → Int32) (n : a ≠ k) : sk_r h k f a = h a := if_neg n
/-- a cell anew -/
def sk_u (h : sk_M) (k i : Nat) (x : Int32) : sk_M := sk_r h k (upd (h k) i x)
theorem sk_c_ne {E : sk_V} {h : sk_M} {k j : Nat} (f : Nat → Int32) (n : j ≠ k) (e : sk_E) : sk_c E (sk_r h k f) j e = sk_c E h j e := by
  have h1 : sk_r h k f j = h j := sk_r_ne h f n
  unfold sk_c
  split <;> simp only [h1, sk_g]
theorem sk_W_set {E : sk_V} {h : sk_M} {k : Nat} {f : Nat → Int32} {c : va_E} (hc : sk_c E (sk_r h k f) k (sk_e k) = c) : (sk_W E h).set k (sk_a E k, c) = sk_W E (sk_r h k f) := by
  apply List.ext_getElem?
  intro j
  rw [List.getElem?_set]
  by_cases hj : k = j
  · subst hj
    rw [if_pos rfl]
    by_cases hk : k < 67
    · rw [sk_W_at hk, if_pos (by simp [sk_W, hk]), hc]
    · rw [if_neg (by simp [sk_W, hk])]
      simp [sk_W, hk]
  · rw [if_neg hj]
    by_cases hk : j < 67
    · rw [sk_W_at hk, sk_W_at hk, sk_c_ne f (fun e => hj e.symm)]
    · simp [sk_W, hk]
theorem sk_W_row {E : sk_V} {h : sk_M} {k t n : Nat} {rs : List (Option Nat)} {f : Nat → Int32} (he : sk_e k = (0, t, n, rs)) : (sk_W E h).set k (sk_a E k, .inl (sk_t E t, n, .inl f)) = sk_W E (sk_r h k f) := by
  refine sk_W_set ?_
  rw [he]
  show (Sum.inl _ : va_E) = _
  rw [sk_r_eq]
theorem sk_W_obj {E : sk_V} {h : sk_M} {k ci n i : Nat} {rs : List (Option Nat)} {x : Int32} (he : sk_e k = (1, ci, n, rs)) (hi : sk_rf rs i = none) : (sk_W E h).set k (sk_a E k, .inr (ci, ((List.range n).map (fun i => sk_v E (sk_g h k rs i))).set i (.int x))) = sk_W E (sk_u h k i x) := by
  refine sk_W_set ?_
  rw [he]
  refine congrArg (fun q => (Sum.inr (ci, q) : va_E)) ?_
  apply List.ext_getElem?
  intro j
  rw [List.getElem?_set]
  by_cases hj : i = j
  · subst hj
    rw [if_pos rfl]
    by_cases hn : i < n
    · rw [if_pos (by simp [hn])]
      simp [hn, sk_g, hi, sk_r_eq, upd, sk_v]
    · rw [if_neg (by simp [hn])]
      simp [hn]
  · rw [if_neg hj]
    by_cases hn : j < n
    · have h1 : sk_g (sk_r h k (upd (h k) i x)) k rs j = sk_g h k rs j := by
        unfold sk_g
        rw [sk_r_eq]
        have : upd (h k) i x j = h k j := if_neg (fun e => hj (Eq.symm e))
        rw [this]
      simp [hn, h1]
    · simp [hn]
theorem sk_get {E : sk_V} {h : sk_M} {k n i : Nat} {rs : List (Option Nat)} (hi : i < n) : ((List.range n).map (fun i => sk_v E (sk_g h k rs i)))[i]? = some (sk_v E (sk_g h k rs i)) := by
  simp [hi]
abbrev sk_y (E : sk_V) : List (ClassId × FieldType) := [(sk_t E 0, .int), (sk_t E 1, .object "PromisedFish$Boat"), (sk_t E 2, .object "PromisedFish$Law"), (sk_t E 3, .object "PromisedFish$Sheet")]
def sk_A (E : sk_V) : Nat → Prop := fun q => ∃ k, k < 67 ∧ q = sk_a E k
end CORE
end
section
section RULES
/-- the words that a contract carries; the nests' words -/
def gg_W : List Cond := lw_tbl.filter goodWord
def nn_b (w : Cond) : Bool := match w with
  | .fieldLinkNest .. => true
  | .methodLinkNest .. => true
  | _ => false
def nn_W : List Cond := tables_1.filter nn_b
theorem gg_good {w : Cond} (h : w ∈ gg_W) : (w.onTables && w.keeps) = true ∨ ∃ ty, w = .arrayClass ty := good_of_word (List.mem_filter.mp h).2
theorem nn_warm {w : Cond} (hb : nn_b w = true) {s U : State} (hW : s.WarmedH U.vm) (h : va_Nw w s) : va_Nw w U := by
  cases w <;> first | exact va_Nw.warmF hW h | exact va_Nw.warmM hW h | (simp [nn_b] at hb)
abbrev sk_L (E : sk_V) : Nat := E.2.2.2.2.1
abbrev sk_x (E : sk_V) : Nat → Int32 := E.2.2.2.2.2
def ab_L : List Int32 := [-1, 0, 0, 0, 1, 2, 0]
def bo_L : List Int32 := [10, 11, 12, 13, 20, 0, 0, 21, 0, 30, 0, 0, 0, 0, 40, 0, 50, 0, 51, 0, 0, 60, 0, 0, 70, 71, 0, 0]
/-- what is only read: the script, two rows -/
def sk_ro (E : sk_V) (k : Nat) : Option (Nat × (Nat → Int32)) := match k with
  | 67 => some (sk_L E, sk_x E)
  | 68 => some (7, fun j => ab_L.getD j 0)
  | 69 => some (28, fun j => bo_L.getD j 0)
  | _ => none
def st_K : List (String × String × Nat) := [("PromisedFish", "ABOVE", 68), ("PromisedFish$Voices", "BODIES", 69)]
def sk_F (E : sk_V) (s : State) : Prop :=
  va_K (sk_G E) vwCl (sk_y E) s ∧ (∀ i j, i < 67 → j < 67 → sk_a E i = sk_a E j → i = j) ∧
  (∀ k n f, sk_ro E k = some (n, f) → va_T .int (sk_a E k) n (fun j => .int (f j)) (sk_A E) s s.heap) ∧
  (∀ q ∈ st_K, va_Z q.1 q.2.1 "[I" (.ref (sk_a E q.2.2)) (sk_A E) s s.heap) ∧
  vk_S 1 [6] [[99, 115, 110, 112, 116, 110]] (fun _ => sk_a E 70) (fun _ => sk_a E 71) (sk_A E) s s.heap ∧
  vk_R "PromisedFish$Reader" 82 "csnptn" (sk_a E 70) s ∧
  va_Z "java/lang/String" "COMPACT_STRINGS" "Z" (.int 1) (sk_A E) s s.heap ∧
  va_Zq "jdk/internal/util/Preconditions" "SIOOBE_FORMATTER" "Ljava/util/function/BiFunction;" (sk_A E) s s.heap ∧
  ∀ w ∈ nn_W, va_Nw w s
theorem sk_F.go {E : sk_V} {s U : State} (h : sk_F E s) (hW : s.WarmedH U.vm) (hq : ∀ a, a < s.heap.size → ¬ sk_A E a → U.heap[a]? = s.heap[a]?) : sk_F E U := by
  obtain ⟨h1, h2, h3, h4, h5, h6, h7, h8, h9⟩ := h
  exact ⟨va_K.moved hW.alike h1, h2, fun k n f e => va_T.kept (va_T.moved hW.alike (h3 k n f e)) hq, fun q e => va_Z.kept (va_Z.moved hW.alike (h4 q e)) hq, vk_S.kept (vk_S.moved hW.alike h5) hq, vk_R.warm hW h6, va_Z.kept (va_Z.moved hW.alike h7) hq, va_Zq.kept (va_Zq.moved hW.alike h8) hq, fun w hw => nn_warm (List.mem_filter.mp hw).2 hW (h9 w hw)⟩
/-- a method: its name, code, locals, what it returns -/
abbrev sk_m : Type := MethodName × ByteArray × Nat × Option FieldType
def sk_C (E : sk_V) (d : Nat) (M : sk_m) (p : Program) (R : Room) (s : State) (m : MethodId) (args : Array Value) (meth : Method) (c : Code) : Prop :=
  p.tables.exec = Jvm.exec ∧ c.code = M.2.1 ∧ c.maxLocals = M.2.2.1 ∧ s.vm.findClass M.1.cls = some m.cls ∧ (∀ w ∈ gg_W, w.before args s = true) ∧ sk_F E s ∧ meth.sig.returnType = M.2.2.2 ∧ meth.locks = false ∧ d ≤ R.frames ∧ 60 * d ≤ R.locals
def sk_l (E : sk_V) (ls : Array Slot) (L : List (Option Value)) : Prop := ls.size = L.length ∧ lv_wf ls ∧ ∀ (i : Nat) (v : Value), L[i]? = some (some v) → ls[i]? = some (.val (sk_v E v))
def sk_ret (M : sk_m) (pc : Nat) (r : Option Value) : Prop := (∃ (v : Int32) (ty : FieldType), r = some (.int v) ∧ M.2.2.2 = some ty ∧ narrow ty (.int v) = .int v ∧ decode M.2.1 pc = .ok (.ireturn, 1)) ∨ (r = none ∧ M.2.2.2 = none ∧ decode M.2.1 pc = .ok (.return_, 1))
/-- from this place, with these locals, stack and memory, the method comes to its end, where Q holds -/
def sk_S (l : Launch) (E : sk_V) (d : Nat) (M : sk_m) (pc : Nat) (L : List (Option Value)) (St : List Value) (h : sk_M) (Q : Option Value → sk_M → Prop) : Prop :=
  ∀ (p : Program) (e : Env) (R : Room) (s : State) (m : MethodId) (args : Array Value) (below : List Frame) (meth : Method) (c : Code) (cells slots : Nat) (Z : State → Prop), sk_C E d M p R s m args meth c → cells ≤ R.cells → slots ≤ R.slots →
  (∀ (r : Option Value) (h1 : sk_M) (H : Heap) (locs : List Loc) (pc1 : Nat) (ls : Array Slot), Q r h1 → va_P (sk_G E) vwCl (sk_W E h1) H → va_S (sk_A E) s.heap H locs → sk_ret M pc1 r → W p l e R s m args below meth c H locs cells slots Z (F0 m pc1 ls (r.toList.map (sk_v E)))) →
  ∀ (H : Heap) (locs : List Loc) (ls : Array Slot), va_P (sk_G E) vwCl (sk_W E h) H → va_S (sk_A E) s.heap H locs → sk_l E ls L → W p l e R s m args below meth c H locs cells slots Z (F0 m pc ls (St.map (sk_v E)))
variable {l : Launch} {E : sk_V} {d : Nat} {M : sk_m} {pc : Nat} {L : List (Option Value)} {St : List Value} {h : sk_M} {Q : Option Value → sk_M → Prop}
theorem sk_S.mono {Q1 : Option Value → sk_M → Prop} (k : sk_S l E d M pc L St h Q1) (hq : ∀ r h1, Q1 r h1 → Q r h1) : sk_S l E d M pc L St h Q := by
  intro p e R s m args below meth c ce so Z C hc hs hz H locs ls hP hS hl
  exact k p e R s m args below meth c ce so Z C hc hs (fun r h1 H locs pc1 ls q => hz r h1 H locs pc1 ls (hq r h1 q)) H locs ls hP hS hl
/-- the end -/
theorem sk_S.ret {r : Option Value} (hst : St = r.toList) (hr : sk_ret M pc r) (hq : Q r h) : sk_S l E d M pc L St h Q := by
  intro p e R s m args below meth c ce so Z C hc hs hz H locs ls hP hS hl
  subst hst
  exact hz r h H locs pc ls hq hP hS hr
theorem sk_S.iret {v : Int32} {ty : FieldType} (hd : decode M.2.1 pc = .ok (.ireturn, 1)) (hr : M.2.2.2 = some ty) (hn : narrow ty (.int v) = .int v) (hq : Q (some (.int v)) h) : sk_S l E d M pc L [.int v] h Q :=
  sk_S.ret (r := some (.int v)) rfl (Or.inl ⟨v, ty, rfl, hr, hn, hd⟩) hq
theorem sk_S.vret (hd : decode M.2.1 pc = .ok (.return_, 1)) (hr : M.2.2.2 = none) (hq : Q none h) : sk_S l E d M pc L [] h Q :=
  sk_S.ret (r := none) rfl (Or.inr ⟨rfl, hr, hd⟩) hq
theorem sk_S.iconst {n : Int} {v : Int32} (hd : decode M.2.1 pc = .ok (.iconst n, 1)) (hv : Int32.ofInt n = v) (k : sk_S l E d M (pc + 1) L (.int v :: St) h Q) : sk_S l E d M pc L (St) h Q := by
  intro p e R s m args below meth c ce so Z C hc hs hz H locs ls hP hS hl
  exact lv_iconst C.1 C.2.1 hd hv (k p e R s m args below meth c ce so Z C hc hs hz H locs ls hP hS hl)
theorem sk_S.bipush {n : Int} {v : Int32} (hd : decode M.2.1 pc = .ok (.bipush n, 2)) (hv : (Int8.ofInt n).toInt32 = v) (k : sk_S l E d M (pc + 2) L (.int v :: St) h Q) : sk_S l E d M pc L (St) h Q := by
  intro p e R s m args below meth c ce so Z C hc hs hz H locs ls hP hS hl
  exact lv_bipush C.1 C.2.1 hd hv (k p e R s m args below meth c ce so Z C hc hs hz H locs ls hP hS hl)
theorem sk_S.sipush {n : Int} {v : Int32} (hd : decode M.2.1 pc = .ok (.sipush n, 3)) (hv : (Int16.ofInt n).toInt32 = v) (k : sk_S l E d M (pc + 3) L (.int v :: St) h Q) : sk_S l E d M pc L (St) h Q := by
  intro p e R s m args below meth c ce so Z C hc hs hz H locs ls hP hS hl
  exact lv_sipush C.1 C.2.1 hd hv (k p e R s m args below meth c ce so Z C hc hs hz H locs ls hP hS hl)
theorem sk_S.iload_n {q : Fin 4} {i : Nat} {x : Int32} (hd : decode M.2.1 pc = .ok (.iload_n q, 1)) (hi : (q : Nat) = i) (hL : L[i]? = some (some (.int x))) (k : sk_S l E d M (pc + 1) L (.int x :: St) h Q) : sk_S l E d M pc L (St) h Q := by
  intro p e R s m args below meth c ce so Z C hc hs hz H locs ls hP hS hl
  exact lv_iload_n C.1 C.2.1 hd hi (hl.2.2 i _ hL) (k p e R s m args below meth c ce so Z C hc hs hz H locs ls hP hS hl)
theorem sk_S.lload_n {q : Fin 4} {i : Nat} {x : Int64} (hd : decode M.2.1 pc = .ok (.lload_n q, 1)) (hi : (q : Nat) = i) (hL : L[i]? = some (some (.long x))) (k : sk_S l E d M (pc + 1) L (.long x :: St) h Q) : sk_S l E d M pc L (St) h Q := by
  intro p e R s m args below meth c ce so Z C hc hs hz H locs ls hP hS hl
  exact lv_lload_n C.1 C.2.1 hd hi (hl.2.2 i _ hL) (k p e R s m args below meth c ce so Z C hc hs hz H locs ls hP hS hl)
theorem sk_S.iload {i : Nat} {x : Int32} (hd : decode M.2.1 pc = .ok (.iload i, 2)) (hL : L[i]? = some (some (.int x))) (k : sk_S l E d M (pc + 2) L (.int x :: St) h Q) : sk_S l E d M pc L (St) h Q := by
  intro p e R s m args below meth c ce so Z C hc hs hz H locs ls hP hS hl
  exact lv_iload C.1 C.2.1 hd (hl.2.2 i _ hL) (k p e R s m args below meth c ce so Z C hc hs hz H locs ls hP hS hl)
theorem sk_S.aload_n {q : Fin 4} {i : Nat} {x : Nat} (hd : decode M.2.1 pc = .ok (.aload_n q, 1)) (hi : (q : Nat) = i) (hL : L[i]? = some (some (.ref x))) (k : sk_S l E d M (pc + 1) L (.ref x :: St) h Q) : sk_S l E d M pc L (St) h Q := by
  intro p e R s m args below meth c ce so Z C hc hs hz H locs ls hP hS hl
  exact lv_aload_n C.1 C.2.1 hd hi (hl.2.2 i _ hL) (k p e R s m args below meth c ce so Z C hc hs hz H locs ls hP hS hl)
theorem sk_S.aload {i : Nat} {x : Nat} (hd : decode M.2.1 pc = .ok (.aload i, 2)) (hL : L[i]? = some (some (.ref x))) (k : sk_S l E d M (pc + 2) L (.ref x :: St) h Q) : sk_S l E d M pc L (St) h Q := by
  intro p e R s m args below meth c ce so Z C hc hs hz H locs ls hP hS hl
  exact lv_aload C.1 C.2.1 hd (hl.2.2 i _ hL) (k p e R s m args below meth c ce so Z C hc hs hz H locs ls hP hS hl)
theorem sk_S.iadd {x y : Int32} (hd : decode M.2.1 pc = .ok (.iadd, 1)) (k : sk_S l E d M (pc + 1) L (.int (x + y) :: St) h Q) : sk_S l E d M pc L (.int y :: .int x :: St) h Q := by
  intro p e R s m args below meth c ce so Z C hc hs hz H locs ls hP hS hl
  exact lv_iadd C.1 C.2.1 hd (k p e R s m args below meth c ce so Z C hc hs hz H locs ls hP hS hl)
theorem sk_S.isub {x y : Int32} (hd : decode M.2.1 pc = .ok (.isub, 1)) (k : sk_S l E d M (pc + 1) L (.int (x - y) :: St) h Q) : sk_S l E d M pc L (.int y :: .int x :: St) h Q := by
  intro p e R s m args below meth c ce so Z C hc hs hz H locs ls hP hS hl
  exact lv_isub C.1 C.2.1 hd (k p e R s m args below meth c ce so Z C hc hs hz H locs ls hP hS hl)
theorem sk_S.imul {x y : Int32} (hd : decode M.2.1 pc = .ok (.imul, 1)) (k : sk_S l E d M (pc + 1) L (.int (x * y) :: St) h Q) : sk_S l E d M pc L (.int y :: .int x :: St) h Q := by
  intro p e R s m args below meth c ce so Z C hc hs hz H locs ls hP hS hl
  exact lv_imul C.1 C.2.1 hd (k p e R s m args below meth c ce so Z C hc hs hz H locs ls hP hS hl)
theorem sk_S.iand {x y : Int32} (hd : decode M.2.1 pc = .ok (.iand, 1)) (k : sk_S l E d M (pc + 1) L (.int (x &&& y) :: St) h Q) : sk_S l E d M pc L (.int y :: .int x :: St) h Q := by
  intro p e R s m args below meth c ce so Z C hc hs hz H locs ls hP hS hl
  exact lv_iand C.1 C.2.1 hd (k p e R s m args below meth c ce so Z C hc hs hz H locs ls hP hS hl)
theorem sk_S.ior {x y : Int32} (hd : decode M.2.1 pc = .ok (.ior, 1)) (k : sk_S l E d M (pc + 1) L (.int (x ||| y) :: St) h Q) : sk_S l E d M pc L (.int y :: .int x :: St) h Q := by
  intro p e R s m args below meth c ce so Z C hc hs hz H locs ls hP hS hl
  exact lv_ior C.1 C.2.1 hd (k p e R s m args below meth c ce so Z C hc hs hz H locs ls hP hS hl)
theorem sk_S.ixor {x y : Int32} (hd : decode M.2.1 pc = .ok (.ixor, 1)) (k : sk_S l E d M (pc + 1) L (.int (x ^^^ y) :: St) h Q) : sk_S l E d M pc L (.int y :: .int x :: St) h Q := by
  intro p e R s m args below meth c ce so Z C hc hs hz H locs ls hP hS hl
  exact lv_ixor C.1 C.2.1 hd (k p e R s m args below meth c ce so Z C hc hs hz H locs ls hP hS hl)
theorem sk_S.ishl {x y : Int32} (hd : decode M.2.1 pc = .ok (.ishl, 1)) (k : sk_S l E d M (pc + 1) L (.int (x <<< (y &&& 31)) :: St) h Q) : sk_S l E d M pc L (.int y :: .int x :: St) h Q := by
  intro p e R s m args below meth c ce so Z C hc hs hz H locs ls hP hS hl
  exact lv_ishl C.1 C.2.1 hd (k p e R s m args below meth c ce so Z C hc hs hz H locs ls hP hS hl)
theorem sk_S.ishr {x y : Int32} (hd : decode M.2.1 pc = .ok (.ishr, 1)) (k : sk_S l E d M (pc + 1) L (.int (x >>> (y &&& 31)) :: St) h Q) : sk_S l E d M pc L (.int y :: .int x :: St) h Q := by
  intro p e R s m args below meth c ce so Z C hc hs hz H locs ls hP hS hl
  exact lv_ishr C.1 C.2.1 hd (k p e R s m args below meth c ce so Z C hc hs hz H locs ls hP hS hl)
theorem sk_S.idiv {x y : Int32} (hd : decode M.2.1 pc = .ok (.idiv, 1)) (hne : ¬ y = 0) (k : sk_S l E d M (pc + 1) L (.int (x / y) :: St) h Q) : sk_S l E d M pc L (.int y :: .int x :: St) h Q := by
  intro p e R s m args below meth c ce so Z C hc hs hz H locs ls hP hS hl
  exact lv_idiv C.1 C.2.1 hd hne (k p e R s m args below meth c ce so Z C hc hs hz H locs ls hP hS hl)
theorem sk_S.irem {x y : Int32} (hd : decode M.2.1 pc = .ok (.irem, 1)) (hne : ¬ y = 0) (k : sk_S l E d M (pc + 1) L (.int (x - x / y * y) :: St) h Q) : sk_S l E d M pc L (.int y :: .int x :: St) h Q := by
  intro p e R s m args below meth c ce so Z C hc hs hz H locs ls hP hS hl
  exact lv_irem C.1 C.2.1 hd hne (k p e R s m args below meth c ce so Z C hc hs hz H locs ls hP hS hl)
theorem sk_S.land {x y : Int64} (hd : decode M.2.1 pc = .ok (.land, 1)) (k : sk_S l E d M (pc + 1) L (.long (x &&& y) :: St) h Q) : sk_S l E d M pc L (.long y :: .long x :: St) h Q := by
  intro p e R s m args below meth c ce so Z C hc hs hz H locs ls hP hS hl
  exact lv_land C.1 C.2.1 hd (k p e R s m args below meth c ce so Z C hc hs hz H locs ls hP hS hl)
theorem sk_S.lor {x y : Int64} (hd : decode M.2.1 pc = .ok (.lor, 1)) (k : sk_S l E d M (pc + 1) L (.long (x ||| y) :: St) h Q) : sk_S l E d M pc L (.long y :: .long x :: St) h Q := by
  intro p e R s m args below meth c ce so Z C hc hs hz H locs ls hP hS hl
  exact lv_lor C.1 C.2.1 hd (k p e R s m args below meth c ce so Z C hc hs hz H locs ls hP hS hl)
theorem sk_S.ineg {x : Int32} (hd : decode M.2.1 pc = .ok (.ineg, 1)) (k : sk_S l E d M (pc + 1) L (.int (-x) :: St) h Q) : sk_S l E d M pc L (.int x :: St) h Q := by
  intro p e R s m args below meth c ce so Z C hc hs hz H locs ls hP hS hl
  exact lv_ineg C.1 C.2.1 hd (k p e R s m args below meth c ce so Z C hc hs hz H locs ls hP hS hl)
theorem sk_S.iushr {x y : Int32} (hd : decode M.2.1 pc = .ok (.iushr, 1)) (k : sk_S l E d M (pc + 1) L (.int ((x.toUInt32 >>> (y.toUInt32 &&& Int32.toUInt32 31)).toInt32) :: St) h Q) : sk_S l E d M pc L (.int y :: .int x :: St) h Q := by
  intro p e R s m args below meth c ce so Z C hc hs hz H locs ls hP hS hl
  exact lv_iushr C.1 C.2.1 hd rfl (k p e R s m args below meth c ce so Z C hc hs hz H locs ls hP hS hl)
theorem sk_S.lushr {x : Int64} {y : Int32} (hd : decode M.2.1 pc = .ok (.lushr, 1)) (k : sk_S l E d M (pc + 1) L (.long ((x.toUInt64 >>> (y.toInt64.toUInt64 &&& Int64.toUInt64 63)).toInt64) :: St) h Q) : sk_S l E d M pc L (.int y :: .long x :: St) h Q := by
  intro p e R s m args below meth c ce so Z C hc hs hz H locs ls hP hS hl
  exact lv_lushr C.1 C.2.1 hd rfl (k p e R s m args below meth c ce so Z C hc hs hz H locs ls hP hS hl)
theorem sk_S.lshr {x : Int64} {y : Int32} (hd : decode M.2.1 pc = .ok (.lshr, 1)) (k : sk_S l E d M (pc + 1) L (.long (x >>> (y.toInt64 &&& 63)) :: St) h Q) : sk_S l E d M pc L (.int y :: .long x :: St) h Q := by
  intro p e R s m args below meth c ce so Z C hc hs hz H locs ls hP hS hl
  exact lv_lshr C.1 C.2.1 hd rfl (k p e R s m args below meth c ce so Z C hc hs hz H locs ls hP hS hl)
theorem sk_S.lshl {x : Int64} {y : Int32} (hd : decode M.2.1 pc = .ok (.lshl, 1)) (k : sk_S l E d M (pc + 1) L (.long (x <<< (y.toInt64 &&& 63)) :: St) h Q) : sk_S l E d M pc L (.int y :: .long x :: St) h Q := by
  intro p e R s m args below meth c ce so Z C hc hs hz H locs ls hP hS hl
  exact lv_lshl C.1 C.2.1 hd rfl (k p e R s m args below meth c ce so Z C hc hs hz H locs ls hP hS hl)
theorem sk_S.i2l {x : Int32} (hd : decode M.2.1 pc = .ok (.i2l, 1)) (k : sk_S l E d M (pc + 1) L (.long (x.toInt64) :: St) h Q) : sk_S l E d M pc L (.int x :: St) h Q := by
  intro p e R s m args below meth c ce so Z C hc hs hz H locs ls hP hS hl
  exact lv_i2l C.1 C.2.1 hd rfl (k p e R s m args below meth c ce so Z C hc hs hz H locs ls hP hS hl)
theorem sk_S.l2i {x : Int64} (hd : decode M.2.1 pc = .ok (.l2i, 1)) (k : sk_S l E d M (pc + 1) L (.int (x.toInt32) :: St) h Q) : sk_S l E d M pc L (.long x :: St) h Q := by
  intro p e R s m args below meth c ce so Z C hc hs hz H locs ls hP hS hl
  exact lv_l2i C.1 C.2.1 hd rfl (k p e R s m args below meth c ce so Z C hc hs hz H locs ls hP hS hl)
theorem sk_S.i2b {x : Int32} (hd : decode M.2.1 pc = .ok (.i2b, 1)) (k : sk_S l E d M (pc + 1) L (.int (x.toInt8.toInt32) :: St) h Q) : sk_S l E d M pc L (.int x :: St) h Q := by
  intro p e R s m args below meth c ce so Z C hc hs hz H locs ls hP hS hl
  exact lv_i2b C.1 C.2.1 hd rfl (k p e R s m args below meth c ce so Z C hc hs hz H locs ls hP hS hl)
theorem sk_S.i2s {x : Int32} (hd : decode M.2.1 pc = .ok (.i2s, 1)) (k : sk_S l E d M (pc + 1) L (.int (x.toInt16.toInt32) :: St) h Q) : sk_S l E d M pc L (.int x :: St) h Q := by
  intro p e R s m args below meth c ce so Z C hc hs hz H locs ls hP hS hl
  exact lv_i2s C.1 C.2.1 hd rfl (k p e R s m args below meth c ce so Z C hc hs hz H locs ls hP hS hl)
theorem sk_S.i2c {x : Int32} (hd : decode M.2.1 pc = .ok (.i2c, 1)) (k : sk_S l E d M (pc + 1) L (.int ((x.toUInt32 % 65536).toInt32) :: St) h Q) : sk_S l E d M pc L (.int x :: St) h Q := by
  intro p e R s m args below meth c ce so Z C hc hs hz H locs ls hP hS hl
  exact lv_i2c C.1 C.2.1 hd rfl (k p e R s m args below meth c ce so Z C hc hs hz H locs ls hP hS hl)
theorem sk_S.goto {off : Int} {tgt : Nat} (hd : decode M.2.1 pc = .ok (.goto off, 3)) (ht : (pc : Int) + off = (tgt : Int)) (k : sk_S l E d M (tgt) L (St) h Q) : sk_S l E d M pc L (St) h Q := by
  intro p e R s m args below meth c ce so Z C hc hs hz H locs ls hP hS hl
  exact lv_goto C.1 C.2.1 hd ht (k p e R s m args below meth c ce so Z C hc hs hz H locs ls hP hS hl)
theorem sk_S.icmp_eq {x y : Int32} {off : Int} {tgt : Nat} (hd : decode M.2.1 pc = .ok (.if_icmp .eq off, 3)) (ht : (pc : Int) + off = (tgt : Int)) (kt : x = y → sk_S l E d M tgt L St h Q) (kf : ¬ (x = y) → sk_S l E d M (pc + 3) L St h Q) : sk_S l E d M pc L (.int y :: .int x :: St) h Q := by
  intro p e R s m args below meth c ce so Z C hc hs hz H locs ls hP hS hl
  exact lv_icmp_eq C.1 C.2.1  hd ht (fun q => kt q p e R s m args below meth c ce so Z C hc hs hz H locs ls hP hS hl) (fun q => kf q p e R s m args below meth c ce so Z C hc hs hz H locs ls hP hS hl)
theorem sk_S.if_eq {x : Int32} {off : Int} {tgt : Nat} (hd : decode M.2.1 pc = .ok (.ifCond .eq off, 3)) (ht : (pc : Int) + off = (tgt : Int)) (kt : x = 0 → sk_S l E d M tgt L St h Q) (kf : ¬ (x = 0) → sk_S l E d M (pc + 3) L St h Q) : sk_S l E d M pc L (.int x :: St) h Q := by
  intro p e R s m args below meth c ce so Z C hc hs hz H locs ls hP hS hl
  exact lv_if_eq C.1 C.2.1  hd ht (fun q => kt q p e R s m args below meth c ce so Z C hc hs hz H locs ls hP hS hl) (fun q => kf q p e R s m args below meth c ce so Z C hc hs hz H locs ls hP hS hl)
theorem sk_S.icmp_ne {x y : Int32} {off : Int} {tgt : Nat} (hd : decode M.2.1 pc = .ok (.if_icmp .ne off, 3)) (ht : (pc : Int) + off = (tgt : Int)) (kt : ¬ x = y → sk_S l E d M tgt L St h Q) (kf : x = y → sk_S l E d M (pc + 3) L St h Q) : sk_S l E d M pc L (.int y :: .int x :: St) h Q := by
  intro p e R s m args below meth c ce so Z C hc hs hz H locs ls hP hS hl
  exact lv_icmp_ne C.1 C.2.1  hd ht (fun q => kt q p e R s m args below meth c ce so Z C hc hs hz H locs ls hP hS hl) (fun q => kf q p e R s m args below meth c ce so Z C hc hs hz H locs ls hP hS hl)
theorem sk_S.if_ne {x : Int32} {off : Int} {tgt : Nat} (hd : decode M.2.1 pc = .ok (.ifCond .ne off, 3)) (ht : (pc : Int) + off = (tgt : Int)) (kt : ¬ x = 0 → sk_S l E d M tgt L St h Q) (kf : x = 0 → sk_S l E d M (pc + 3) L St h Q) : sk_S l E d M pc L (.int x :: St) h Q := by
  intro p e R s m args below meth c ce so Z C hc hs hz H locs ls hP hS hl
  exact lv_if_ne C.1 C.2.1  hd ht (fun q => kt q p e R s m args below meth c ce so Z C hc hs hz H locs ls hP hS hl) (fun q => kf q p e R s m args below meth c ce so Z C hc hs hz H locs ls hP hS hl)
theorem sk_S.icmp_lt {x y : Int32} {off : Int} {tgt : Nat} (hd : decode M.2.1 pc = .ok (.if_icmp .lt off, 3)) (ht : (pc : Int) + off = (tgt : Int)) (kt : x < y → sk_S l E d M tgt L St h Q) (kf : ¬ (x < y) → sk_S l E d M (pc + 3) L St h Q) : sk_S l E d M pc L (.int y :: .int x :: St) h Q := by
  intro p e R s m args below meth c ce so Z C hc hs hz H locs ls hP hS hl
  exact lv_icmp_lt C.1 C.2.1  hd ht (fun q => kt q p e R s m args below meth c ce so Z C hc hs hz H locs ls hP hS hl) (fun q => kf q p e R s m args below meth c ce so Z C hc hs hz H locs ls hP hS hl)
theorem sk_S.if_lt {x : Int32} {off : Int} {tgt : Nat} (hd : decode M.2.1 pc = .ok (.ifCond .lt off, 3)) (ht : (pc : Int) + off = (tgt : Int)) (kt : x < 0 → sk_S l E d M tgt L St h Q) (kf : ¬ (x < 0) → sk_S l E d M (pc + 3) L St h Q) : sk_S l E d M pc L (.int x :: St) h Q := by
  intro p e R s m args below meth c ce so Z C hc hs hz H locs ls hP hS hl
  exact lv_if_lt C.1 C.2.1  hd ht (fun q => kt q p e R s m args below meth c ce so Z C hc hs hz H locs ls hP hS hl) (fun q => kf q p e R s m args below meth c ce so Z C hc hs hz H locs ls hP hS hl)
theorem sk_S.icmp_ge {x y : Int32} {off : Int} {tgt : Nat} (hd : decode M.2.1 pc = .ok (.if_icmp .ge off, 3)) (ht : (pc : Int) + off = (tgt : Int)) (kt : y ≤ x → sk_S l E d M tgt L St h Q) (kf : ¬ (y ≤ x) → sk_S l E d M (pc + 3) L St h Q) : sk_S l E d M pc L (.int y :: .int x :: St) h Q := by
  intro p e R s m args below meth c ce so Z C hc hs hz H locs ls hP hS hl
  exact lv_icmp_ge C.1 C.2.1  hd ht (fun q => kt q p e R s m args below meth c ce so Z C hc hs hz H locs ls hP hS hl) (fun q => kf q p e R s m args below meth c ce so Z C hc hs hz H locs ls hP hS hl)
theorem sk_S.if_ge {x : Int32} {off : Int} {tgt : Nat} (hd : decode M.2.1 pc = .ok (.ifCond .ge off, 3)) (ht : (pc : Int) + off = (tgt : Int)) (kt : 0 ≤ x → sk_S l E d M tgt L St h Q) (kf : ¬ (0 ≤ x) → sk_S l E d M (pc + 3) L St h Q) : sk_S l E d M pc L (.int x :: St) h Q := by
  intro p e R s m args below meth c ce so Z C hc hs hz H locs ls hP hS hl
  exact lv_if_ge C.1 C.2.1  hd ht (fun q => kt q p e R s m args below meth c ce so Z C hc hs hz H locs ls hP hS hl) (fun q => kf q p e R s m args below meth c ce so Z C hc hs hz H locs ls hP hS hl)
theorem sk_S.icmp_gt {x y : Int32} {off : Int} {tgt : Nat} (hd : decode M.2.1 pc = .ok (.if_icmp .gt off, 3)) (ht : (pc : Int) + off = (tgt : Int)) (kt : y < x → sk_S l E d M tgt L St h Q) (kf : ¬ (y < x) → sk_S l E d M (pc + 3) L St h Q) : sk_S l E d M pc L (.int y :: .int x :: St) h Q := by
  intro p e R s m args below meth c ce so Z C hc hs hz H locs ls hP hS hl
  exact lv_icmp_gt C.1 C.2.1  hd ht (fun q => kt q p e R s m args below meth c ce so Z C hc hs hz H locs ls hP hS hl) (fun q => kf q p e R s m args below meth c ce so Z C hc hs hz H locs ls hP hS hl)
theorem sk_S.if_gt {x : Int32} {off : Int} {tgt : Nat} (hd : decode M.2.1 pc = .ok (.ifCond .gt off, 3)) (ht : (pc : Int) + off = (tgt : Int)) (kt : 0 < x → sk_S l E d M tgt L St h Q) (kf : ¬ (0 < x) → sk_S l E d M (pc + 3) L St h Q) : sk_S l E d M pc L (.int x :: St) h Q := by
  intro p e R s m args below meth c ce so Z C hc hs hz H locs ls hP hS hl
  exact lv_if_gt C.1 C.2.1  hd ht (fun q => kt q p e R s m args below meth c ce so Z C hc hs hz H locs ls hP hS hl) (fun q => kf q p e R s m args below meth c ce so Z C hc hs hz H locs ls hP hS hl)
theorem sk_S.icmp_le {x y : Int32} {off : Int} {tgt : Nat} (hd : decode M.2.1 pc = .ok (.if_icmp .le off, 3)) (ht : (pc : Int) + off = (tgt : Int)) (kt : x ≤ y → sk_S l E d M tgt L St h Q) (kf : ¬ (x ≤ y) → sk_S l E d M (pc + 3) L St h Q) : sk_S l E d M pc L (.int y :: .int x :: St) h Q := by
  intro p e R s m args below meth c ce so Z C hc hs hz H locs ls hP hS hl
  exact lv_icmp_le C.1 C.2.1  hd ht (fun q => kt q p e R s m args below meth c ce so Z C hc hs hz H locs ls hP hS hl) (fun q => kf q p e R s m args below meth c ce so Z C hc hs hz H locs ls hP hS hl)
theorem sk_S.if_le {x : Int32} {off : Int} {tgt : Nat} (hd : decode M.2.1 pc = .ok (.ifCond .le off, 3)) (ht : (pc : Int) + off = (tgt : Int)) (kt : x ≤ 0 → sk_S l E d M tgt L St h Q) (kf : ¬ (x ≤ 0) → sk_S l E d M (pc + 3) L St h Q) : sk_S l E d M pc L (.int x :: St) h Q := by
  intro p e R s m args below meth c ce so Z C hc hs hz H locs ls hP hS hl
  exact lv_if_le C.1 C.2.1  hd ht (fun q => kt q p e R s m args below meth c ce so Z C hc hs hz H locs ls hP hS hl) (fun q => kf q p e R s m args below meth c ce so Z C hc hs hz H locs ls hP hS hl)
/-- what is on the stack behind dup: a value of one word -/
theorem sk_cat (E : sk_V) (v : Value) : (sk_v E v).category = v.category := by cases v <;> rfl
theorem sk_S.dup {v : Value} (hd : decode M.2.1 pc = .ok (.dup, 1)) (hv : v.category = 1) (k : sk_S l E d M (pc + 1) L (v :: v :: St) h Q) : sk_S l E d M pc L (v :: St) h Q := by
  intro p e R s m args below meth c ce so Z C hc hs hz H locs ls hP hS hl
  exact lv_dup C.1 C.2.1 hd ((sk_cat E v).trans hv) (k p e R s m args below meth c ce so Z C hc hs hz H locs ls hP hS hl)
theorem sk_S.pop {v : Value} (hd : decode M.2.1 pc = .ok (.pop, 1)) (hv : v.category = 1) (k : sk_S l E d M (pc + 1) L St h Q) : sk_S l E d M pc L (v :: St) h Q := by
  intro p e R s m args below meth c ce so Z C hc hs hz H locs ls hP hS hl
  exact lv_pop C.1 C.2.1 hd ((sk_cat E v).trans hv) (k p e R s m args below meth c ce so Z C hc hs hz H locs ls hP hS hl)
theorem sk_S.dup2 {v w : Value} (hd : decode M.2.1 pc = .ok (.dup2, 1)) (hv : v.category = 1) (hw : w.category = 1) (k : sk_S l E d M (pc + 1) L (v :: w :: v :: w :: St) h Q) : sk_S l E d M pc L (v :: w :: St) h Q := by
  intro p e R s m args below meth c ce so Z C hc hs hz H locs ls hP hS hl
  exact lv_dup2_11 C.1 C.2.1 hd ((sk_cat E v).trans hv) ((sk_cat E w).trans hw) (k p e R s m args below meth c ce so Z C hc hs hz H locs ls hP hS hl)
/-- the locals as the kit lists them -/
def sk_p (E : sk_V) (L : List (Option Value)) : List (Nat × Value) := L.zipIdx.filterMap (fun q => q.1.map (fun v => (q.2, sk_v E v)))
theorem sk_p_of {E : sk_V} {L : List (Option Value)} {q : Nat × Value} (hq : q ∈ sk_p E L) : ∃ v, L[q.1]? = some (some v) ∧ q.2 = sk_v E v := by
  obtain ⟨⟨o, i⟩, h1, h2⟩ := List.mem_filterMap.mp hq
  cases o with
  | none => simp at h2
  | some v =>
    simp only [Option.map_some, Option.some.injEq] at h2
    subst h2
    exact ⟨v, List.mem_zipIdx_iff_getElem?.mp h1, rfl⟩
theorem sk_p_in {E : sk_V} {L : List (Option Value)} {i : Nat} {v : Value} (hv : L[i]? = some (some v)) : (i, sk_v E v) ∈ sk_p E L :=
  List.mem_filterMap.mpr ⟨(some v, i), List.mem_zipIdx_iff_getElem?.mpr hv, rfl⟩
theorem sk_l.has {E : sk_V} {ls : Array Slot} {L : List (Option Value)} (h : sk_l E ls L) : lv_has ls L.length (sk_p E L) :=
  ⟨h.1, h.2.1, fun q hq => by obtain ⟨v, h1, h2⟩ := sk_p_of hq; rw [h2]; exact h.2.2 _ _ h1⟩
/-- no long stands just below -/
def sk_ok (L : List (Option Value)) (i : Nat) : Bool := match i with
  | 0 => true
  | i + 1 => match L[i]? with
    | some (some w) => w.category == 1
    | _ => true
theorem sk_l.of {E : sk_V} {ls1 : Array Slot} {L : List (Option Value)} {i nL : Nat} {v : Value} {x : List (Nat × Value)} (hn : nL = L.length) (hi : i < L.length) (hk : sk_ok L i = true) (hx : ∀ q ∈ sk_p E L, q ∈ x)
    (h : lv_has ls1 nL ((i, sk_v E v) :: x.filter (fun q => !(q.1 == i) && !(q.1 + 1 == i && q.2.category == 2)))) : sk_l E ls1 (L.set i (some v)) := by
  subst hn
  refine ⟨by rw [List.length_set]; exact h.1, h.2.1, fun j w hj => ?_⟩
  rw [List.getElem?_set] at hj
  by_cases e : i = j
  · subst e
    rw [if_pos rfl, if_pos hi] at hj
    cases hj
    exact h.2.2 (i, sk_v E v) List.mem_cons_self
  · rw [if_neg e] at hj
    refine h.2.2 (j, sk_v E w) (List.mem_cons_of_mem _ (List.mem_filter.mpr ⟨hx _ (sk_p_in hj), ?_⟩))
    have e1 : (j == i) = false := beq_eq_false_iff_ne.mpr (fun q => e (Eq.symm q))
    rw [e1]
    by_cases e2 : j + 1 = i
    · subst e2
      have h3 : w.category = 1 := by
        have h4 : (match L[j]? with | some (some w) => w.category == 1 | _ => true) = true := hk
        rw [hj] at h4
        simpa using h4
      simp [sk_cat, h3]
    · have e3 : (j + 1 == i) = false := by simp [e2]
      rw [e3]
      rfl
theorem sk_S.istore_n {q : Fin 4} {i : Nat} {x : Int32} (hd : decode M.2.1 pc = .ok (.istore_n q, 1)) (hi : (q : Nat) = i) (hn : i < L.length) (hk : sk_ok L i = true) (k : sk_S l E d M (pc + 1) (L.set i (some (.int x))) St h Q) : sk_S l E d M pc L (.int x :: St) h Q := by
  intro p e R s m args below meth c ce so Z C hc hs hz H locs ls hP hS hl
  exact lv_istore_n C.1 C.2.1 hd hi hl.has hn rfl (fun ls1 h1 => k p e R s m args below meth c ce so Z C hc hs hz H locs ls1 hP hS (sk_l.of (v := .int x) rfl hn hk (fun _ z => z) h1))
theorem sk_S.istore {i : Nat} {x : Int32} (hd : decode M.2.1 pc = .ok (.istore i, 2)) (hn : i < L.length) (hk : sk_ok L i = true) (k : sk_S l E d M (pc + 2) (L.set i (some (.int x))) St h Q) : sk_S l E d M pc L (.int x :: St) h Q := by
  intro p e R s m args below meth c ce so Z C hc hs hz H locs ls hP hS hl
  exact lv_istore C.1 C.2.1 hd hl.has hn rfl (fun ls1 h1 => k p e R s m args below meth c ce so Z C hc hs hz H locs ls1 hP hS (sk_l.of (v := .int x) rfl hn hk (fun _ z => z) h1))
theorem sk_S.astore_n {q : Fin 4} {i : Nat} {x : Nat} (hd : decode M.2.1 pc = .ok (.astore_n q, 1)) (hi : (q : Nat) = i) (hn : i < L.length) (hk : sk_ok L i = true) (k : sk_S l E d M (pc + 1) (L.set i (some (.ref x))) St h Q) : sk_S l E d M pc L (.ref x :: St) h Q := by
  intro p e R s m args below meth c ce so Z C hc hs hz H locs ls hP hS hl
  exact lv_astore_n C.1 C.2.1 hd hi hl.has hn rfl (fun ls1 h1 => k p e R s m args below meth c ce so Z C hc hs hz H locs ls1 hP hS (sk_l.of (v := .ref x) rfl hn hk (fun _ z => z) h1))
theorem sk_S.astore {i : Nat} {x : Nat} (hd : decode M.2.1 pc = .ok (.astore i, 2)) (hn : i < L.length) (hk : sk_ok L i = true) (k : sk_S l E d M (pc + 2) (L.set i (some (.ref x))) St h Q) : sk_S l E d M pc L (.ref x :: St) h Q := by
  intro p e R s m args below meth c ce so Z C hc hs hz H locs ls hP hS hl
  exact lv_astore C.1 C.2.1 hd hl.has hn rfl (fun ls1 h1 => k p e R s m args below meth c ce so Z C hc hs hz H locs ls1 hP hS (sk_l.of (v := .ref x) rfl hn hk (fun _ z => z) h1))
theorem sk_S.iinc {i : Nat} {n : Int} {x v : Int32} (hd : decode M.2.1 pc = .ok (.iinc i n, 3)) (hL : L[i]? = some (some (.int x))) (hv : x + Int32.ofInt n = v) (hk : sk_ok L i = true) (k : sk_S l E d M (pc + 3) (L.set i (some (.int v))) St h Q) : sk_S l E d M pc L St h Q := by
  intro p e R s m args below meth c ce so Z C hc hs hz H locs ls hP hS hl
  have hn : i < L.length := (List.getElem?_eq_some_iff.mp hL).1
  have hh : lv_has ls L.length ((i, .int x) :: sk_p E L) := ⟨hl.has.1, hl.has.2.1, fun q hq => (List.mem_cons.mp hq).elim (fun e => by rw [e]; exact hl.2.2 i _ hL) (hl.has.2.2 q)⟩
  exact lv_iinc (k := 0) C.1 C.2.1 hd hh rfl hv hn rfl (fun ls1 h1 => k p e R s m args below meth c ce so Z C hc hs hz H locs ls1 hP hS (sk_l.of (v := .int v) rfl hn hk (fun _ z => List.mem_cons_of_mem _ z) h1))
/-- constants out of the pool -/
theorem sk_S.ldc {own : String} {i : Nat} {v : Int32} (hd : decode M.2.1 pc = .ok (.ldc i, 2)) (ho : M.1.cls = own) (hw : Cond.constant own i v ∈ gg_W) (k : sk_S l E d M (pc + 2) L (.int v :: St) h Q) : sk_S l E d M pc L St h Q := by
  intro p e R s m args below meth c ce so Z C hc hs hz H locs ls hP hS hl
  subst ho
  exact lv_ldc C.1 C.2.1 C.2.2.2.1 (C.2.2.2.2.1 _ hw) hd (k p e R s m args below meth c ce so Z C hc hs hz H locs ls hP hS hl)
theorem sk_S.ldc_w {own : String} {i : Nat} {v : Int32} (hd : decode M.2.1 pc = .ok (.ldc_w i, 3)) (ho : M.1.cls = own) (hw : Cond.constant own i v ∈ gg_W) (k : sk_S l E d M (pc + 3) L (.int v :: St) h Q) : sk_S l E d M pc L St h Q := by
  intro p e R s m args below meth c ce so Z C hc hs hz H locs ls hP hS hl
  subst ho
  exact lv_ldcw C.1 C.2.1 C.2.2.2.1 (C.2.2.2.2.1 _ hw) hd (k p e R s m args below meth c ce so Z C hc hs hz H locs ls hP hS hl)
theorem sk_S.ldc2 {own : String} {i : Nat} {v : Int64} (hd : decode M.2.1 pc = .ok (.ldc2_w i, 3)) (ho : M.1.cls = own) (hw : Cond.constantLong own i v ∈ gg_W) (k : sk_S l E d M (pc + 3) L (.long v :: St) h Q) : sk_S l E d M pc L St h Q := by
  intro p e R s m args below meth c ce so Z C hc hs hz H locs ls hP hS hl
  subst ho
  exact lv_ldc2 C.1 C.2.1 C.2.2.2.1 (C.2.2.2.2.1 _ hw) hd (k p e R s m args below meth c ce so Z C hc hs hz H locs ls hP hS hl)
/-- switches -/
theorem sk_S.lookup {dflt : Int} {ps : Array (Int × Int)} {len : Nat} {x : Int32} {off : Int} {tgt : Nat} (hd : decode M.2.1 pc = .ok (.lookupswitch dflt ps, len)) (hp : (ps.toList.zip (ps.toList.drop 1)).all (fun (a, next) => a.1 < next.1) = true) (ho : Op.lookupswitch.offset ps.toList dflt x.toInt = off) (ht : (pc : Int) + off = (tgt : Int)) (k : sk_S l E d M tgt L St h Q) : sk_S l E d M pc L (.int x :: St) h Q := by
  intro p e R s m args below meth c ce so Z C hc hs hz H locs ls hP hS hl
  exact lv_lookup C.1 C.2.1 hd hp ho ht (k p e R s m args below meth c ce so Z C hc hs hz H locs ls hP hS hl)
theorem sk_S.tableOut {dflt lo hi : Int} {offs : Array Int} {len : Nat} {x : Int32} {tgt : Nat} (hd : decode M.2.1 pc = .ok (.tableswitch dflt lo hi offs, len)) (hx : x.toInt < lo ∨ hi < x.toInt) (ht : (pc : Int) + dflt = (tgt : Int)) (k : sk_S l E d M tgt L St h Q) : sk_S l E d M pc L (.int x :: St) h Q := by
  intro p e R s m args below meth c ce so Z C hc hs hz H locs ls hP hS hl
  exact lv_tableOut C.1 C.2.1 hd hx ht (k p e R s m args below meth c ce so Z C hc hs hz H locs ls hP hS hl)
theorem sk_S.tableIn {dflt lo hi : Int} {offs : Array Int} {len : Nat} {x : Int32} {off : Int} {tgt : Nat} (hd : decode M.2.1 pc = .ok (.tableswitch dflt lo hi offs, len)) (h1 : ¬ x.toInt < lo) (h2 : ¬ hi < x.toInt) (ho : offs[(x.toInt - lo).toNat]? = some off) (ht : (pc : Int) + off = (tgt : Int)) (k : sk_S l E d M tgt L St h Q) : sk_S l E d M pc L (.int x :: St) h Q := by
  intro p e R s m args below meth c ce so Z C hc hs hz H locs ls hP hS hl
  exact lv_tableIn C.1 C.2.1 hd h1 h2 ho ht (k p e R s m args below meth c ce so Z C hc hs hz H locs ls hP hS hl)
/-- an index that stands in a row -/
def sk_ix (i : Int32) (j n : Nat) : Prop := ¬ i < 0 ∧ i.toNatClampNeg = j ∧ j < n
theorem sk_ix.vp {i : Int32} {j n : Nat} (h : sk_ix i j n) : vp_in i n := by
  obtain ⟨h1, h2, h3⟩ := h
  subst h2
  rintro (q | q)
  · exact h1 q
  · omega
theorem sk_e_lt {k a b c : Nat} {rs : List (Option Nat)} (he : sk_e k = (a, b, c, rs)) (hc : 0 < c) : k < 67 := by
  apply Decidable.byContradiction
  intro hk
  have h1 : sk_e k = (0, 0, 0, []) := by
    unfold sk_e
    rw [List.getD_eq_getElem?_getD, List.getElem?_eq_none (by show 67 ≤ k; omega)]
    rfl
  rw [h1] at he
  cases he
  omega
theorem sk_S.iald {i : Int32} {a j n : Nat} {rs : List (Option Nat)} (hd : decode M.2.1 pc = .ok (.iaload, 1)) (he : sk_e a = (0, 0, n, rs)) (hi : sk_ix i j n) (k : sk_S l E d M (pc + 1) L (.int (h a j) :: St) h Q) : sk_S l E d M pc L (.int i :: .ref a :: St) h Q := by
  intro p e R s m args below meth c ce so Z C hc hs hz H locs ls hP hS hl
  have ha := sk_W_at (E := E) (h := h) (sk_e_lt he (Nat.lt_of_le_of_lt (Nat.zero_le _) hi.2.2))
  rw [he] at ha
  refine va_iald C.1 C.2.1 C.2.2.2.2.2.1.1 hP a 0 ha rfl hi.vp hd ?_
  rw [hi.2.1]
  exact k p e R s m args below meth c ce so Z C hc hs hz H locs ls hP hS hl
theorem sk_inj {E : sk_V} {H : sk_M} (h : ∀ i j, i < 67 → j < 67 → sk_a E i = sk_a E j → i = j) : va_D (sk_A E) (sk_W E H) := by
  have key : ∀ (k : Nat) (q : Nat × va_E), (sk_W E H)[k]? = some q → k < 67 ∧ q.1 = sk_a E k := by
    intro k q hq
    by_cases hk : k < 67
    · rw [sk_W_at hk] at hq
      cases hq
      exact ⟨hk, rfl⟩
    · simp [sk_W, hk] at hq
  refine ⟨fun i j p q hi hj hpq => ?_, fun k q hk => ⟨k, (key k q hk).1, (key k q hk).2⟩⟩
  obtain ⟨a1, a2⟩ := key i p hi
  obtain ⟨b1, b2⟩ := key j q hj
  exact h i j a1 b1 (by rw [← a2, ← b2]; exact hpq)
theorem sk_S.iast {i x : Int32} {a j n : Nat} {rs : List (Option Nat)} (hd : decode M.2.1 pc = .ok (.iastore, 1)) (he : sk_e a = (0, 0, n, rs)) (hi : sk_ix i j n) (k : sk_S l E d M (pc + 1) L St (sk_u h a j x) Q) : sk_S l E d M pc L (.int x :: .int i :: .ref a :: St) h Q := by
  intro p e R s m args below meth c ce so Z C hc hs hz H locs ls hP hS hl
  have ha := sk_W_at (E := E) (h := h) (sk_e_lt he (Nat.lt_of_le_of_lt (Nat.zero_le _) hi.2.2))
  rw [he] at ha
  refine va_iast C.1 C.2.1 C.2.2.2.2.2.1.1 hP (sk_inj C.2.2.2.2.2.1.2.1) hS a 0 ha rfl hi.vp hd (fun H1 locs1 hP1 hD1 hS1 => ?_)
  rw [hi.2.1, sk_W_row he] at hP1
  exact k p e R s m args below meth c ce so Z C hc hs hz H1 locs1 ls hP1 hS1 hl
theorem sk_S.alen {a t n : Nat} {v : Int32} {rs : List (Option Nat)} (hd : decode M.2.1 pc = .ok (.arraylength, 1)) (he : sk_e a = (0, 0, n, rs)) (hn : 0 < n) (hv : Int32.ofNat n = v) (k : sk_S l E d M (pc + 1) L (.int v :: St) h Q) : sk_S l E d M pc L (.ref a :: St) h Q := by
  intro p e R s m args below meth c ce so Z C hc hs hz H locs ls hP hS hl
  have ha := sk_W_at (E := E) (h := h) (sk_e_lt he hn)
  rw [he] at ha
  exact va_alen C.1 C.2.1 C.2.2.2.2.2.1.1 hP a 0 ha (ty := .int) rfl hv hd (k p e R s m args below meth c ce so Z C hc hs hz H locs ls hP hS hl)
theorem sk_S.aald {i : Int32} {a j n t r : Nat} {X : String} {rs : List (Option Nat)} (hd : decode M.2.1 pc = .ok (.aaload, 1)) (he : sk_e a = (2, t, n, rs)) (hT : [FieldType.int, .object "PromisedFish$Boat", .object "PromisedFish$Law", .object "PromisedFish$Sheet"][t]? = some (.object X)) (hi : sk_ix i j n) (hr : sk_rf rs j = some r) (k : sk_S l E d M (pc + 1) L (.ref r :: St) h Q) : sk_S l E d M pc L (.int i :: .ref a :: St) h Q := by
  intro p e R s m args below meth c ce so Z C hc hs hz H locs ls hP hS hl
  have ha := sk_W_at (E := E) (h := h) (sk_e_lt he (Nat.lt_of_le_of_lt (Nat.zero_le _) hi.2.2))
  rw [he] at ha
  have ht : (sk_y E)[t]? = some (sk_t E t, .object X) := by
    match t, hT with
    | 0, hT => cases hT
    | 1, hT => cases hT; rfl
    | 2, hT => cases hT; rfl
    | 3, hT => cases hT; rfl
    | t + 4, hT => simp at hT
  refine va_aldq C.1 C.2.1 C.2.2.2.2.2.1.1 hP a t ha ht hi.vp hd ?_
  rw [hi.2.1, hr]
  exact k p e R s m args below meth c ce so Z C hc hs hz H locs ls hP hS hl
/-- rows that are only read -/
theorem sk_S.roald {i v : Int32} {a j n : Nat} {f : Nat → Int32} (hd : decode M.2.1 pc = .ok (.iaload, 1)) (he : sk_ro E a = some (n, f)) (hi : sk_ix i j n) (hv : f j = v) (k : sk_S l E d M (pc + 1) L (.int v :: St) h Q) : sk_S l E d M pc L (.int i :: .ref a :: St) h Q := by
  intro p e R s m args below meth c ce so Z C hc hs hz H locs ls hP hS hl
  refine va_ti C.1 C.2.1 (C.2.2.2.2.2.1.2.2.1 a n f he) hS hi.vp (v := .int v) ?_ hd (k p e R s m args below meth c ce so Z C hc hs hz H locs ls hP hS hl)
  rw [hi.2.1, hv]
theorem sk_S.rolen {v : Int32} {a n : Nat} {f : Nat → Int32} (hd : decode M.2.1 pc = .ok (.arraylength, 1)) (he : sk_ro E a = some (n, f)) (hv : Int32.ofNat n = v) (k : sk_S l E d M (pc + 1) L (.int v :: St) h Q) : sk_S l E d M pc L (.ref a :: St) h Q := by
  intro p e R s m args below meth c ce so Z C hc hs hz H locs ls hP hS hl
  exact va_tlen C.1 C.2.1 (C.2.2.2.2.2.1.2.2.1 a n f he) hS hv hd (k p e R s m args below meth c ce so Z C hc hs hz H locs ls hP hS hl)
/-- a static row's place -/
def sk_gs (own : String) (i r : Nat) : Prop := ∃ q ∈ st_K, q.2.2 = r ∧ (Cond.fieldLink own i q.1 q.2.1 "[I" ∈ gg_W ∨ ∃ host, Cond.fieldLinkNest own i q.1 q.2.1 "[I" host ∈ nn_W)
theorem sk_S.gets {own : String} {i r : Nat} (hd : decode M.2.1 pc = .ok (.getstatic i, 3)) (ho : M.1.cls = own) (hg : sk_gs own i r) (k : sk_S l E d M (pc + 3) L (.ref r :: St) h Q) : sk_S l E d M pc L St h Q := by
  intro p e R s m args below meth c ce so Z C hc hs hz H locs ls hP hS hl
  subst ho
  obtain ⟨q, hq, rfl, hw | ⟨host, hw⟩⟩ := hg
  · exact va_gets C.1 C.2.1 (C.2.2.2.2.2.1.2.2.2.1 q hq) hS C.2.2.2.1 (C.2.2.2.2.1 _ hw) (fun _ z => z) hd (k p e R s m args below meth c ce so Z C hc hs hz H locs ls hP hS hl)
  · exact va_getsN C.1 C.2.1 (C.2.2.2.2.2.1.2.2.2.1 q hq) hS C.2.2.2.1 (va_Nw.use rfl (C.2.2.2.2.2.1.2.2.2.2.2.2.2.2 _ hw)) (fun _ z => z) hd (k p e R s m args below meth c ce so Z C hc hs hz H locs ls hP hS hl)
/-- a field, by its class's number and its place -/
def sk_fl (own : String) (i ci f : Nat) : Prop := ∃ (X : String) (T : u_T) (N : Nat), vwCl[ci]? = some (X, T, N) ∧ (∀ w ∈ u_ws X T N, w ∈ gg_W) ∧ f < N ∧ (Cond.fieldLink own i (T f).1 (T f).2.1 (T f).2.2.1 ∈ gg_W ∨ ∃ host, Cond.fieldLinkNest own i (T f).1 (T f).2.1 (T f).2.2.1 host ∈ nn_W)
def sk_fp (own : String) (i ci f : Nat) (ty : FieldType) : Prop := ∃ (X : String) (T : u_T) (N : Nat) (ty0 : Nat → FieldType), vwCl[ci]? = some (X, T, N) ∧ (∀ w ∈ u_ws X T N, w ∈ gg_W) ∧ f < N ∧ (Cond.fieldLink own i (T f).1 (T f).2.1 (T f).2.2.1 ∈ gg_W ∨ ∃ host, Cond.fieldLinkNest own i (T f).1 (T f).2.1 (T f).2.2.1 host ∈ nn_W) ∧
  (∀ k, k < N → parseFieldDescriptor (T k).2.2.1 = some (ty0 k)) ∧ (∀ a, a < N → ∀ b, b < N → a ≠ b → (T a).2.1 ≠ (T b).2.1) ∧ (T f).2.2.2 = false ∧ parseFieldDescriptor (T f).2.2.1 = some ty
theorem sk_S.getf {own : String} {i ci f a n : Nat} {v : Value} {rs : List (Option Nat)} (hd : decode M.2.1 pc = .ok (.getfield i, 3)) (ho : M.1.cls = own) (hf : sk_fl own i ci f) (he : sk_e a = (1, ci, n, rs)) (hn : f < n) (hv : sk_g h a rs f = v) (k : sk_S l E d M (pc + 3) L (v :: St) h Q) : sk_S l E d M pc L (.ref a :: St) h Q := by
  intro p e R s m args below meth c ce so Z C hc hs hz H locs ls hP hS hl
  subst ho; subst hv
  have ha := sk_W_at (E := E) (h := h) (sk_e_lt he (Nat.lt_of_le_of_lt (Nat.zero_le _) hn))
  rw [he] at ha
  obtain ⟨X, T, N, h1, h2, h3, hw | ⟨host, hw⟩⟩ := hf
  · exact va_get C.1 C.2.1 C.2.2.2.2.1 h2 C.2.2.2.1 C.2.2.2.2.2.1.1 hP a ha h1 f h3 (C.2.2.2.2.1 _ hw) (fun _ z => z) (sk_get hn) hd (k p e R s m args below meth c ce so Z C hc hs hz H locs ls hP hS hl)
  · exact va_getN C.1 C.2.1 C.2.2.2.2.1 h2 C.2.2.2.1 C.2.2.2.2.2.1.1 hP a ha h1 f h3 (va_Nw.use rfl (C.2.2.2.2.2.1.2.2.2.2.2.2.2.2 _ hw)) (fun _ z => z) (sk_get hn) hd (k p e R s m args below meth c ce so Z C hc hs hz H locs ls hP hS hl)
theorem sk_S.putf {own : String} {i ci f a n : Nat} {x : Int32} {ty : FieldType} {rs : List (Option Nat)} (hd : decode M.2.1 pc = .ok (.putfield i, 3)) (ho : M.1.cls = own) (hf : sk_fp own i ci f ty) (he : sk_e a = (1, ci, n, rs)) (hn : f < n) (hr : sk_rf rs f = none) (hx : narrow ty (.int x) = .int x) (hfit : fits ty (.int x) = true) (k : sk_S l E d M (pc + 3) L St (sk_u h a f x) Q) : sk_S l E d M pc L (.int x :: .ref a :: St) h Q := by
  intro p e R s m args below meth c ce so Z C hc hs hz H locs ls hP hS hl
  subst ho
  have ha := sk_W_at (E := E) (h := h) (sk_e_lt he (Nat.lt_of_le_of_lt (Nat.zero_le _) hn))
  rw [he] at ha
  obtain ⟨X, T, N, ty0, h1, h2, h3, hw, h4, h5, h6, h7⟩ := hf
  have go : ∀ (H1 : Heap) (locs1 : List Loc), va_P (sk_G E) vwCl ((sk_W E h).set a (sk_a E a, .inr (ci, ((List.range n).map (fun i => sk_v E (sk_g h a rs i))).set f (.int x)))) H1 → va_D (sk_A E) ((sk_W E h).set a (sk_a E a, .inr (ci, ((List.range n).map (fun i => sk_v E (sk_g h a rs i))).set f (.int x)))) → va_S (sk_A E) s.heap H1 locs1 → W p l e R s m args below meth c H1 locs1 ce so Z (F0 m (pc + 3) ls (St.map (sk_v E))) := by
    intro H1 locs1 hP1 _ hS1
    rw [sk_W_obj he hr] at hP1
    exact k p e R s m args below meth c ce so Z C hc hs hz H1 locs1 ls hP1 hS1 hl
  have hl9 : f < ((List.range n).map (fun i => sk_v E (sk_g h a rs i))).length := by simpa using hn
  obtain hw | ⟨host, hw⟩ := hw
  · exact va_put C.1 C.2.1 C.2.2.2.2.1 h2 ty0 h4 h5 C.2.2.2.1 C.2.2.2.2.2.1.1 hP (sk_inj C.2.2.2.2.2.1.2.1) hS a ha h1 f h3 (C.2.2.2.2.1 _ hw) (fun _ z => z) h6 h7 hx hfit hl9 hd go
  · exact va_putN C.1 C.2.1 C.2.2.2.2.1 h2 ty0 h4 h5 C.2.2.2.1 C.2.2.2.2.2.1.1 hP (sk_inj C.2.2.2.2.2.1.2.1) hS a ha h1 f h3 (va_Nw.use rfl (C.2.2.2.2.2.1.2.2.2.2.2.2.2.2 _ hw)) (fun _ z => z) h6 h7 hx hfit hl9 hd go
/-! contracts and calls -/
def sk_Q (E : sk_V) (Q : Option Value → sk_M → Prop) : Array Value → State → Outcome → State → Prop := fun _ st oc t =>
  (∃ (r : Option Value) (h1 : sk_M), oc = .returned (r.map (sk_v E)) ∧ Q r h1 ∧ va_P (sk_G E) vwCl (sk_W E h1) t.heap) ∧ va_F (sk_A E) st t
abbrev sk_w (M : sk_m) : List Cond := .code M.1 M.2.1 M.2.2.1 M.2.2.2 :: gg_W
abbrev sk_R (d : Nat) : Room := { frames := d, cells := 0, slots := 0, locals := 60 * d }
def sk_P (E : sk_V) (h : sk_M) (as : List Value) : Array Value → State → Prop := va_Pc (as.map (sk_v E)) (fun U => va_P (sk_G E) vwCl (sk_W E h) U.heap ∧ sk_F E U)
def sk_K (l : Launch) (E : sk_V) (d : Nat) (M : sk_m) (as : List Value) (h : sk_M) (Q : Option Value → sk_M → Prop) : Prop :=
  Met l M.1 (sk_w M) (sk_R d) (sk_P E h as) (sk_Q E Q) 0 0 (sk_A E)
def sk_in0 (as : List Value) : List (Option Value) := as.flatMap (fun v => if v.category = 2 then [some v, none] else [some v])
def sk_in (as : List Value) (n : Nat) : List (Option Value) := sk_in0 as ++ List.replicate (n - (sk_in0 as).length) none
theorem sk_in0_args {E : sk_V} : ∀ (as : List Value) (k i : Nat) (v : Value), (sk_in0 as)[i]? = some (some v) → (k + i, sk_v E v) ∈ lv_args k (as.map (sk_v E))
  | [], k, i, v, h => by simp [sk_in0] at h
  | w :: as, k, i, v, h => by
    have ih := sk_in0_args (E := E) as
    by_cases hc : w.category = 2
    · have e1 : sk_in0 (w :: as) = some w :: none :: sk_in0 as := by simp [sk_in0, hc]
      rw [e1] at h
      have hc2 : (sk_v E w).category = 2 := (sk_cat E w).trans hc
      match i, h with
      | 0, h =>
        simp only [List.getElem?_cons_zero, Option.some.injEq] at h
        subst h
        exact List.mem_cons_self
      | 1, h => simp at h
      | i + 2, h =>
        have h1 : (sk_in0 as)[i]? = some (some v) := by simpa using h
        have h2 := ih (k + 2) i v h1
        have e2 : k + 2 + i = k + (i + 2) := by omega
        rw [e2] at h2
        show _ ∈ lv_args k (sk_v E w :: as.map (sk_v E))
        rw [lv_args, if_pos hc2]
        exact List.mem_cons_of_mem _ h2
    · have e1 : sk_in0 (w :: as) = some w :: sk_in0 as := by simp [sk_in0, hc]
      rw [e1] at h
      have hc2 : ¬ (sk_v E w).category = 2 := by rw [sk_cat]; exact hc
      match i, h with
      | 0, h =>
        simp only [List.getElem?_cons_zero, Option.some.injEq] at h
        subst h
        exact List.mem_cons_self
      | i + 1, h =>
        have h1 : (sk_in0 as)[i]? = some (some v) := by simpa using h
        have h2 := ih (k + 1) i v h1
        have e2 : k + 1 + i = k + (i + 1) := by omega
        rw [e2] at h2
        show _ ∈ lv_args k (sk_v E w :: as.map (sk_v E))
        rw [lv_args, if_neg hc2]
        exact List.mem_cons_of_mem _ h2
theorem sk_in0_len {E : sk_V} : ∀ (as : List Value), (lg_sl (as.map (sk_v E))).length = (sk_in0 as).length
  | [] => rfl
  | w :: as => by
    have ih := sk_in0_len (E := E) as
    have h1 := sk_cat E w
    unfold lg_sl sk_in0 at ih ⊢
    rw [List.map_cons, List.flatMap_cons, List.flatMap_cons, List.length_append, List.length_append, ih, h1]
    by_cases hc : w.category = 2 <;> simp [hc]
theorem sk_in_l {E : sk_V} {as : List Value} {n : Nat} (hn : (sk_in0 as).length ≤ n) : sk_l E ((lg_sl (as.map (sk_v E)) ++ List.replicate (n - (lg_sl (as.map (sk_v E))).length) Slot.unset).toArray) (sk_in as n) := by
  have h1 := lv_entry (as.map (sk_v E)) (n := n) (by rw [sk_in0_len]; exact hn)
  refine ⟨?_, h1.2.1, fun i v hi => ?_⟩
  · rw [h1.1]
    unfold sk_in
    rw [List.length_append, List.length_replicate]
    omega
  · refine h1.2.2 (i, sk_v E v) ?_
    have h2 : (sk_in0 as)[i]? = some (some v) := by
      unfold sk_in at hi
      by_cases q : i < (sk_in0 as).length
      · rw [List.getElem?_append_left q] at hi
        exact hi
      · rw [List.getElem?_append_right (by omega), List.getElem?_replicate] at hi
        split at hi <;> simp at hi
    have h3 := sk_in0_args (E := E) as 0 i v h2
    rwa [Nat.zero_add] at h3
theorem sk_K.of {as : List Value} (hy : plainName M.1.cls = true) (hn : (sk_in0 as).length ≤ M.2.2.1) (k : sk_S l E d M 0 (sk_in as M.2.2.1) [] h Q) : sk_K l E d M as h Q := by
  refine Met.ofW (cc := M.2.1) (maxL := M.2.2.1) (ret := M.2.2.2) hy rfl ?_
  intro p e s m args below meth c s₁ B hml hv
  obtain ⟨rfl, hP, hF⟩ := hv
  have hx := B.exec
  have hb := B.bytes
  have hr := B.returns
  have hts := atoms_spec (ws := sk_w M) B.pre
  have hown : s.vm.findClass M.1.cls = some m.cls := findClass_of_methodNamed B.named
  have hlocks := B.notSynchronized
  rw [lg_entry_eq]
  refine k p e (sk_R d) s m _ below meth c 0 0 _ ⟨hx, hb, hml, hown, fun w hw => hts w (List.mem_cons_of_mem _ hw), hF, hr, hlocks, Nat.le_refl _, Nat.le_refl _⟩ (Nat.zero_le _) (Nat.zero_le _) ?_ s.heap [] _ hP va_S.rf (sk_in_l hn)
  intro r h1 H locs pc1 ls hq hP1 hS1 hret
  rcases hret with ⟨v, ty, rfl, hty, hn, hd⟩ | ⟨rfl, hty, hd⟩
  · exact W.zret hx hb (hr.trans hty) hn (fun t ht hW => ⟨⟨some (.int v), h1, rfl, hq, by rw [ht]; exact hP1⟩, hS1.F ht⟩) hS1.2.2 hd
  · exact W.vret hx hb (hr.trans hty) (fun t ht hW => ⟨⟨none, h1, rfl, hq, by rw [ht]; exact hP1⟩, hS1.F ht⟩) hS1.2.2 hd
theorem sk_blind {E : sk_V} {h : sk_M} {as : List Value} : FrameBlind (sk_P E h as) := by
  intro a U g mk hv
  obtain ⟨q1, q2, q3⟩ := hv
  exact ⟨q1, q2, q3.go (U := U.calling g mk a) (State.WarmedH.refl U) (fun _ _ _ => rfl)⟩
theorem sk_run {p : Program} {e : Env} {R : Room} {s : State} {m : MethodId} {args : Array Value} {below : List Frame} {meth : Method} {c : Code} {H : Heap} {locs : List Loc} {cells slots : Nat} {Z : State → Prop} {rest st0 : List Value} {ls : Array Slot} {a : Array Value} {Q1 : Option Value → sk_M → Prop}
    (hr : va_Run p l e R s m args below meth c H locs cells slots 0 0 (F0 m pc ls st0) rest (sk_Q E Q1 a) (sk_A E)) (hS : va_S (sk_A E) s.heap H locs)
    (kk : ∀ (r : Option Value) (h1 : sk_M) (H1 : Heap) (locs1 : List Loc), Q1 r h1 → va_P (sk_G E) vwCl (sk_W E h1) H1 → va_S (sk_A E) s.heap H1 locs1 → W p l e R s m args below meth c H1 locs1 cells slots Z (F0 m (pc + 3) ls ((r.map (sk_v E)).toList ++ rest))) : W p l e R s m args below meth c H locs cells slots Z (F0 m pc ls st0) := by
  intro T hT X
  obtain ⟨v, st₀, t, T', L, h0, X', hL, e1, e2, ⟨⟨r, h1, hv, hq, hP1⟩, hz, hk⟩, st⟩ := hr T hT X
  cases hv
  rw [h0] at hz hk
  obtain ⟨t2, a1, b1⟩ := kk r h1 T'.heap (locs ++ L) hq (by rw [e1]; exact hP1)
    ⟨Nat.le_trans hS.1 (by rw [e1]; exact hz), fun q h1 h2 => by rw [e1, hk q (Nat.lt_of_lt_of_le h1 hS.1) h2]; exact hS.2.1 q h1 h2, fun q hq => by
      rcases List.mem_append.mp hq with h | h
      · exact hS.2.2 q h
      · exact hL q h⟩ T' rfl X'
  exact ⟨t2, st t2 a1, b1⟩
/-- a call's words -/
def sk_cl (own : String) (i : Nat) (M : sk_m) (n : Nat) (virt : Bool) : Prop :=
  Cond.code M.1 M.2.1 M.2.2.1 M.2.2.2 ∈ gg_W ∧ Cond.initialized M.1.cls ∈ gg_W ∧ (M.1.cls ≠ "java/lang/invoke/MethodHandle" ∧ M.1.cls ≠ "java/lang/invoke/VarHandle" ∧ (parseMethodDescriptor M.1.desc).map (fun d => d.parameters.length) = some n) ∧ M.2.2.1 ≤ 40 ∧
  (if virt = true then Cond.instanceMethod M.1 ∈ gg_W ∧ Cond.selects M.1.cls M.1 M.1 ∈ gg_W else Cond.static M.1 ∈ gg_W) ∧ (Cond.methodLink own i M.1 ∈ gg_W ∨ ∃ host, Cond.methodLinkNest own i M.1 host ∈ nn_W)
theorem gg_in {ws : List Cond} (h : ∀ w ∈ ws, w ∈ gg_W) : GoodIn gg_W ws := fun w hw => ⟨h w hw, gg_good (h w hw)⟩
theorem sk_w_in {M : sk_m} (h : Cond.code M.1 M.2.1 M.2.2.1 M.2.2.2 ∈ gg_W) : ∀ w ∈ sk_w M, w ∈ gg_W := fun w hw => (List.mem_cons.mp hw).elim (fun e => by rw [e]; exact h) (fun z => z)
theorem sk_rest {E : sk_V} {rest : List Value} (h : (rest.map fun v => v.category).sum ≤ 8) : ((rest.map (sk_v E)).map fun v => v.category).sum ≤ 8 := by
  rw [List.map_map]
  have e : ((fun v : Value => v.category) ∘ sk_v E) = fun v => v.category := by funext v; exact sk_cat E v
  rw [e]
  exact h
theorem sk_S.callV {own : String} {i a ci n : Nat} {as rest : List Value} {M1 : sk_m} {n0 : Nat} {rs : List (Option Nat)} {Q1 : Option Value → sk_M → Prop} (hd : decode M.2.1 pc = .ok (.invokevirtual i, 3)) (ho : M.1.cls = own) (hc : sk_cl own i M1 n true) (hM : sk_K l E d M1 (.ref a :: as) h Q1) (he : sk_e a = (1, ci, n0, rs)) (hn0 : 0 < n0) (hci : (vwCl[ci]?).map (fun q => q.1) = some M1.1.cls) (hlen : as.length = n) (hL : L.length = M.2.2.1) (hst : St = as.reverse ++ .ref a :: rest) (hrest : (rest.map fun v => v.category).sum ≤ 8)
    (k : ∀ r h1, Q1 r h1 → sk_S l E (d + 1) M (pc + 3) L (r.toList ++ rest) h1 Q) : sk_S l E (d + 1) M pc L St h Q := by
  intro p e R s m args below meth c ce so Z C hce hso hz H locs ls hP hS hl
  subst ho; subst hst
  obtain ⟨w1, w2, w3, w4, w5, w6⟩ := hc
  rw [if_pos rfl] at w5
  have ha := sk_W_at (E := E) (h := h) (sk_e_lt he hn0)
  rw [he] at ha
  have hFr : d + 1 ≤ R.frames := C.2.2.2.2.2.2.2.2.1
  have hLo : 60 * (d + 1) ≤ R.locals := C.2.2.2.2.2.2.2.2.2
  obtain ⟨q, hq1, hq2⟩ := Option.map_eq_some_iff.mp hci
  have hrecv := va_recv C.2.2.2.2.2.1.1 hP hq1 ha
  rw [hq2] at hrecv
  have hpre : PreV s H M1.1.cls (sk_a E a) (sk_P E h (.ref a :: as)) (as.map (sk_v E)) := ⟨sk_blind, hrecv, fun U hU hW => ⟨rfl, by rw [hU]; exact hP, C.2.2.2.2.2.1.go hW (fun a h1 h2 => by rw [hU]; exact hS.2.1 a h1 h2)⟩⟩
  have hst : ((as.reverse ++ Value.ref a :: rest).map (sk_v E)) = (as.map (sk_v E)).reverse ++ .ref (sk_a E a) :: rest.map (sk_v E) := by
    rw [List.map_append, List.map_reverse]; rfl
  have fin : ∀ (r : Option Value) (h1 : sk_M) (H1 : Heap) (locs1 : List Loc), Q1 r h1 → va_P (sk_G E) vwCl (sk_W E h1) H1 → va_S (sk_A E) s.heap H1 locs1 → W p l e R s m args below meth c H1 locs1 ce so Z (F0 m (pc + 3) ls ((r.map (sk_v E)).toList ++ rest.map (sk_v E))) := by
    intro r h1 H1 locs1 hq hP1 hS1
    have h2 := k r h1 hq p e R s m args below meth c ce so Z C hce hso hz H1 locs1 ls hP1 hS1 hl
    have e3 : (r.toList ++ rest).map (sk_v E) = (r.map (sk_v E)).toList ++ rest.map (sk_v E) := by cases r <;> simp
    rw [e3] at h2
    exact h2
  have fixx : CallFix p m c M.2.1 M.2.2.1 s args gg_W M.1.cls := ⟨C.1, C.2.1, C.2.2.1, C.2.2.2.1, C.2.2.2.2.1⟩
  have hini : (Cond.initialized M1.1.cls).before args s = true := C.2.2.2.2.1 _ w2
  rcases w6 with w6 | ⟨host, w6⟩
  · have cb : CallB R s args M.1.cls i M1.1 M1.2.1 M1.2.2.1 M1.2.2.2 (sk_w M1) (sk_R d) 0 0 n := callB_of n C.2.2.2.2.1 (gg_in (sk_w_in w1)) rfl rfl rfl hini (C.2.2.2.2.1 _ w6) w3 ⟨by show d + 1 ≤ _; exact hFr, by show 8 + (M1.2.2.1 + 11) + 60 * d ≤ _; omega⟩
    exact sk_run (va_runV (C := M1.1.cls) fixx hM ⟨cb, C.2.2.2.2.1 _ w5.1, C.2.2.2.2.1 _ w5.2⟩ hpre rfl (by rw [List.length_map]; exact hlen) (hl.1.trans hL) hst (lv_room (sk_rest hrest)) hd ⟨hce, hso⟩) hS fin
  · have cb : va_CN R s args M.1.cls i M1.1 host M1.2.1 M1.2.2.1 M1.2.2.2 (sk_w M1) (sk_R d) 0 0 n := va_cnB n C.2.2.2.2.1 (gg_in (sk_w_in w1)) rfl rfl rfl (C.2.2.2.2.2.1.2.2.2.2.2.2.2.2 _ w6) hini w3 ⟨by show d + 1 ≤ _; exact hFr, by show 8 + (M1.2.2.1 + 11) + 60 * d ≤ _; omega⟩
    exact sk_run (va_runVN (C := M1.1.cls) fixx hM ⟨cb, C.2.2.2.2.1 _ w5.1, C.2.2.2.2.1 _ w5.2⟩ hpre rfl (by rw [List.length_map]; exact hlen) (hl.1.trans hL) hst (lv_room (sk_rest hrest)) hd ⟨hce, hso⟩) hS fin
theorem sk_S.callS {own : String} {i n : Nat} {as rest : List Value} {M1 : sk_m} {Q1 : Option Value → sk_M → Prop} (hd : decode M.2.1 pc = .ok (.invokestatic i, 3)) (ho : M.1.cls = own) (hc : sk_cl own i M1 n false) (hM : sk_K l E d M1 as h Q1) (hlen : as.length = n) (hL : L.length = M.2.2.1) (hst : St = as.reverse ++ rest) (hrest : (rest.map fun v => v.category).sum ≤ 8)
    (k : ∀ r h1, Q1 r h1 → sk_S l E (d + 1) M (pc + 3) L (r.toList ++ rest) h1 Q) : sk_S l E (d + 1) M pc L St h Q := by
  intro p e R s m args below meth c ce so Z C hce hso hz H locs ls hP hS hl
  subst ho; subst hst
  obtain ⟨w1, w2, w3, w4, w5, w6⟩ := hc
  rw [if_neg (by decide)] at w5
  have hFr : d + 1 ≤ R.frames := C.2.2.2.2.2.2.2.2.1
  have hLo : 60 * (d + 1) ≤ R.locals := C.2.2.2.2.2.2.2.2.2
  have hpre : PreS s H (sk_P E h as) (as.map (sk_v E)) := ⟨sk_blind, fun U hU hW => ⟨rfl, by rw [hU]; exact hP, C.2.2.2.2.2.1.go hW (fun a h1 h2 => by rw [hU]; exact hS.2.1 a h1 h2)⟩⟩
  have hst : ((as.reverse ++ rest).map (sk_v E)) = (as.map (sk_v E)).reverse ++ rest.map (sk_v E) := by
    rw [List.map_append, List.map_reverse]
  have fin : ∀ (r : Option Value) (h1 : sk_M) (H1 : Heap) (locs1 : List Loc), Q1 r h1 → va_P (sk_G E) vwCl (sk_W E h1) H1 → va_S (sk_A E) s.heap H1 locs1 → W p l e R s m args below meth c H1 locs1 ce so Z (F0 m (pc + 3) ls ((r.map (sk_v E)).toList ++ rest.map (sk_v E))) := by
    intro r h1 H1 locs1 hq hP1 hS1
    have h2 := k r h1 hq p e R s m args below meth c ce so Z C hce hso hz H1 locs1 ls hP1 hS1 hl
    have e3 : (r.toList ++ rest).map (sk_v E) = (r.map (sk_v E)).toList ++ rest.map (sk_v E) := by cases r <;> simp
    rw [e3] at h2
    exact h2
  have fixx : CallFix p m c M.2.1 M.2.2.1 s args gg_W M.1.cls := ⟨C.1, C.2.1, C.2.2.1, C.2.2.2.1, C.2.2.2.2.1⟩
  have hini : (Cond.initialized M1.1.cls).before args s = true := C.2.2.2.2.1 _ w2
  rcases w6 with w6 | ⟨host, w6⟩
  · have cb : CallB R s args M.1.cls i M1.1 M1.2.1 M1.2.2.1 M1.2.2.2 (sk_w M1) (sk_R d) 0 0 n := callB_of n C.2.2.2.2.1 (gg_in (sk_w_in w1)) rfl rfl rfl hini (C.2.2.2.2.1 _ w6) w3 ⟨by show d + 1 ≤ _; exact hFr, by show 8 + (M1.2.2.1 + 11) + 60 * d ≤ _; omega⟩
    exact sk_run (va_runS fixx hM ⟨cb, C.2.2.2.2.1 _ w5⟩ hpre rfl (by rw [List.length_map]; exact hlen) (hl.1.trans hL) hst (lv_room (sk_rest hrest)) hd ⟨hce, hso⟩) hS fin
  · have cb : va_CN R s args M.1.cls i M1.1 host M1.2.1 M1.2.2.1 M1.2.2.2 (sk_w M1) (sk_R d) 0 0 n := va_cnB n C.2.2.2.2.1 (gg_in (sk_w_in w1)) rfl rfl rfl (C.2.2.2.2.2.1.2.2.2.2.2.2.2.2 _ w6) hini w3 ⟨by show d + 1 ≤ _; exact hFr, by show 8 + (M1.2.2.1 + 11) + 60 * d ≤ _; omega⟩
    exact sk_run (va_runSN fixx hM ⟨cb, C.2.2.2.2.1 _ w5, trivial⟩ hpre rfl (by rw [List.length_map]; exact hlen) (hl.1.trans hL) hst (lv_room (sk_rest hrest)) hd ⟨hce, hso⟩) hS fin
/-- the JDK's greater and smaller of two -/
theorem sk_S.mmax {own : String} {i : Nat} {x y : Int32} (hd : decode M.2.1 pc = .ok (.invokestatic i, 3)) (ho : M.1.cls = own) (hw : Cond.methodLink own i Lib.Math.max.name ∈ gg_W) (hw2 : Cond.static Lib.Math.max.name ∈ gg_W) (hw3 : Cond.initialized "java/lang/Math" ∈ gg_W) (hw4 : Cond.code Lib.Math.max.name Lib.Math.max.code 2 (some .int) ∈ gg_W) (hL : L.length = M.2.2.1) (hrest : (St.map fun v => v.category).sum ≤ 8)
    (k : sk_S l E (d + 1) M (pc + 3) L (.int (if x < y then y else x) :: St) h Q) : sk_S l E (d + 1) M pc L (.int y :: .int x :: St) h Q := by
  intro p e R s m args below meth c ce so Z C hc hs hz H locs ls hP hS hl
  subst ho
  have hFr : d + 1 ≤ R.frames := C.2.2.2.2.2.2.2.2.1
  have hLo : 60 * (d + 1) ≤ R.locals := C.2.2.2.2.2.2.2.2.2
  have hre := sk_rest (E := E) hrest
  exact va_mmax C.1 C.2.1 (C.2.2.1.trans (hl.1.trans hL).symm) C.2.2.2.1 (C.2.2.2.2.1 _ hw) (C.2.2.2.2.1 _ hw2) (C.2.2.2.2.1 _ hw3) (C.2.2.2.2.1 _ hw4) (by omega) (by omega) hc hs hd (k p e R s m args below meth c ce so Z C hc hs hz H locs ls hP hS hl)
theorem sk_S.mmin {own : String} {i : Nat} {x y : Int32} (hd : decode M.2.1 pc = .ok (.invokestatic i, 3)) (ho : M.1.cls = own) (hw : Cond.methodLink own i Lib.Math.min.name ∈ gg_W) (hw2 : Cond.static Lib.Math.min.name ∈ gg_W) (hw3 : Cond.initialized "java/lang/Math" ∈ gg_W) (hw4 : Cond.code Lib.Math.min.name Lib.Math.min.code 2 (some .int) ∈ gg_W) (hL : L.length = M.2.2.1) (hrest : (St.map fun v => v.category).sum ≤ 8)
    (k : sk_S l E (d + 1) M (pc + 3) L (.int (if y < x then y else x) :: St) h Q) : sk_S l E (d + 1) M pc L (.int y :: .int x :: St) h Q := by
  intro p e R s m args below meth c ce so Z C hc hs hz H locs ls hP hS hl
  subst ho
  have hFr : d + 1 ≤ R.frames := C.2.2.2.2.2.2.2.2.1
  have hLo : 60 * (d + 1) ≤ R.locals := C.2.2.2.2.2.2.2.2.2
  have hre := sk_rest (E := E) hrest
  exact va_mmin C.1 C.2.1 (C.2.2.1.trans (hl.1.trans hL).symm) C.2.2.2.1 (C.2.2.2.2.1 _ hw) (C.2.2.2.2.1 _ hw2) (C.2.2.2.2.1 _ hw3) (C.2.2.2.2.1 _ hw4) (by omega) (by omega) hc hs hd (k p e R s m args below meth c ce so Z C hc hs hz H locs ls hP hS hl)
/-- the JDK's copy of a row's part -/
theorem sk_S.acopy {own : String} {i a b n0 n1 : Nat} {sp dp n : Int32} {sn dn nn : Nat} {rs0 rs1 : List (Option Nat)} (hd : decode M.2.1 pc = .ok (.invokestatic i, 3)) (ho : M.1.cls = own) (hw : Cond.methodLink own i arraycopyName ∈ gg_W) (hw2 : Cond.native arraycopyName ∈ gg_W) (hw3 : Cond.static arraycopyName ∈ gg_W) (hw4 : Cond.initialized "java/lang/System" ∈ gg_W) (hL : L.length = M.2.2.1) (hrest : (St.map fun v => v.category).sum ≤ 8)
    (he0 : sk_e a = (0, 0, n0, rs0)) (he1 : sk_e b = (0, 0, n1, rs1)) (hn0 : 0 < n0) (hn1 : 0 < n1) (h1 : ¬ sp < 0) (h2 : ¬ dp < 0) (h3 : ¬ n < 0) (e1 : sp.toNatClampNeg = sn) (e2 : dp.toNatClampNeg = dn) (e3 : n.toNatClampNeg = nn) (h4 : sn + nn ≤ n0) (h5 : dn + nn ≤ n1)
    (k : sk_S l E (d + 1) M (pc + 3) L St (sk_r h b (va_cpy (h a) (h b) sn dn nn)) Q) : sk_S l E (d + 1) M pc L (.int n :: .int dp :: .ref b :: .int sp :: .ref a :: St) h Q := by
  intro p e R s m args below meth c ce so Z C hc hs hz H locs ls hP hS hl
  subst ho; subst e1; subst e2; subst e3
  have hFr : d + 1 ≤ R.frames := C.2.2.2.2.2.2.2.2.1
  have hLo : 60 * (d + 1) ≤ R.locals := C.2.2.2.2.2.2.2.2.2
  have hre := sk_rest (E := E) hrest
  have ha0 := sk_W_at (E := E) (h := h) (sk_e_lt he0 hn0)
  have ha1 := sk_W_at (E := E) (h := h) (sk_e_lt he1 hn1)
  rw [he0] at ha0
  rw [he1] at ha1
  have hnat : nativeFrameWords "java/lang/System" "arraycopy" 5 + 11 ≤ 40 := by decide +kernel
  refine va_copyi C.1 C.2.1 (C.2.2.1.trans (hl.1.trans hL).symm) C.2.2.2.1 (C.2.2.2.2.1 _ hw) (C.2.2.2.2.1 _ hw2) (C.2.2.2.2.1 _ hw3) (C.2.2.2.2.1 _ hw4) C.2.2.2.2.2.1.1 hP (sk_inj C.2.2.2.2.2.1.2.1) hS a b 0 0 ha0 ha1 rfl rfl rfl h1 h2 h3 h4 h5 (fun _ _ => rfl) (by omega) (by omega) hd (fun H1 locs1 hP1 _ hS1 => ?_)
  rw [sk_W_row he1] at hP1
  exact k p e R s m args below meth c ce so Z C hc hs hz H1 locs1 ls hP1 hS1 hl
end RULES
end
section
section DEC
theorem dd {b : ByteArray} {I : List (Nat × Instr × Nat)} (D : ∀ q ∈ I, decode b q.1 = .ok q.2) (k : Nat) {pc : Nat} {ins : Instr} {len : Nat} (h : I[k]? = some (pc, ins, len)) : decode b pc = .ok (ins, len) := D (pc, ins, len) (List.mem_of_getElem? h)
def IX0_init : List (Nat × Instr × Nat) := [(0, .aload_n 0, 1), (1, .invokespecial 3, 3), (4, .return_, 1)]
theorem DX0_init : ∀ q ∈ IX0_init, decode cX0_init q.1 = .ok q.2 := by decide +kernel
def IX0_turnInto : List (Nat × Instr × Nat) := [(0, .aload_n 0, 1), (1, .iload_n 1, 1), (2, .bipush 10, 2), (4, .idiv, 1), (5, .putfield 9, 3), (8, .aload_n 0, 1), (9, .iload_n 1, 1), (10, .bipush 10, 2), (12, .irem, 1), (13, .putfield 15, 3), (16, .return_, 1)]
theorem DX0_turnInto : ∀ q ∈ IX0_turnInto, decode cX0_turnInto q.1 = .ok q.2 := by decide +kernel
def IX0_takeFrom : List (Nat × Instr × Nat) := [(0, .aload_n 0, 1), (1, .aload_n 1, 1), (2, .getfield 9, 3), (5, .putfield 9, 3), (8, .aload_n 0, 1), (9, .aload_n 1, 1), (10, .getfield 15, 3), (13, .putfield 15, 3), (16, .aload_n 0, 1), (17, .aload_n 1, 1), (18, .getfield 18, 3), (21, .putfield 18, 3), (24, .return_, 1)]
theorem DX0_takeFrom : ∀ q ∈ IX0_takeFrom, decode cX0_takeFrom q.1 = .ok q.2 := by decide +kernel
def IX0_isOneOf : List (Nat × Instr × Nat) := [(0, .aload_n 0, 1), (1, .getfield 9, 3), (4, .istore_n 2, 1), (5, .iconst 0, 1), (6, .istore_n 3, 1), (7, .iload_n 3, 1), (8, .bipush 7, 2), (10, .if_icmp .ge 26, 3), (13, .iload_n 2, 1), (14, .ifCond .lt 22, 3), (17, .iload_n 2, 1), (18, .iload_n 1, 1), (19, .if_icmp .ne 5, 3), (22, .iconst 1, 1), (23, .ireturn, 1), (24, .getstatic 21, 3), (27, .iload_n 2, 1), (28, .iaload, 1), (29, .istore_n 2, 1), (30, .iinc 3 1, 3), (33, .goto (-26), 3), (36, .iconst 0, 1), (37, .ireturn, 1)]
theorem DX0_isOneOf : ∀ q ∈ IX0_isOneOf, decode cX0_isOneOf q.1 = .ok q.2 := by decide +kernel
def IX0_hauls : List (Nat × Instr × Nat) := [(0, .iconst 5, 1), (1, .aload_n 0, 1), (2, .getfield 15, 3), (5, .iadd, 1), (6, .iload_n 2, 1), (7, .isub, 1), (8, .istore 4, 2), (10, .aload_n 0, 1), (11, .getfield 9, 3), (14, .tableswitch 110 1 6 #[38, 43, 48, 70, 79, 96], 38), (52, .iload 4, 2), (54, .iconst 5, 1), (55, .iadd, 1), (56, .ireturn, 1), (57, .iload 4, 2), (59, .iconst 2, 1), (60, .idiv, 1), (61, .ireturn, 1), (62, .iload_n 1, 1), (63, .aload_n 0, 1), (64, .getfield 15, 3), (67, .iconst 4, 1), (68, .irem, 1), (69, .if_icmp .ne 10, 3), (72, .iload 4, 2), (74, .iconst 2, 1), (75, .imul, 1), (76, .goto 7, 3), (79, .iload 4, 2), (81, .iconst 2, 1), (82, .idiv, 1), (83, .ireturn, 1), (84, .iload 4, 2), (86, .iconst 5, 1), (87, .iadd, 1), (88, .iload_n 3, 1), (89, .iconst 5, 1), (90, .irem, 1), (91, .iadd, 1), (92, .ireturn, 1), (93, .iload_n 2, 1), (94, .bipush 6, 2), (96, .if_icmp .le 7, 3), (99, .iconst 0, 1), (100, .goto 9, 3), (103, .iload 4, 2), (105, .iconst 2, 1), (106, .idiv, 1), (107, .iload_n 1, 1), (108, .iadd, 1), (109, .ireturn, 1), (110, .bipush 20, 2), (112, .aload_n 0, 1), (113, .getfield 15, 3), (116, .isub, 1), (117, .iload_n 2, 1), (118, .iconst 2, 1), (119, .imul, 1), (120, .isub, 1), (121, .iload_n 1, 1), (122, .isub, 1), (123, .ireturn, 1), (124, .iload 4, 2), (126, .ireturn, 1)]
theorem DX0_hauls : ∀ q ∈ IX0_hauls, decode cX0_hauls q.1 = .ok q.2 := by decide +kernel
def IX0_eats : List (Nat × Instr × Nat) := [(0, .aload_n 0, 1), (1, .getfield 9, 3), (4, .tableswitch 52 1 6 #[40, 52, 42, 48, 50, 48], 40), (44, .iconst 2, 1), (45, .ireturn, 1), (46, .iconst 1, 1), (47, .iload_n 1, 1), (48, .iconst 2, 1), (49, .irem, 1), (50, .iadd, 1), (51, .ireturn, 1), (52, .iconst 4, 1), (53, .ireturn, 1), (54, .iconst 0, 1), (55, .ireturn, 1), (56, .iconst 1, 1), (57, .ireturn, 1)]
theorem DX0_eats : ∀ q ∈ IX0_eats, decode cX0_eats q.1 = .ok q.2 := by decide +kernel
def IX1_init : List (Nat × Instr × Nat) := [(0, .aload_n 0, 1), (1, .invokespecial 3, 3), (4, .aload_n 0, 1), (5, .bipush 60, 2), (7, .newarray .int, 2), (9, .putfield 9, 3), (12, .aload_n 0, 1), (13, .bipush 60, 2), (15, .newarray .int, 2), (17, .putfield 15, 3), (20, .return_, 1)]
theorem DX1_init : ∀ q ∈ IX1_init, decode cX1_init q.1 = .ok q.2 := by decide +kernel
def IX1_take : List (Nat × Instr × Nat) := [(0, .aload_n 0, 1), (1, .iload_n 2, 1), (2, .iconst 0, 1), (3, .bipush 60, 2), (5, .aload_n 1, 1), (6, .arraylength, 1), (7, .invokestatic 18, 3), (10, .invokestatic 24, 3), (13, .putfield 28, 3), (16, .aload_n 1, 1), (17, .iconst 0, 1), (18, .aload_n 0, 1), (19, .getfield 9, 3), (22, .iconst 0, 1), (23, .aload_n 0, 1), (24, .getfield 28, 3), (27, .invokestatic 32, 3), (30, .aload_n 0, 1), (31, .iconst 1, 1), (32, .putfield 38, 3), (35, .return_, 1)]
theorem DX1_take : ∀ q ∈ IX1_take, decode cX1_take q.1 = .ok q.2 := by decide +kernel
def IX1_takeFrom : List (Nat × Instr × Nat) := [(0, .aload_n 0, 1), (1, .aload_n 1, 1), (2, .getfield 9, 3), (5, .aload_n 1, 1), (6, .getfield 28, 3), (9, .invokevirtual 42, 3), (12, .aload_n 0, 1), (13, .aload_n 1, 1), (14, .getfield 38, 3), (17, .putfield 38, 3), (20, .return_, 1)]
theorem DX1_takeFrom : ∀ q ∈ IX1_takeFrom, decode cX1_takeFrom q.1 = .ok q.2 := by decide +kernel
def IX1_gives_p1 : List (Nat × Instr × Nat) := [(0, .aload_n 0, 1), (1, .getfield 38, 3), (4, .ifCond .ne 11, 3), (7, .iload_n 1, 1), (8, .iconst 0, 1), (9, .bipush 99, 2), (11, .invokestatic 24, 3), (14, .ireturn, 1), (15, .iconst 0, 1), (16, .istore 4, 2), (18, .iconst 0, 1), (19, .istore 5, 2), (21, .iload 5, 2), (23, .aload_n 0, 1), (24, .getfield 28, 3), (27, .if_icmp .ge 159, 3), (30, .aload_n 0, 1), (31, .getfield 9, 3), (34, .iload 5, 2), (36, .iaload, 1), (37, .istore 6, 2), (39, .iload 6, 2), (41, .bipush (-3), 2), (43, .if_icmp .lt 55, 3), (46, .iload 4, 2), (48, .bipush 60, 2), (50, .if_icmp .ge 48, 3), (53, .aload_n 0, 1), (54, .getfield 15, 3), (57, .iload 4, 2), (59, .iload 6, 2), (61, .ifCond .lt 8, 3), (64, .iload 6, 2), (66, .goto 25, 3), (69, .iload 6, 2), (71, .iconst (-1), 1), (72, .if_icmp .ne 7, 3), (75, .iload_n 1, 1), (76, .goto 15, 3), (79, .iload 6, 2), (81, .bipush (-2), 2), (83, .if_icmp .ne 7, 3), (86, .iload_n 2, 1), (87, .goto 4, 3), (90, .iload_n 3, 1), (91, .iastore, 1), (92, .iinc 4 1, 3), (95, .goto 85, 3), (98, .iload 6, 2), (100, .bipush (-33), 2), (102, .if_icmp .ne 38, 3), (105, .iload 4, 2), (107, .iconst 1, 1), (108, .if_icmp .lt 32, 3), (111, .aload_n 0, 1), (112, .getfield 15, 3), (115, .iload 4, 2), (117, .iconst 1, 1), (118, .isub, 1), (119, .aload_n 0, 1), (120, .getfield 15, 3), (123, .iload 4, 2), (125, .iconst 1, 1), (126, .isub, 1), (127, .iaload, 1), (128, .ifCond .ne 7, 3), (131, .iconst 1, 1), (132, .goto 4, 3), (135, .iconst 0, 1), (136, .iastore, 1), (137, .goto 43, 3), (140, .iload 4, 2), (142, .iconst 2, 1), (143, .if_icmp .lt 37, 3), (146, .iinc 4 (-1), 3), (149, .aload_n 0, 1), (150, .getfield 15, 3), (153, .iload 4, 2), (155, .iconst 1, 1), (156, .isub, 1), (157, .iload 6, 2), (159, .ineg, 1), (160, .aload_n 0, 1), (161, .getfield 15, 3), (164, .iload 4, 2), (166, .iconst 1, 1), (167, .isub, 1), (168, .iaload, 1), (169, .aload_n 0, 1), (170, .getfield 15, 3), (173, .iload 4, 2), (175, .iaload, 1), (176, .invokestatic 48, 3), (179, .iastore, 1), (180, .iinc 5 1, 3), (183, .goto (-162), 3), (186, .iload 4, 2), (188, .ifCond .le 18, 3), (191, .aload_n 0, 1), (192, .getfield 15, 3)]
theorem DX1_gives_p1 : ∀ q ∈ IX1_gives_p1, decode cX1_gives q.1 = .ok q.2 := by decide +kernel
def IX1_gives_p2 : List (Nat × Instr × Nat) := [(195, .iconst 0, 1), (196, .iaload, 1), (197, .iconst 0, 1), (198, .bipush 99, 2), (200, .invokestatic 24, 3), (203, .goto 4, 3), (206, .iconst 0, 1), (207, .ireturn, 1)]
theorem DX1_gives_p2 : ∀ q ∈ IX1_gives_p2, decode cX1_gives q.1 = .ok q.2 := by decide +kernel
def IX1_joined : List (Nat × Instr × Nat) := [(0, .iload_n 0, 1), (1, .lookupswitch 168 #[(38, 97), (42, 152), (43, 144), (45, 148), (47, 156), (60, 111), (61, 122), (62, 133), (124, 83)], 83), (84, .iload_n 1, 1), (85, .ifCond .ne 7, 3), (88, .iload_n 2, 1), (89, .ifCond .eq 7, 3), (92, .iconst 1, 1), (93, .goto 4, 3), (96, .iconst 0, 1), (97, .ireturn, 1), (98, .iload_n 1, 1), (99, .ifCond .eq 11, 3), (102, .iload_n 2, 1), (103, .ifCond .eq 7, 3), (106, .iconst 1, 1), (107, .goto 4, 3), (110, .iconst 0, 1), (111, .ireturn, 1), (112, .iload_n 1, 1), (113, .iload_n 2, 1), (114, .if_icmp .ge 7, 3), (117, .iconst 1, 1), (118, .goto 4, 3), (121, .iconst 0, 1), (122, .ireturn, 1), (123, .iload_n 1, 1), (124, .iload_n 2, 1), (125, .if_icmp .ne 7, 3), (128, .iconst 1, 1), (129, .goto 4, 3), (132, .iconst 0, 1), (133, .ireturn, 1), (134, .iload_n 1, 1), (135, .iload_n 2, 1), (136, .if_icmp .le 7, 3), (139, .iconst 1, 1), (140, .goto 4, 3), (143, .iconst 0, 1), (144, .ireturn, 1), (145, .iload_n 1, 1), (146, .iload_n 2, 1), (147, .iadd, 1), (148, .ireturn, 1), (149, .iload_n 1, 1), (150, .iload_n 2, 1), (151, .isub, 1), (152, .ireturn, 1), (153, .iload_n 1, 1), (154, .iload_n 2, 1), (155, .imul, 1), (156, .ireturn, 1), (157, .iload_n 2, 1), (158, .ifCond .ne 7, 3), (161, .iconst 0, 1), (162, .goto 6, 3), (165, .iload_n 1, 1), (166, .iload_n 2, 1), (167, .idiv, 1), (168, .ireturn, 1), (169, .iload_n 2, 1), (170, .ifCond .ne 7, 3), (173, .iconst 0, 1), (174, .goto 6, 3), (177, .iload_n 1, 1), (178, .iload_n 2, 1), (179, .irem, 1), (180, .ireturn, 1)]
theorem DX1_joined : ∀ q ∈ IX1_joined, decode cX1_joined q.1 = .ok q.2 := by decide +kernel
def IX2_init : List (Nat × Instr × Nat) := [(0, .aload_n 0, 1), (1, .invokespecial 3, 3), (4, .aload_n 0, 1), (5, .iconst 4, 1), (6, .newarray .int, 2), (8, .putfield 9, 3), (11, .aload_n 0, 1), (12, .iconst 4, 1), (13, .newarray .int, 2), (15, .putfield 15, 3), (18, .aload_n 0, 1), (19, .bipush 6, 2), (21, .anewarray 18, 3), (24, .putfield 20, 3), (27, .aload_n 0, 1), (28, .iconst 2, 1), (29, .anewarray 24, 3), (32, .putfield 26, 3), (35, .aload_n 0, 1), (36, .bipush 60, 2), (38, .newarray .int, 2), (40, .putfield 30, 3), (43, .aload_n 0, 1), (44, .bipush 24, 2), (46, .newarray .int, 2), (48, .putfield 33, 3), (51, .aload_n 0, 1), (52, .bipush 20, 2), (54, .putfield 36, 3), (57, .aload_n 0, 1), (58, .iconst 1, 1), (59, .putfield 40, 3), (62, .aload_n 0, 1), (63, .getfield 15, 3), (66, .iconst 2, 1), (67, .invokestatic 43, 3), (70, .iconst 0, 1), (71, .istore_n 1, 1), (72, .iload_n 1, 1), (73, .bipush 6, 2), (75, .if_icmp .ge 22, 3), (78, .aload_n 0, 1), (79, .getfield 20, 3), (82, .iload_n 1, 1), (83, .new 18, 3), (86, .dup, 1), (87, .invokespecial 49, 3), (90, .aastore, 1), (91, .iinc 1 1, 3), (94, .goto (-22), 3), (97, .iconst 0, 1), (98, .istore_n 1, 1), (99, .iload_n 1, 1), (100, .iconst 2, 1), (101, .if_icmp .ge 22, 3), (104, .aload_n 0, 1), (105, .getfield 26, 3), (108, .iload_n 1, 1), (109, .new 24, 3), (112, .dup, 1), (113, .invokespecial 50, 3), (116, .aastore, 1), (117, .iinc 1 1, 3), (120, .goto (-21), 3), (123, .return_, 1)]
theorem DX2_init : ∀ q ∈ IX2_init, decode cX2_init q.1 = .ok q.2 := by decide +kernel
def IX2_takeFrom_p1 : List (Nat × Instr × Nat) := [(0, .aload_n 1, 1), (1, .getfield 9, 3), (4, .iconst 0, 1), (5, .aload_n 0, 1), (6, .getfield 9, 3), (9, .iconst 0, 1), (10, .iconst 4, 1), (11, .invokestatic 51, 3), (14, .aload_n 1, 1), (15, .getfield 15, 3), (18, .iconst 0, 1), (19, .aload_n 0, 1), (20, .getfield 15, 3), (23, .iconst 0, 1), (24, .iconst 4, 1), (25, .invokestatic 51, 3), (28, .aload_n 1, 1), (29, .getfield 30, 3), (32, .iconst 0, 1), (33, .aload_n 0, 1), (34, .getfield 30, 3), (37, .iconst 0, 1), (38, .bipush 60, 2), (40, .invokestatic 51, 3), (43, .aload_n 1, 1), (44, .getfield 33, 3), (47, .iconst 0, 1), (48, .aload_n 0, 1), (49, .getfield 33, 3), (52, .iconst 0, 1), (53, .bipush 24, 2), (55, .invokestatic 51, 3), (58, .iconst 0, 1), (59, .istore_n 2, 1), (60, .iload_n 2, 1), (61, .bipush 6, 2), (63, .if_icmp .ge 24, 3), (66, .aload_n 0, 1), (67, .getfield 20, 3), (70, .iload_n 2, 1), (71, .aaload, 1), (72, .aload_n 1, 1), (73, .getfield 20, 3), (76, .iload_n 2, 1), (77, .aaload, 1), (78, .invokevirtual 57, 3), (81, .iinc 2 1, 3), (84, .goto (-24), 3), (87, .iconst 0, 1), (88, .istore_n 2, 1), (89, .iload_n 2, 1), (90, .iconst 2, 1), (91, .if_icmp .ge 24, 3), (94, .aload_n 0, 1), (95, .getfield 26, 3), (98, .iload_n 2, 1), (99, .aaload, 1), (100, .aload_n 1, 1), (101, .getfield 26, 3), (104, .iload_n 2, 1), (105, .aaload, 1), (106, .invokevirtual 61, 3), (109, .iinc 2 1, 3), (112, .goto (-23), 3), (115, .aload_n 0, 1), (116, .aload_n 1, 1), (117, .getfield 64, 3), (120, .putfield 64, 3), (123, .aload_n 0, 1), (124, .aload_n 1, 1), (125, .getfield 67, 3), (128, .putfield 67, 3), (131, .aload_n 0, 1), (132, .aload_n 1, 1), (133, .getfield 70, 3), (136, .putfield 70, 3), (139, .aload_n 0, 1), (140, .aload_n 1, 1), (141, .getfield 73, 3), (144, .putfield 73, 3), (147, .aload_n 0, 1), (148, .aload_n 1, 1), (149, .getfield 76, 3), (152, .putfield 76, 3), (155, .aload_n 0, 1), (156, .aload_n 1, 1), (157, .getfield 36, 3), (160, .putfield 36, 3), (163, .aload_n 0, 1), (164, .aload_n 1, 1), (165, .getfield 79, 3), (168, .putfield 79, 3), (171, .aload_n 0, 1), (172, .aload_n 1, 1), (173, .getfield 82, 3), (176, .putfield 82, 3), (179, .aload_n 0, 1), (180, .aload_n 1, 1), (181, .getfield 40, 3), (184, .putfield 40, 3)]
theorem DX2_takeFrom_p1 : ∀ q ∈ IX2_takeFrom_p1, decode cX2_takeFrom q.1 = .ok q.2 := by decide +kernel
def IX2_takeFrom_p2 : List (Nat × Instr × Nat) := [(187, .return_, 1)]
theorem DX2_takeFrom_p2 : ∀ q ∈ IX2_takeFrom_p2, decode cX2_takeFrom q.1 = .ok q.2 := by decide +kernel
def IX2_landed : List (Nat × Instr × Nat) := [(0, .aload_n 0, 1), (1, .getfield 20, 3), (4, .iload_n 1, 1), (5, .aaload, 1), (6, .astore 6, 2), (8, .aload 6, 2), (10, .getfield 85, 3), (13, .iconst 1, 1), (14, .if_icmp .ne 5, 3), (17, .iconst 0, 1), (18, .ireturn, 1), (19, .aload_n 0, 1), (20, .getfield 26, 3), (23, .iconst 0, 1), (24, .aaload, 1), (25, .aload 6, 2), (27, .iload_n 2, 1), (28, .iload 4, 2), (30, .iload 5, 2), (32, .invokevirtual 88, 3), (35, .iload 4, 2), (37, .iload_n 3, 1), (38, .invokevirtual 92, 3), (41, .ireturn, 1)]
theorem DX2_landed : ∀ q ∈ IX2_landed, decode cX2_landed q.1 = .ok q.2 := by decide +kernel
def IX2_caught : List (Nat × Instr × Nat) := [(0, .iconst 0, 1), (1, .istore 5, 2), (3, .iconst 0, 1), (4, .istore 6, 2), (6, .iload 6, 2), (8, .aload_n 0, 1), (9, .getfield 64, 3), (12, .if_icmp .ge 25, 3), (15, .iload 5, 2), (17, .aload_n 0, 1), (18, .iload 6, 2), (20, .iload_n 1, 1), (21, .iload_n 2, 1), (22, .iload_n 3, 1), (23, .iload 4, 2), (25, .invokevirtual 95, 3), (28, .iadd, 1), (29, .istore 5, 2), (31, .iinc 6 1, 3), (34, .goto (-28), 3), (37, .iload 5, 2), (39, .ireturn, 1)]
theorem DX2_caught : ∀ q ∈ IX2_caught, decode cX2_caught q.1 = .ok q.2 := by decide +kernel
def IX2_caughtNow : List (Nat × Instr × Nat) := [(0, .aload_n 0, 1), (1, .iload_n 1, 1), (2, .aload_n 0, 1), (3, .getfield 9, 3), (6, .iload_n 1, 1), (7, .iaload, 1), (8, .aload_n 0, 1), (9, .getfield 67, 3), (12, .aload_n 0, 1), (13, .getfield 70, 3), (16, .invokevirtual 99, 3), (19, .ireturn, 1)]
theorem DX2_caughtNow : ∀ q ∈ IX2_caughtNow, decode cX2_caughtNow q.1 = .ok q.2 := by decide +kernel
def IX2_coins : List (Nat × Instr × Nat) := [(0, .aload_n 0, 1), (1, .getfield 26, 3), (4, .iconst 1, 1), (5, .aaload, 1), (6, .aload_n 0, 1), (7, .getfield 15, 3), (10, .iload_n 1, 1), (11, .iaload, 1), (12, .aload_n 0, 1), (13, .getfield 36, 3), (16, .iload_n 2, 1), (17, .invokevirtual 92, 3), (20, .ireturn, 1)]
theorem DX2_coins : ∀ q ∈ IX2_coins, decode cX2_coins q.1 = .ok q.2 := by decide +kernel
def IX2_promise : List (Nat × Instr × Nat) := [(0, .iload_n 2, 1), (1, .aload_n 0, 1), (2, .iload_n 1, 1), (3, .aload_n 0, 1), (4, .getfield 9, 3), (7, .iload_n 1, 1), (8, .iaload, 1), (9, .invokevirtual 103, 3), (12, .imul, 1), (13, .istore_n 3, 1), (14, .aload_n 0, 1), (15, .ldc 107, 2), (17, .aload_n 0, 1), (18, .getfield 73, 3), (21, .iload_n 3, 1), (22, .iadd, 1), (23, .invokestatic 108, 3), (26, .putfield 73, 3), (29, .aload_n 0, 1), (30, .getfield 9, 3), (33, .iload_n 1, 1), (34, .dup2, 1), (35, .iaload, 1), (36, .iload_n 2, 1), (37, .iadd, 1), (38, .iastore, 1), (39, .iload_n 3, 1), (40, .ireturn, 1)]
theorem DX2_promise : ∀ q ∈ IX2_promise, decode cX2_promise q.1 = .ok q.2 := by decide +kernel
def IX2_settle_p1 : List (Nat × Instr × Nat) := [(0, .iconst 0, 1), (1, .istore_n 1, 1), (2, .iconst 0, 1), (3, .istore_n 2, 1), (4, .iload_n 2, 1), (5, .iconst 4, 1), (6, .if_icmp .ge 68, 3), (9, .iconst 0, 1), (10, .aload_n 0, 1), (11, .getfield 9, 3), (14, .iload_n 2, 1), (15, .iaload, 1), (16, .aload_n 0, 1), (17, .iload_n 2, 1), (18, .aload_n 0, 1), (19, .getfield 9, 3), (22, .iload_n 2, 1), (23, .iaload, 1), (24, .aload_n 0, 1), (25, .getfield 67, 3), (28, .aload_n 0, 1), (29, .getfield 70, 3), (32, .invokevirtual 99, 3), (35, .isub, 1), (36, .invokestatic 113, 3), (39, .istore_n 3, 1), (40, .aload_n 0, 1), (41, .ldc 116, 2), (43, .aload_n 0, 1), (44, .getfield 73, 3), (47, .iconst 2, 1), (48, .iload_n 3, 1), (49, .imul, 1), (50, .aload_n 0, 1), (51, .getfield 15, 3), (54, .iload_n 2, 1), (55, .iaload, 1), (56, .imul, 1), (57, .isub, 1), (58, .invokestatic 113, 3), (61, .putfield 73, 3), (64, .iload_n 1, 1), (65, .iload_n 3, 1), (66, .iadd, 1), (67, .istore_n 1, 1), (68, .iinc 2 1, 3), (71, .goto (-67), 3), (74, .aload_n 0, 1), (75, .getfield 9, 3), (78, .iconst 0, 1), (79, .invokestatic 43, 3), (82, .iconst 0, 1), (83, .istore_n 2, 1), (84, .iload_n 2, 1), (85, .aload_n 0, 1), (86, .getfield 64, 3), (89, .if_icmp .ge 50, 3), (92, .aload_n 0, 1), (93, .getfield 20, 3), (96, .iload_n 2, 1), (97, .aaload, 1), (98, .getfield 85, 3), (101, .ifCond .ne 32, 3), (104, .aload_n 0, 1), (105, .aload_n 0, 1), (106, .getfield 73, 3), (109, .aload_n 0, 1), (110, .getfield 20, 3), (113, .iload_n 2, 1), (114, .aaload, 1), (115, .aload_n 0, 1), (116, .getfield 70, 3), (119, .invokevirtual 117, 3), (122, .isub, 1), (123, .ldc 116, 2), (125, .ldc 107, 2), (127, .invokestatic 121, 3), (130, .putfield 73, 3), (133, .iinc 2 1, 3), (136, .goto (-52), 3), (139, .aload_n 0, 1), (140, .ldc 107, 2), (142, .aload_n 0, 1), (143, .getfield 76, 3), (146, .iload_n 1, 1), (147, .iadd, 1), (148, .invokestatic 108, 3), (151, .putfield 76, 3), (154, .aload_n 0, 1), (155, .iload_n 1, 1), (156, .ifCond .ne 12, 3), (159, .aload_n 0, 1), (160, .getfield 36, 3), (163, .iconst 1, 1), (164, .iadd, 1), (165, .goto 9, 3), (168, .aload_n 0, 1), (169, .getfield 36, 3), (172, .iconst 2, 1), (173, .isub, 1)]
theorem DX2_settle_p1 : ∀ q ∈ IX2_settle_p1, decode cX2_settle q.1 = .ok q.2 := by decide +kernel
def IX2_settle_p2 : List (Nat × Instr × Nat) := [(174, .iconst 0, 1), (175, .bipush 99, 2), (177, .invokestatic 121, 3), (180, .putfield 36, 3), (183, .aload_n 0, 1), (184, .dup, 1), (185, .getfield 70, 3), (188, .iconst 1, 1), (189, .iadd, 1), (190, .putfield 70, 3), (193, .iload_n 1, 1), (194, .ireturn, 1)]
theorem DX2_settle_p2 : ∀ q ∈ IX2_settle_p2, decode cX2_settle q.1 = .ok q.2 := by decide +kernel
def IX2_dayByDraws : List (Nat × Instr × Nat) := [(0, .aload_n 0, 1), (1, .invokevirtual 124, 3), (4, .iconst 4, 1), (5, .irem, 1), (6, .istore_n 1, 1), (7, .aload_n 0, 1), (8, .invokevirtual 124, 3), (11, .bipush 30, 2), (13, .irem, 1), (14, .istore_n 2, 1), (15, .aload_n 0, 1), (16, .getfield 9, 3), (19, .iload_n 1, 1), (20, .iaload, 1), (21, .iload_n 2, 1), (22, .iadd, 1), (23, .bipush 99, 2), (25, .if_icmp .gt 10, 3), (28, .aload_n 0, 1), (29, .iload_n 1, 1), (30, .iload_n 2, 1), (31, .invokevirtual 128, 3), (34, .pop, 1), (35, .aload_n 0, 1), (36, .aload_n 0, 1), (37, .invokevirtual 124, 3), (40, .bipush 10, 2), (42, .irem, 1), (43, .putfield 67, 3), (46, .aload_n 0, 1), (47, .invokevirtual 131, 3), (50, .ireturn, 1)]
theorem DX2_dayByDraws : ∀ q ∈ IX2_dayByDraws, decode cX2_dayByDraws q.1 = .ok q.2 := by decide +kernel
def IX2_draw : List (Nat × Instr × Nat) := [(0, .aload_n 0, 1), (1, .aload_n 0, 1), (2, .getfield 40, 3), (5, .ldc 134, 2), (7, .imul, 1), (8, .sipush 12345, 3), (11, .iadd, 1), (12, .putfield 40, 3), (15, .aload_n 0, 1), (16, .getfield 40, 3), (19, .bipush 8, 2), (21, .iushr, 1), (22, .ireturn, 1)]
theorem DX2_draw : ∀ q ∈ IX2_draw, decode cX2_draw q.1 = .ok q.2 := by decide +kernel
def IX3_init : List (Nat × Instr × Nat) := [(0, .aload_n 0, 1), (1, .invokespecial 3, 3), (4, .aload_n 0, 1), (5, .bipush 60, 2), (7, .newarray .int, 2), (9, .putfield 9, 3), (12, .aload_n 0, 1), (13, .bipush 60, 2), (15, .newarray .int, 2), (17, .putfield 15, 3), (20, .return_, 1)]
theorem DX3_init : ∀ q ∈ IX3_init, decode cX3_init q.1 = .ok q.2 := by decide +kernel
def IX3_faultIn : List (Nat × Instr × Nat) := [(0, .aload_n 0, 1), (1, .iload_n 2, 1), (2, .iconst 0, 1), (3, .bipush 60, 2), (5, .aload_n 1, 1), (6, .arraylength, 1), (7, .invokestatic 18, 3), (10, .invokestatic 24, 3), (13, .putfield 28, 3), (16, .aload_n 1, 1), (17, .iconst 0, 1), (18, .aload_n 0, 1), (19, .getfield 15, 3), (22, .iconst 0, 1), (23, .aload_n 0, 1), (24, .getfield 28, 3), (27, .invokestatic 32, 3), (30, .aload_n 0, 1), (31, .iload_n 3, 1), (32, .putfield 38, 3), (35, .aload_n 0, 1), (36, .iconst 0, 1), (37, .putfield 41, 3), (40, .aload_n 0, 1), (41, .iconst 0, 1), (42, .putfield 44, 3), (45, .aload_n 0, 1), (46, .iconst 0, 1), (47, .iconst 0, 1), (48, .invokevirtual 47, 3), (51, .ifCond .eq 18, 3), (54, .aload_n 0, 1), (55, .getfield 41, 3), (58, .aload_n 0, 1), (59, .getfield 28, 3), (62, .if_icmp .ne 7, 3), (65, .iconst (-1), 1), (66, .goto 7, 3), (69, .aload_n 0, 1), (70, .getfield 41, 3), (73, .ireturn, 1)]
theorem DX3_faultIn : ∀ q ∈ IX3_faultIn, decode cX3_faultIn q.1 = .ok q.2 := by decide +kernel
def IX3_readLevel : List (Nat × Instr × Nat) := [(0, .iload_n 1, 1), (1, .iconst 5, 1), (2, .if_icmp .lt 9, 3), (5, .aload_n 0, 1), (6, .iload_n 2, 1), (7, .invokevirtual 51, 3), (10, .ireturn, 1), (11, .aload_n 0, 1), (12, .iload_n 1, 1), (13, .iconst 1, 1), (14, .iadd, 1), (15, .iload_n 2, 1), (16, .invokevirtual 47, 3), (19, .ifCond .ne 5, 3), (22, .iconst 0, 1), (23, .ireturn, 1), (24, .iload_n 1, 1), (25, .iconst 2, 1), (26, .if_icmp .ne 7, 3), (29, .iconst 1, 1), (30, .goto 5, 3), (33, .bipush 60, 2), (35, .istore_n 3, 1), (36, .iconst 0, 1), (37, .istore 4, 2), (39, .iload 4, 2), (41, .iload_n 3, 1), (42, .if_icmp .ge 56, 3), (45, .aload_n 0, 1), (46, .invokevirtual 55, 3), (49, .invokestatic 59, 3), (52, .iload_n 1, 1), (53, .if_icmp .ne 45, 3), (56, .aload_n 0, 1), (57, .invokevirtual 55, 3), (60, .istore 5, 2), (62, .aload_n 0, 1), (63, .dup, 1), (64, .getfield 41, 3), (67, .iconst 1, 1), (68, .iadd, 1), (69, .putfield 41, 3), (72, .aload_n 0, 1), (73, .iload_n 1, 1), (74, .iconst 1, 1), (75, .iadd, 1), (76, .iload_n 2, 1), (77, .invokevirtual 47, 3), (80, .ifCond .ne 5, 3), (83, .iconst 0, 1), (84, .ireturn, 1), (85, .aload_n 0, 1), (86, .iload 5, 2), (88, .ineg, 1), (89, .invokevirtual 63, 3), (92, .iinc 4 1, 3), (95, .goto (-56), 3), (98, .iconst 1, 1), (99, .ireturn, 1)]
theorem DX3_readLevel : ∀ q ∈ IX3_readLevel, decode cX3_readLevel q.1 = .ok q.2 := by decide +kernel
def IX3_readItem : List (Nat × Instr × Nat) := [(0, .aload_n 0, 1), (1, .invokevirtual 55, 3), (4, .istore_n 2, 1), (5, .iload_n 2, 1), (6, .invokestatic 67, 3), (9, .ifCond .eq 13, 3), (12, .aload_n 0, 1), (13, .aload_n 0, 1), (14, .invokevirtual 70, 3), (17, .invokevirtual 63, 3), (20, .iconst 1, 1), (21, .ireturn, 1), (22, .aload_n 0, 1), (23, .iload_n 2, 1), (24, .invokevirtual 73, 3), (27, .istore_n 3, 1), (28, .iload_n 3, 1), (29, .ifCond .ge 20, 3), (32, .aload_n 0, 1), (33, .dup, 1), (34, .getfield 41, 3), (37, .iconst 1, 1), (38, .iadd, 1), (39, .putfield 41, 3), (42, .aload_n 0, 1), (43, .iload_n 3, 1), (44, .invokevirtual 63, 3), (47, .iconst 1, 1), (48, .ireturn, 1), (49, .iload_n 1, 1), (50, .iconst 5, 1), (51, .if_icmp .ge 15, 3), (54, .iload_n 2, 1), (55, .bipush 33, 2), (57, .if_icmp .eq 11, 3), (60, .iload_n 2, 1), (61, .bipush 40, 2), (63, .if_icmp .eq 5, 3), (66, .iconst 0, 1), (67, .ireturn, 1), (68, .aload_n 0, 1), (69, .dup, 1), (70, .getfield 41, 3), (73, .iconst 1, 1), (74, .iadd, 1), (75, .putfield 41, 3), (78, .iload_n 2, 1), (79, .bipush 33, 2), (81, .if_icmp .ne 13, 3), (84, .aload_n 0, 1), (85, .iload_n 1, 1), (86, .iconst 1, 1), (87, .iadd, 1), (88, .invokevirtual 76, 3), (91, .goto 10, 3), (94, .aload_n 0, 1), (95, .iload_n 1, 1), (96, .iconst 1, 1), (97, .iadd, 1), (98, .invokevirtual 79, 3), (101, .ireturn, 1)]
theorem DX3_readItem : ∀ q ∈ IX3_readItem, decode cX3_readItem q.1 = .ok q.2 := by decide +kernel
def IX3_readDenied : List (Nat × Instr × Nat) := [(0, .aload_n 0, 1), (1, .iload_n 1, 1), (2, .invokevirtual 51, 3), (5, .ifCond .ne 5, 3), (8, .iconst 0, 1), (9, .ireturn, 1), (10, .aload_n 0, 1), (11, .bipush (-33), 2), (13, .invokevirtual 63, 3), (16, .iconst 1, 1), (17, .ireturn, 1)]
theorem DX3_readDenied : ∀ q ∈ IX3_readDenied, decode cX3_readDenied q.1 = .ok q.2 := by decide +kernel
def IX3_readBracketed : List (Nat × Instr × Nat) := [(0, .aload_n 0, 1), (1, .iconst 0, 1), (2, .iload_n 1, 1), (3, .invokevirtual 47, 3), (6, .ifCond .eq 12, 3), (9, .aload_n 0, 1), (10, .invokevirtual 55, 3), (13, .bipush 41, 2), (15, .if_icmp .eq 5, 3), (18, .iconst 0, 1), (19, .ireturn, 1), (20, .aload_n 0, 1), (21, .dup, 1), (22, .getfield 41, 3), (25, .iconst 1, 1), (26, .iadd, 1), (27, .putfield 41, 3), (30, .iconst 1, 1), (31, .ireturn, 1)]
theorem DX3_readBracketed : ∀ q ∈ IX3_readBracketed, decode cX3_readBracketed q.1 = .ok q.2 := by decide +kernel
def IX3_readNumber : List (Nat × Instr × Nat) := [(0, .iconst 0, 1), (1, .istore_n 1, 1), (2, .iconst 0, 1), (3, .istore_n 2, 1), (4, .iload_n 2, 1), (5, .iconst 4, 1), (6, .if_icmp .ge 42, 3), (9, .aload_n 0, 1), (10, .invokevirtual 55, 3), (13, .invokestatic 67, 3), (16, .ifCond .eq 32, 3), (19, .iload_n 1, 1), (20, .bipush 10, 2), (22, .imul, 1), (23, .aload_n 0, 1), (24, .invokevirtual 55, 3), (27, .iadd, 1), (28, .bipush 48, 2), (30, .isub, 1), (31, .istore_n 1, 1), (32, .aload_n 0, 1), (33, .dup, 1), (34, .getfield 41, 3), (37, .iconst 1, 1), (38, .iadd, 1), (39, .putfield 41, 3), (42, .iinc 2 1, 3), (45, .goto (-41), 3), (48, .iload_n 1, 1), (49, .ireturn, 1)]
theorem DX3_readNumber : ∀ q ∈ IX3_readNumber, decode cX3_readNumber q.1 = .ok q.2 := by decide +kernel
def IX3_next : List (Nat × Instr × Nat) := [(0, .aload_n 0, 1), (1, .getfield 41, 3), (4, .aload_n 0, 1), (5, .getfield 28, 3), (8, .if_icmp .ge 15, 3), (11, .aload_n 0, 1), (12, .getfield 15, 3), (15, .aload_n 0, 1), (16, .getfield 41, 3), (19, .iaload, 1), (20, .goto 4, 3), (23, .iconst (-1), 1), (24, .ireturn, 1)]
theorem DX3_next : ∀ q ∈ IX3_next, decode cX3_next q.1 = .ok q.2 := by decide +kernel
def IX3_write : List (Nat × Instr × Nat) := [(0, .aload_n 0, 1), (1, .getfield 44, 3), (4, .bipush 60, 2), (6, .if_icmp .ge 23, 3), (9, .aload_n 0, 1), (10, .getfield 9, 3), (13, .aload_n 0, 1), (14, .getfield 44, 3), (17, .iload_n 1, 1), (18, .iastore, 1), (19, .aload_n 0, 1), (20, .dup, 1), (21, .getfield 44, 3), (24, .iconst 1, 1), (25, .iadd, 1), (26, .putfield 44, 3), (29, .return_, 1)]
theorem DX3_write : ∀ q ∈ IX3_write, decode cX3_write q.1 = .ok q.2 := by decide +kernel
def IX3_isDigit : List (Nat × Instr × Nat) := [(0, .iload_n 0, 1), (1, .bipush 48, 2), (3, .if_icmp .lt 13, 3), (6, .iload_n 0, 1), (7, .bipush 57, 2), (9, .if_icmp .gt 7, 3), (12, .iconst 1, 1), (13, .goto 4, 3), (16, .iconst 0, 1), (17, .ireturn, 1)]
theorem DX3_isDigit : ∀ q ∈ IX3_isDigit, decode cX3_isDigit q.1 = .ok q.2 := by decide +kernel
def IX3_nameOf : List (Nat × Instr × Nat) := [(0, .iconst 0, 1), (1, .istore_n 2, 1), (2, .iload_n 2, 1), (3, .iconst 3, 1), (4, .if_icmp .ge 41, 3), (7, .aload_n 0, 1), (8, .getfield 38, 3), (11, .iconst 3, 1), (12, .imul, 1), (13, .iload_n 2, 1), (14, .iadd, 1), (15, .istore_n 3, 1), (16, .iload_n 3, 1), (17, .ldc 82, 2), (19, .invokevirtual 84, 3), (22, .if_icmp .ge 17, 3), (25, .ldc 82, 2), (27, .iload_n 3, 1), (28, .invokevirtual 89, 3), (31, .iload_n 1, 1), (32, .if_icmp .ne 7, 3), (35, .iconst (-1), 1), (36, .iload_n 2, 1), (37, .isub, 1), (38, .ireturn, 1), (39, .iinc 2 1, 3), (42, .goto (-40), 3), (45, .iconst 0, 1), (46, .ireturn, 1)]
theorem DX3_nameOf : ∀ q ∈ IX3_nameOf, decode cX3_nameOf q.1 = .ok q.2 := by decide +kernel
def IX3_levelOf : List (Nat × Instr × Nat) := [(0, .iload_n 0, 1), (1, .lookupswitch 101 #[(37, 99), (38, 93), (42, 99), (43, 97), (45, 97), (47, 99), (60, 95), (61, 95), (62, 95), (124, 91)], 91), (92, .iconst 0, 1), (93, .ireturn, 1), (94, .iconst 1, 1), (95, .ireturn, 1), (96, .iconst 2, 1), (97, .ireturn, 1), (98, .iconst 3, 1), (99, .ireturn, 1), (100, .iconst 4, 1), (101, .ireturn, 1), (102, .iconst 5, 1), (103, .ireturn, 1)]
theorem DX3_levelOf : ∀ q ∈ IX3_levelOf, decode cX3_levelOf q.1 = .ok q.2 := by decide +kernel
def IX4_init : List (Nat × Instr × Nat) := [(0, .aload_n 0, 1), (1, .invokespecial 3, 3), (4, .aload_n 0, 1), (5, .bipush 24, 2), (7, .newarray .int, 2), (9, .putfield 9, 3), (12, .return_, 1)]
theorem DX4_init : ∀ q ∈ IX4_init, decode cX4_init q.1 = .ok q.2 := by decide +kernel
def IX4_lay : List (Nat × Instr × Nat) := [(0, .aload_n 0, 1), (1, .iload_n 1, 1), (2, .putfield 15, 3), (5, .aload_n 0, 1), (6, .iload_n 2, 1), (7, .putfield 19, 3), (10, .aload_n 0, 1), (11, .getfield 9, 3), (14, .iconst 0, 1), (15, .invokestatic 22, 3), (18, .return_, 1)]
theorem DX4_lay : ∀ q ∈ IX4_lay, decode cX4_lay q.1 = .ok q.2 := by decide +kernel
def IX4_isMissing : List (Nat × Instr × Nat) := [(0, .aload_n 0, 1), (1, .getfield 15, 3), (4, .ifCond .ne 7, 3), (7, .iconst 1, 1), (8, .goto 4, 3), (11, .iconst 0, 1), (12, .ireturn, 1)]
theorem DX4_isMissing : ∀ q ∈ IX4_isMissing, decode cX4_isMissing q.1 = .ok q.2 := by decide +kernel
def IX4_has : List (Nat × Instr × Nat) := [(0, .iload_n 1, 1), (1, .ifCond .lt 29, 3), (4, .iload_n 2, 1), (5, .ifCond .lt 25, 3), (8, .iload_n 2, 1), (9, .aload_n 0, 1), (10, .getfield 19, 3), (13, .if_icmp .gt 17, 3), (16, .iload_n 1, 1), (17, .aload_n 0, 1), (18, .getfield 19, 3), (21, .iload_n 2, 1), (22, .isub, 1), (23, .if_icmp .gt 7, 3), (26, .iconst 1, 1), (27, .goto 4, 3), (30, .iconst 0, 1), (31, .ireturn, 1)]
theorem DX4_has : ∀ q ∈ IX4_has, decode cX4_has q.1 = .ok q.2 := by decide +kernel
def IX4_lowestBits : List (Nat × Instr × Nat) := [(0, .aload_n 0, 1), (1, .getfield 15, 3), (4, .bipush 32, 2), (6, .if_icmp .ne 7, 3), (9, .iload_n 1, 1), (10, .goto 24, 3), (13, .aload_n 0, 1), (14, .getfield 15, 3), (17, .bipush 16, 2), (19, .if_icmp .ne 10, 3), (22, .iload_n 1, 1), (23, .ldc 28, 2), (25, .iand, 1), (26, .goto 8, 3), (29, .iload_n 1, 1), (30, .sipush 255, 3), (33, .iand, 1), (34, .ireturn, 1)]
theorem DX4_lowestBits : ∀ q ∈ IX4_lowestBits, decode cX4_lowestBits q.1 = .ok q.2 := by decide +kernel
def IX5_safest : List (Nat × Instr × Nat) := [(0, .bipush 99, 2), (2, .istore_n 2, 1), (3, .iload_n 2, 1), (4, .ifCond .le 20, 3), (7, .aload_n 0, 1), (8, .iload_n 1, 1), (9, .iload_n 2, 1), (10, .invokestatic 9, 3), (13, .ifCond .eq 5, 3), (16, .iload_n 2, 1), (17, .ireturn, 1), (18, .iinc 2 (-1), 3), (21, .goto (-18), 3), (24, .iconst 0, 1), (25, .ireturn, 1)]
theorem DX5_safest : ∀ q ∈ IX5_safest, decode cX5_safest q.1 = .ok q.2 := by decide +kernel
def IX5_isSafe : List (Nat × Instr × Nat) := [(0, .iconst 0, 1), (1, .istore_n 3, 1), (2, .iload_n 3, 1), (3, .bipush 10, 2), (5, .if_icmp .ge 26, 3), (8, .aload_n 0, 1), (9, .iload_n 1, 1), (10, .iload_n 2, 1), (11, .iload_n 3, 1), (12, .aload_n 0, 1), (13, .getfield 15, 3), (16, .invokevirtual 21, 3), (19, .iload_n 2, 1), (20, .if_icmp .ge 5, 3), (23, .iconst 0, 1), (24, .ireturn, 1), (25, .iinc 3 1, 3), (28, .goto (-26), 3), (31, .iconst 1, 1), (32, .ireturn, 1)]
theorem DX5_isSafe : ∀ q ∈ IX5_isSafe, decode cX5_isSafe q.1 = .ok q.2 := by decide +kernel
def IX5_bestToSell : List (Nat × Instr × Nat) := [(0, .iconst 0, 1), (1, .istore_n 2, 1), (2, .aload_n 0, 1), (3, .iload_n 1, 1), (4, .iconst 0, 1), (5, .invokestatic 25, 3), (8, .istore_n 3, 1), (9, .iconst 1, 1), (10, .istore 4, 2), (12, .iload 4, 2), (14, .bipush 99, 2), (16, .if_icmp .gt 30, 3), (19, .aload_n 0, 1), (20, .iload_n 1, 1), (21, .iload 4, 2), (23, .invokestatic 25, 3), (26, .istore 5, 2), (28, .iload 5, 2), (30, .iload_n 3, 1), (31, .if_icmp .le 9, 3), (34, .iload 5, 2), (36, .istore_n 3, 1), (37, .iload 4, 2), (39, .istore_n 2, 1), (40, .iinc 4 1, 3), (43, .goto (-31), 3), (46, .iload_n 2, 1), (47, .ireturn, 1)]
theorem DX5_bestToSell : ∀ q ∈ IX5_bestToSell, decode cX5_bestToSell q.1 = .ok q.2 := by decide +kernel
def IX5_gain : List (Nat × Instr × Nat) := [(0, .bipush 10, 2), (2, .iload_n 2, 1), (3, .imul, 1), (4, .aload_n 0, 1), (5, .iload_n 1, 1), (6, .iconst 0, 1), (7, .invokevirtual 29, 3), (10, .imul, 1), (11, .istore_n 3, 1), (12, .iconst 0, 1), (13, .istore 4, 2), (15, .iload 4, 2), (17, .bipush 10, 2), (19, .if_icmp .ge 43, 3), (22, .iconst 0, 1), (23, .iload_n 2, 1), (24, .aload_n 0, 1), (25, .iload_n 1, 1), (26, .iload_n 2, 1), (27, .iload 4, 2), (29, .aload_n 0, 1), (30, .getfield 15, 3), (33, .invokevirtual 21, 3), (36, .isub, 1), (37, .invokestatic 33, 3), (40, .istore 5, 2), (42, .iload_n 3, 1), (43, .iconst 2, 1), (44, .aload_n 0, 1), (45, .getfield 38, 3), (48, .iload_n 1, 1), (49, .iaload, 1), (50, .imul, 1), (51, .iload 5, 2), (53, .imul, 1), (54, .isub, 1), (55, .istore_n 3, 1), (56, .iinc 4 1, 3), (59, .goto (-44), 3), (62, .iload_n 3, 1), (63, .ireturn, 1)]
theorem DX5_gain : ∀ q ∈ IX5_gain, decode cX5_gain q.1 = .ok q.2 := by decide +kernel
def IX5_agreesWithItself : List (Nat × Instr × Nat) := [(0, .aload_n 0, 1), (1, .iload_n 1, 1), (2, .iload_n 2, 1), (3, .aload_n 0, 1), (4, .getfield 42, 3), (7, .aload_n 0, 1), (8, .getfield 15, 3), (11, .invokevirtual 21, 3), (14, .iload_n 2, 1), (15, .if_icmp .ne 7, 3), (18, .iconst 1, 1), (19, .goto 4, 3), (22, .iconst 0, 1), (23, .ireturn, 1)]
theorem DX5_agreesWithItself : ∀ q ∈ IX5_agreesWithItself, decode cX5_agreesWithItself q.1 = .ok q.2 := by decide +kernel
def IX5_howManyAgree : List (Nat × Instr × Nat) := [(0, .iconst 0, 1), (1, .istore_n 2, 1), (2, .iconst 0, 1), (3, .istore_n 3, 1), (4, .iload_n 3, 1), (5, .bipush 99, 2), (7, .if_icmp .gt 21, 3), (10, .aload_n 0, 1), (11, .iload_n 1, 1), (12, .iload_n 3, 1), (13, .invokestatic 45, 3), (16, .ifCond .eq 6, 3), (19, .iinc 2 1, 3), (22, .iinc 3 1, 3), (25, .goto (-21), 3), (28, .iload_n 2, 1), (29, .ireturn, 1)]
theorem DX5_howManyAgree : ∀ q ∈ IX5_howManyAgree, decode cX5_howManyAgree q.1 = .ok q.2 := by decide +kernel
def IX5_leastThatAgrees : List (Nat × Instr × Nat) := [(0, .iconst 0, 1), (1, .istore_n 2, 1), (2, .iload_n 2, 1), (3, .bipush 99, 2), (5, .if_icmp .gt 20, 3), (8, .aload_n 0, 1), (9, .iload_n 1, 1), (10, .iload_n 2, 1), (11, .invokestatic 45, 3), (14, .ifCond .eq 5, 3), (17, .iload_n 2, 1), (18, .ireturn, 1), (19, .iinc 2 1, 3), (22, .goto (-20), 3), (25, .iconst (-1), 1), (26, .ireturn, 1)]
theorem DX5_leastThatAgrees : ∀ q ∈ IX5_leastThatAgrees, decode cX5_leastThatAgrees q.1 = .ok q.2 := by decide +kernel
def IX5_fewestBoats : List (Nat × Instr × Nat) := [(0, .iconst (-1), 1), (1, .istore_n 1, 1), (2, .iconst 0, 1), (3, .istore_n 2, 1), (4, .iload_n 2, 1), (5, .iconst 1, 1), (6, .aload_n 0, 1), (7, .getfield 48, 3), (10, .ishl, 1), (11, .if_icmp .ge 44, 3), (14, .iload_n 1, 1), (15, .ifCond .lt 14, 3), (18, .iload_n 2, 1), (19, .invokestatic 51, 3), (22, .iload_n 1, 1), (23, .invokestatic 51, 3), (26, .if_icmp .ge 7, 3), (29, .iconst 1, 1), (30, .goto 4, 3), (33, .iconst 0, 1), (34, .istore_n 3, 1), (35, .iload_n 3, 1), (36, .ifCond .eq 13, 3), (39, .aload_n 0, 1), (40, .iload_n 2, 1), (41, .invokestatic 57, 3), (44, .ifCond .eq 5, 3), (47, .iload_n 2, 1), (48, .istore_n 1, 1), (49, .iinc 2 1, 3), (52, .goto (-48), 3), (55, .iload_n 1, 1), (56, .ireturn, 1)]
theorem DX5_fewestBoats : ∀ q ∈ IX5_fewestBoats, decode cX5_fewestBoats q.1 = .ok q.2 := by decide +kernel
def IX5_isEnough : List (Nat × Instr × Nat) := [(0, .iconst 0, 1), (1, .istore_n 2, 1), (2, .iload_n 2, 1), (3, .iconst 4, 1), (4, .if_icmp .ge 75, 3), (7, .iconst 0, 1), (8, .istore_n 3, 1), (9, .iconst 0, 1), (10, .istore 4, 2), (12, .iload 4, 2), (14, .aload_n 0, 1), (15, .getfield 48, 3), (18, .if_icmp .ge 43, 3), (21, .iload_n 1, 1), (22, .iload 4, 2), (24, .ishr, 1), (25, .iconst 1, 1), (26, .iand, 1), (27, .iconst 1, 1), (28, .if_icmp .ne 27, 3), (31, .iload_n 3, 1), (32, .aload_n 0, 1), (33, .iload 4, 2), (35, .iload_n 2, 1), (36, .aload_n 0, 1), (37, .getfield 61, 3), (40, .iload_n 2, 1), (41, .iaload, 1), (42, .aload_n 0, 1), (43, .getfield 42, 3), (46, .aload_n 0, 1), (47, .getfield 15, 3), (50, .invokevirtual 64, 3), (53, .iadd, 1), (54, .istore_n 3, 1), (55, .iinc 4 1, 3), (58, .goto (-46), 3), (61, .iload_n 3, 1), (62, .aload_n 0, 1), (63, .getfield 61, 3), (66, .iload_n 2, 1), (67, .iaload, 1), (68, .if_icmp .ge 5, 3), (71, .iconst 0, 1), (72, .ireturn, 1), (73, .iinc 2 1, 3), (76, .goto (-74), 3), (79, .iconst 1, 1), (80, .ireturn, 1)]
theorem DX5_isEnough : ∀ q ∈ IX5_isEnough, decode cX5_isEnough q.1 = .ok q.2 := by decide +kernel
def IX5_daysUntil : List (Nat × Instr × Nat) := [(0, .iconst 0, 1), (1, .istore_n 3, 1), (2, .iload_n 3, 1), (3, .bipush 60, 2), (5, .if_icmp .gt 31, 3), (8, .aload_n 0, 1), (9, .iload_n 1, 1), (10, .iload_n 2, 1), (11, .aload_n 0, 1), (12, .getfield 42, 3), (15, .aload_n 0, 1), (16, .getfield 15, 3), (19, .iload_n 3, 1), (20, .iadd, 1), (21, .invokevirtual 21, 3), (24, .iload_n 2, 1), (25, .if_icmp .lt 5, 3), (28, .iload_n 3, 1), (29, .ireturn, 1), (30, .iinc 3 1, 3), (33, .goto (-31), 3), (36, .iconst (-1), 1), (37, .ireturn, 1)]
theorem DX5_daysUntil : ∀ q ∈ IX5_daysUntil, decode cX5_daysUntil q.1 = .ok q.2 := by decide +kernel
def IX5_seasThatDo : List (Nat × Instr × Nat) := [(0, .iconst 0, 1), (1, .istore_n 3, 1), (2, .iconst 0, 1), (3, .istore 4, 2), (5, .iload 4, 2), (7, .bipush 10, 2), (9, .if_icmp .ge 28, 3), (12, .aload_n 0, 1), (13, .iload_n 1, 1), (14, .iload_n 2, 1), (15, .iload 4, 2), (17, .aload_n 0, 1), (18, .getfield 15, 3), (21, .invokevirtual 21, 3), (24, .iload_n 2, 1), (25, .if_icmp .lt 6, 3), (28, .iinc 3 1, 3), (31, .iinc 4 1, 3), (34, .goto (-29), 3), (37, .iload_n 3, 1), (38, .ireturn, 1)]
theorem DX5_seasThatDo : ∀ q ∈ IX5_seasThatDo, decode cX5_seasThatDo q.1 = .ok q.2 := by decide +kernel
def IX5_caughtInAllSeas : List (Nat × Instr × Nat) := [(0, .iconst 0, 1), (1, .istore_n 2, 1), (2, .iconst 0, 1), (3, .istore_n 3, 1), (4, .iload_n 3, 1), (5, .bipush 10, 2), (7, .if_icmp .ge 28, 3), (10, .iload_n 2, 1), (11, .aload_n 0, 1), (12, .iload_n 1, 1), (13, .aload_n 0, 1), (14, .getfield 61, 3), (17, .iload_n 1, 1), (18, .iaload, 1), (19, .iload_n 3, 1), (20, .aload_n 0, 1), (21, .getfield 15, 3), (24, .invokevirtual 21, 3), (27, .iadd, 1), (28, .istore_n 2, 1), (29, .iinc 3 1, 3), (32, .goto (-28), 3), (35, .iload_n 2, 1), (36, .ireturn, 1)]
theorem DX5_caughtInAllSeas : ∀ q ∈ IX5_caughtInAllSeas, decode cX5_caughtInAllSeas q.1 = .ok q.2 := by decide +kernel
def IX5_seasThatFit : List (Nat × Instr × Nat) := [(0, .iconst 0, 1), (1, .istore_n 2, 1), (2, .iconst 0, 1), (3, .istore_n 3, 1), (4, .iload_n 3, 1), (5, .bipush 10, 2), (7, .if_icmp .ge 24, 3), (10, .aload_n 0, 1), (11, .aload_n 1, 1), (12, .iload_n 3, 1), (13, .invokestatic 68, 3), (16, .ifCond .eq 9, 3), (19, .iload_n 2, 1), (20, .iconst 1, 1), (21, .iload_n 3, 1), (22, .ishl, 1), (23, .ior, 1), (24, .istore_n 2, 1), (25, .iinc 3 1, 3), (28, .goto (-24), 3), (31, .iload_n 2, 1), (32, .ireturn, 1)]
theorem DX5_seasThatFit : ∀ q ∈ IX5_seasThatFit, decode cX5_seasThatFit q.1 = .ok q.2 := by decide +kernel
def IX5_isSoBy : List (Nat × Instr × Nat) := [(0, .aload_n 1, 1), (1, .getfield 72, 3), (4, .iconst 4, 1), (5, .if_icmp .le 5, 3), (8, .iconst 0, 1), (9, .ireturn, 1), (10, .iconst 0, 1), (11, .istore_n 3, 1), (12, .iload_n 3, 1), (13, .aload_n 1, 1), (14, .getfield 72, 3), (17, .if_icmp .ge 36, 3), (20, .aload_n 0, 1), (21, .iload_n 3, 1), (22, .aload_n 0, 1), (23, .getfield 61, 3), (26, .iload_n 3, 1), (27, .iaload, 1), (28, .iload_n 2, 1), (29, .aload_n 0, 1), (30, .getfield 15, 3), (33, .invokevirtual 21, 3), (36, .aload_n 1, 1), (37, .getfield 77, 3), (40, .iload_n 3, 1), (41, .iaload, 1), (42, .if_icmp .eq 5, 3), (45, .iconst 0, 1), (46, .ireturn, 1), (47, .iinc 3 1, 3), (50, .goto (-38), 3), (53, .iconst 1, 1), (54, .ireturn, 1)]
theorem DX5_isSoBy : ∀ q ∈ IX5_isSoBy, decode cX5_isSoBy q.1 = .ok q.2 := by decide +kernel
def IX5_partOfTenths : List (Nat × Instr × Nat) := [(0, .iconst 1, 1), (1, .istore_n 2, 1), (2, .iconst 2, 1), (3, .istore_n 3, 1), (4, .iload_n 3, 1), (5, .bipush 10, 2), (7, .if_icmp .gt 24, 3), (10, .iload_n 0, 1), (11, .iload_n 3, 1), (12, .irem, 1), (13, .ifCond .ne 12, 3), (16, .bipush 10, 2), (18, .iload_n 3, 1), (19, .irem, 1), (20, .ifCond .ne 5, 3), (23, .iload_n 3, 1), (24, .istore_n 2, 1), (25, .iinc 3 1, 3), (28, .goto (-24), 3), (31, .iload_n 1, 1), (32, .ifCond .ne 7, 3), (35, .iload_n 0, 1), (36, .goto 5, 3), (39, .bipush 10, 2), (41, .iload_n 2, 1), (42, .idiv, 1), (43, .ireturn, 1)]
theorem DX5_partOfTenths : ∀ q ∈ IX5_partOfTenths, decode cX5_partOfTenths q.1 = .ok q.2 := by decide +kernel
def IX6_init : List (Nat × Instr × Nat) := [(0, .aload_n 0, 1), (1, .invokespecial 3, 3), (4, .aload_n 0, 1), (5, .bipush 30, 2), (7, .newarray .int, 2), (9, .putfield 9, 3), (12, .return_, 1)]
theorem DX6_init : ∀ q ∈ IX6_init, decode cX6_init q.1 = .ok q.2 := by decide +kernel
def IX6_hear : List (Nat × Instr × Nat) := [(0, .aload_n 0, 1), (1, .aload_n 1, 1), (2, .getfield 15, 3), (5, .putfield 21, 3), (8, .aload_n 0, 1), (9, .aload_n 1, 1), (10, .getfield 22, 3), (13, .putfield 25, 3), (16, .aload_n 0, 1), (17, .iload_n 2, 1), (18, .putfield 26, 3), (21, .aload_n 0, 1), (22, .iconst 0, 1), (23, .putfield 29, 3), (26, .aload_n 0, 1), (27, .iconst 0, 1), (28, .putfield 32, 3), (31, .aload_n 0, 1), (32, .aload_n 0, 1), (33, .getfield 21, 3), (36, .iload_n 3, 1), (37, .iload 4, 2), (39, .iconst 0, 1), (40, .invokevirtual 36, 3), (43, .ireturn, 1)]
theorem DX6_hear : ∀ q ∈ IX6_hear, decode cX6_hear q.1 = .ok q.2 := by decide +kernel
def IX6_speak : List (Nat × Instr × Nat) := [(0, .aload_n 0, 1), (1, .getfield 32, 3), (4, .ifCond .eq 5, 3), (7, .iconst 0, 1), (8, .ireturn, 1), (9, .iload_n 1, 1), (10, .istore 5, 2), (12, .iconst 0, 1), (13, .istore 6, 2), (15, .iload 6, 2), (17, .bipush 7, 2), (19, .if_icmp .ge 35, 3), (22, .iload 5, 2), (24, .ifCond .le 30, 3), (27, .getstatic 40, 3), (30, .iload 5, 2), (32, .iconst 4, 1), (33, .imul, 1), (34, .iload_n 2, 1), (35, .iadd, 1), (36, .iaload, 1), (37, .ifCond .ne 17, 3), (40, .getstatic 43, 3), (43, .iload 5, 2), (45, .iaload, 1), (46, .istore 5, 2), (48, .iinc 6 1, 3), (51, .goto (-36), 3), (54, .iload 5, 2), (56, .ifCond .lt 10, 3), (59, .iload 4, 2), (61, .bipush 30, 2), (63, .if_icmp .le 5, 3), (66, .iconst 0, 1), (67, .ireturn, 1), (68, .getstatic 40, 3), (71, .iload 5, 2), (73, .iconst 4, 1), (74, .imul, 1), (75, .iload_n 2, 1), (76, .iadd, 1), (77, .iaload, 1), (78, .istore 6, 2), (80, .aload_n 0, 1), (81, .getfield 29, 3), (84, .bipush 30, 2), (86, .if_icmp .ge 24, 3), (89, .aload_n 0, 1), (90, .getfield 9, 3), (93, .aload_n 0, 1), (94, .getfield 29, 3), (97, .iload 6, 2), (99, .iastore, 1), (100, .aload_n 0, 1), (101, .dup, 1), (102, .getfield 29, 3), (105, .iconst 1, 1), (106, .iadd, 1), (107, .putfield 29, 3), (110, .aload_n 0, 1), (111, .iload 6, 2), (113, .getstatic 43, 3), (116, .iload 5, 2), (118, .iaload, 1), (119, .iload_n 3, 1), (120, .iload 4, 2), (122, .iconst 1, 1), (123, .iadd, 1), (124, .invokevirtual 46, 3), (127, .ireturn, 1)]
theorem DX6_speak : ∀ q ∈ IX6_speak, decode cX6_speak q.1 = .ok q.2 := by decide +kernel
def IX6_say_p1 : List (Nat × Instr × Nat) := [(0, .iload_n 1, 1), (1, .lookupswitch 266 #[(10, 107), (11, 114), (12, 129), (13, 147), (20, 153), (21, 165), (30, 188), (40, 200), (50, 212), (51, 224), (60, 239), (71, 251)], 107), (108, .iload_n 3, 1), (109, .aload_n 0, 1), (110, .getfield 26, 3), (113, .iadd, 1), (114, .ireturn, 1), (115, .aload_n 0, 1), (116, .aload_n 0, 1), (117, .getfield 21, 3), (120, .iconst 0, 1), (121, .iload_n 3, 1), (122, .iload 4, 2), (124, .invokevirtual 36, 3), (127, .iconst 2, 1), (128, .imul, 1), (129, .ireturn, 1), (130, .aload_n 0, 1), (131, .aload_n 0, 1), (132, .getfield 21, 3), (135, .iconst 1, 1), (136, .iload_n 3, 1), (137, .iload 4, 2), (139, .invokevirtual 36, 3), (142, .aload_n 0, 1), (143, .getfield 25, 3), (146, .isub, 1), (147, .ireturn, 1), (148, .aload_n 0, 1), (149, .iload_n 3, 1), (150, .invokevirtual 49, 3), (153, .ireturn, 1), (154, .aload_n 0, 1), (155, .iload_n 2, 1), (156, .iconst 0, 1), (157, .iload_n 3, 1), (158, .iload 4, 2), (160, .invokevirtual 36, 3), (163, .iconst 4, 1), (164, .isub, 1), (165, .ireturn, 1), (166, .aload_n 0, 1), (167, .iload_n 2, 1), (168, .iconst 3, 1), (169, .iload_n 3, 1), (170, .iload 4, 2), (172, .invokevirtual 36, 3), (175, .aload_n 0, 1), (176, .aload_n 0, 1), (177, .getfield 21, 3), (180, .iconst 1, 1), (181, .iconst 1, 1), (182, .iload 4, 2), (184, .invokevirtual 36, 3), (187, .iadd, 1), (188, .ireturn, 1), (189, .iconst 0, 1), (190, .aload_n 0, 1), (191, .iload_n 2, 1), (192, .iconst 1, 1), (193, .iload_n 3, 1), (194, .iload 4, 2), (196, .invokevirtual 36, 3), (199, .isub, 1), (200, .ireturn, 1), (201, .aload_n 0, 1), (202, .iload_n 2, 1), (203, .iconst 2, 1), (204, .iload_n 3, 1), (205, .iconst 2, 1), (206, .idiv, 1), (207, .iload 4, 2), (209, .invokevirtual 36, 3), (212, .ireturn, 1), (213, .aload_n 0, 1), (214, .iload_n 2, 1), (215, .iconst 0, 1), (216, .iload_n 3, 1), (217, .iload 4, 2), (219, .invokevirtual 36, 3), (222, .iconst 3, 1), (223, .imul, 1), (224, .ireturn, 1), (225, .aload_n 0, 1), (226, .iload_n 2, 1), (227, .iconst 2, 1), (228, .iload_n 3, 1), (229, .iload 4, 2), (231, .invokevirtual 36, 3), (234, .aload_n 0, 1), (235, .getfield 26, 3), (238, .ixor, 1), (239, .ireturn, 1), (240, .aload_n 0, 1), (241, .iload_n 2, 1), (242, .iconst 1, 1), (243, .iload_n 3, 1), (244, .iconst 1, 1), (245, .iadd, 1), (246, .iload 4, 2)]
theorem DX6_say_p1 : ∀ q ∈ IX6_say_p1, decode cX6_say q.1 = .ok q.2 := by decide +kernel
def IX6_say_p2 : List (Nat × Instr × Nat) := [(248, .invokevirtual 36, 3), (251, .ireturn, 1), (252, .aload_n 0, 1), (253, .iload_n 2, 1), (254, .iconst 1, 1), (255, .iload_n 3, 1), (256, .iload 4, 2), (258, .invokevirtual 36, 3), (261, .aload_n 0, 1), (262, .getfield 25, 3), (265, .iadd, 1), (266, .ireturn, 1), (267, .bipush 9, 2), (269, .ireturn, 1)]
theorem DX6_say_p2 : ∀ q ∈ IX6_say_p2, decode cX6_say q.1 = .ok q.2 := by decide +kernel
def IX6_part : List (Nat × Instr × Nat) := [(0, .aload_n 0, 1), (1, .getfield 25, 3), (4, .aload_n 0, 1), (5, .getfield 26, 3), (8, .isub, 1), (9, .istore_n 2, 1), (10, .iload_n 2, 1), (11, .ifCond .ne 10, 3), (14, .aload_n 0, 1), (15, .iconst 1, 1), (16, .putfield 32, 3), (19, .iconst 0, 1), (20, .ireturn, 1), (21, .iload_n 1, 1), (22, .iload_n 2, 1), (23, .idiv, 1), (24, .ireturn, 1)]
theorem DX6_part : ∀ q ∈ IX6_part, decode cX6_part q.1 = .ok q.2 := by decide +kernel
def IX7_init : List (Nat × Instr × Nat) := [(0, .aload_n 0, 1), (1, .invokespecial 3, 3), (4, .aload_n 0, 1), (5, .new 9, 3), (8, .dup, 1), (9, .invokespecial 11, 3), (12, .putfield 12, 3), (15, .aload_n 0, 1), (16, .new 9, 3), (19, .dup, 1), (20, .invokespecial 11, 3), (23, .putfield 16, 3), (26, .aload_n 0, 1), (27, .new 19, 3), (30, .dup, 1), (31, .invokespecial 21, 3), (34, .putfield 22, 3), (37, .aload_n 0, 1), (38, .new 26, 3), (41, .dup, 1), (42, .invokespecial 28, 3), (45, .putfield 29, 3), (48, .aload_n 0, 1), (49, .iconst 4, 1), (50, .anewarray 33, 3), (53, .putfield 35, 3), (56, .aload_n 0, 1), (57, .bipush 7, 2), (59, .newarray .int, 2), (61, .putfield 39, 3), (64, .iconst 0, 1), (65, .istore_n 1, 1), (66, .iload_n 1, 1), (67, .iconst 4, 1), (68, .if_icmp .ge 22, 3), (71, .aload_n 0, 1), (72, .getfield 35, 3), (75, .iload_n 1, 1), (76, .new 33, 3), (79, .dup, 1), (80, .invokespecial 43, 3), (83, .aastore, 1), (84, .iinc 1 1, 3), (87, .goto (-21), 3), (90, .return_, 1)]
theorem DX7_init : ∀ q ∈ IX7_init, decode cX7_init q.1 = .ok q.2 := by decide +kernel
def IX7_boat : List (Nat × Instr × Nat) := [(0, .iload_n 1, 1), (1, .invokestatic 44, 3), (4, .ifCond .ne 10, 3), (7, .aload_n 0, 1), (8, .ldc 48, 2), (10, .invokevirtual 49, 3), (13, .ireturn, 1), (14, .aload_n 0, 1), (15, .getfield 12, 3), (18, .getfield 53, 3), (21, .bipush 6, 2), (23, .if_icmp .lt 10, 3), (26, .aload_n 0, 1), (27, .ldc 57, 2), (29, .invokevirtual 49, 3), (32, .ireturn, 1), (33, .aload_n 0, 1), (34, .getfield 12, 3), (37, .getfield 53, 3), (40, .istore_n 2, 1), (41, .aload_n 0, 1), (42, .getfield 12, 3), (45, .getfield 58, 3), (48, .iload_n 2, 1), (49, .aaload, 1), (50, .iload_n 1, 1), (51, .invokevirtual 62, 3), (54, .aload_n 0, 1), (55, .getfield 12, 3), (58, .getfield 58, 3), (61, .iload_n 2, 1), (62, .aaload, 1), (63, .iconst 0, 1), (64, .putfield 68, 3), (67, .aload_n 0, 1), (68, .getfield 12, 3), (71, .dup, 1), (72, .getfield 53, 3), (75, .iconst 1, 1), (76, .iadd, 1), (77, .putfield 53, 3), (80, .iload_n 2, 1), (81, .ireturn, 1)]
theorem DX7_boat : ∀ q ∈ IX7_boat, decode cX7_boat q.1 = .ok q.2 := by decide +kernel
def IX7_boatIs : List (Nat × Instr × Nat) := [(0, .aload_n 0, 1), (1, .iload_n 1, 1), (2, .invokevirtual 71, 3), (5, .ifCond .eq 12, 3), (8, .iload_n 2, 1), (9, .bipush 7, 2), (11, .invokestatic 74, 3), (14, .ifCond .ne 10, 3), (17, .aload_n 0, 1), (18, .ldc 48, 2), (20, .invokevirtual 49, 3), (23, .ireturn, 1), (24, .aload_n 0, 1), (25, .getfield 12, 3), (28, .getfield 58, 3), (31, .iload_n 1, 1), (32, .aaload, 1), (33, .astore_n 3, 1), (34, .iload_n 2, 1), (35, .tableswitch 56 0 3 #[29, 34, 39, 44], 29), (64, .aload_n 3, 1), (65, .getfield 78, 3), (68, .ireturn, 1), (69, .aload_n 3, 1), (70, .getfield 81, 3), (73, .ireturn, 1), (74, .aload_n 3, 1), (75, .getfield 68, 3), (78, .ireturn, 1), (79, .aload_n 3, 1), (80, .aload_n 0, 1), (81, .getfield 12, 3), (84, .getfield 84, 3), (87, .invokevirtual 87, 3), (90, .ireturn, 1), (91, .iload_n 2, 1), (92, .iconst 4, 1), (93, .isub, 1), (94, .istore 4, 2), (96, .aload_n 0, 1), (97, .getfield 12, 3), (100, .iload_n 1, 1), (101, .iload 4, 2), (103, .aload_n 0, 1), (104, .getfield 12, 3), (107, .getfield 90, 3), (110, .iload 4, 2), (112, .iaload, 1), (113, .aload_n 0, 1), (114, .getfield 12, 3), (117, .getfield 93, 3), (120, .aload_n 0, 1), (121, .getfield 12, 3), (124, .getfield 84, 3), (127, .invokevirtual 96, 3), (130, .ireturn, 1)]
theorem DX7_boatIs : ∀ q ∈ IX7_boatIs, decode cX7_boatIs q.1 = .ok q.2 := by decide +kernel
def IX7_become : List (Nat × Instr × Nat) := [(0, .aload_n 0, 1), (1, .iload_n 1, 1), (2, .invokevirtual 71, 3), (5, .ifCond .eq 10, 3), (8, .iload_n 2, 1), (9, .invokestatic 44, 3), (12, .ifCond .ne 10, 3), (15, .aload_n 0, 1), (16, .ldc 48, 2), (18, .invokevirtual 49, 3), (21, .ireturn, 1), (22, .aload_n 0, 1), (23, .getfield 12, 3), (26, .getfield 58, 3), (29, .iload_n 1, 1), (30, .aaload, 1), (31, .getfield 78, 3), (34, .istore_n 3, 1), (35, .aload_n 0, 1), (36, .getfield 12, 3), (39, .getfield 58, 3), (42, .iload_n 1, 1), (43, .aaload, 1), (44, .iload_n 2, 1), (45, .invokevirtual 62, 3), (48, .iload_n 3, 1), (49, .ireturn, 1)]
theorem DX7_become : ∀ q ∈ IX7_become, decode cX7_become q.1 = .ok q.2 := by decide +kernel
def IX7_as : List (Nat × Instr × Nat) := [(0, .aload_n 0, 1), (1, .iload_n 1, 1), (2, .invokevirtual 71, 3), (5, .ifCond .eq 12, 3), (8, .iload_n 2, 1), (9, .bipush 6, 2), (11, .invokestatic 74, 3), (14, .ifCond .ne 10, 3), (17, .aload_n 0, 1), (18, .ldc 48, 2), (20, .invokevirtual 49, 3), (23, .ireturn, 1), (24, .aload_n 0, 1), (25, .getfield 12, 3), (28, .getfield 58, 3), (31, .iload_n 1, 1), (32, .aaload, 1), (33, .iload_n 2, 1), (34, .invokevirtual 100, 3), (37, .ifCond .ne 10, 3), (40, .aload_n 0, 1), (41, .ldc 103, 2), (43, .invokevirtual 49, 3), (46, .ireturn, 1), (47, .aload_n 0, 1), (48, .getfield 12, 3), (51, .getfield 58, 3), (54, .iload_n 1, 1), (55, .aaload, 1), (56, .getfield 81, 3), (59, .ireturn, 1)]
theorem DX7_as : ∀ q ∈ IX7_as, decode cX7_as q.1 = .ok q.2 := by decide +kernel
def IX7_lose : List (Nat × Instr × Nat) := [(0, .aload_n 0, 1), (1, .iload_n 1, 1), (2, .invokevirtual 71, 3), (5, .ifCond .eq 11, 3), (8, .iload_n 2, 1), (9, .iconst 1, 1), (10, .invokestatic 74, 3), (13, .ifCond .ne 10, 3), (16, .aload_n 0, 1), (17, .ldc 48, 2), (19, .invokevirtual 49, 3), (22, .ireturn, 1), (23, .aload_n 0, 1), (24, .getfield 12, 3), (27, .getfield 58, 3), (30, .iload_n 1, 1), (31, .aaload, 1), (32, .getfield 68, 3), (35, .istore_n 3, 1), (36, .aload_n 0, 1), (37, .getfield 12, 3), (40, .getfield 58, 3), (43, .iload_n 1, 1), (44, .aaload, 1), (45, .iload_n 2, 1), (46, .putfield 68, 3), (49, .iload_n 3, 1), (50, .ireturn, 1)]
theorem DX7_lose : ∀ q ∈ IX7_lose, decode cX7_lose q.1 = .ok q.2 := by decide +kernel
def IX7_rises : List (Nat × Instr × Nat) := [(0, .iload_n 1, 1), (1, .bipush 9, 2), (3, .invokestatic 74, 3), (6, .ifCond .ne 10, 3), (9, .aload_n 0, 1), (10, .ldc 48, 2), (12, .invokevirtual 49, 3), (15, .ireturn, 1), (16, .aload_n 0, 1), (17, .getfield 12, 3), (20, .getfield 93, 3), (23, .istore_n 2, 1), (24, .aload_n 0, 1), (25, .getfield 12, 3), (28, .iload_n 1, 1), (29, .putfield 93, 3), (32, .iload_n 2, 1), (33, .ireturn, 1)]
theorem DX7_rises : ∀ q ∈ IX7_rises, decode cX7_rises q.1 = .ok q.2 := by decide +kernel
def IX7_price : List (Nat × Instr × Nat) := [(0, .iload_n 1, 1), (1, .invokestatic 104, 3), (4, .ifCond .eq 12, 3), (7, .iload_n 2, 1), (8, .bipush 9, 2), (10, .invokestatic 74, 3), (13, .ifCond .ne 10, 3), (16, .aload_n 0, 1), (17, .ldc 48, 2), (19, .invokevirtual 49, 3), (22, .ireturn, 1), (23, .aload_n 0, 1), (24, .getfield 12, 3), (27, .getfield 107, 3), (30, .iload_n 1, 1), (31, .iaload, 1), (32, .istore_n 3, 1), (33, .aload_n 0, 1), (34, .getfield 12, 3), (37, .getfield 107, 3), (40, .iload_n 1, 1), (41, .iload_n 2, 1), (42, .iastore, 1), (43, .iload_n 3, 1), (44, .ireturn, 1)]
theorem DX7_price : ∀ q ∈ IX7_price, decode cX7_price q.1 = .ok q.2 := by decide +kernel
def IX7_sell : List (Nat × Instr × Nat) := [(0, .iload_n 1, 1), (1, .invokestatic 104, 3), (4, .ifCond .eq 12, 3), (7, .iload_n 2, 1), (8, .bipush 99, 2), (10, .invokestatic 74, 3), (13, .ifCond .ne 10, 3), (16, .aload_n 0, 1), (17, .ldc 48, 2), (19, .invokevirtual 49, 3), (22, .ireturn, 1), (23, .aload_n 0, 1), (24, .getfield 12, 3), (27, .getfield 90, 3), (30, .iload_n 1, 1), (31, .iaload, 1), (32, .iload_n 2, 1), (33, .iadd, 1), (34, .bipush 99, 2), (36, .if_icmp .le 10, 3), (39, .aload_n 0, 1), (40, .ldc 110, 2), (42, .invokevirtual 49, 3), (45, .ireturn, 1), (46, .aload_n 0, 1), (47, .getfield 12, 3), (50, .iload_n 1, 1), (51, .iload_n 2, 1), (52, .invokevirtual 111, 3), (55, .ireturn, 1)]
theorem DX7_sell : ∀ q ∈ IX7_sell, decode cX7_sell q.1 = .ok q.2 := by decide +kernel
def IX7_feed : List (Nat × Instr × Nat) := [(0, .iload_n 3, 1), (1, .iconst 1, 1), (2, .if_icmp .lt 9, 3), (5, .iload_n 3, 1), (6, .bipush 8, 2), (8, .if_icmp .le 10, 3), (11, .aload_n 0, 1), (12, .ldc 48, 2), (14, .invokevirtual 49, 3), (17, .ireturn, 1), (18, .aload_n 0, 1), (19, .getfield 12, 3), (22, .getfield 115, 3), (25, .iload_n 3, 1), (26, .iadd, 1), (27, .bipush 60, 2), (29, .if_icmp .le 10, 3), (32, .aload_n 0, 1), (33, .ldc 57, 2), (35, .invokevirtual 49, 3), (38, .ireturn, 1), (39, .iconst 0, 1), (40, .istore 4, 2), (42, .iload 4, 2), (44, .iload_n 3, 1), (45, .if_icmp .ge 49, 3), (48, .aload_n 0, 1), (49, .getfield 12, 3), (52, .getfield 118, 3), (55, .aload_n 0, 1), (56, .getfield 12, 3), (59, .getfield 115, 3), (62, .lload_n 1, 1), (63, .bipush 8, 2), (65, .iload 4, 2), (67, .imul, 1), (68, .lushr, 1), (69, .l2i, 1), (70, .sipush 255, 3), (73, .iand, 1), (74, .iastore, 1), (75, .aload_n 0, 1), (76, .getfield 12, 3), (79, .dup, 1), (80, .getfield 115, 3), (83, .iconst 1, 1), (84, .iadd, 1), (85, .putfield 115, 3), (88, .iinc 4 1, 3), (91, .goto (-49), 3), (94, .aload_n 0, 1), (95, .getfield 12, 3), (98, .getfield 115, 3), (101, .ireturn, 1)]
theorem DX7_feed : ∀ q ∈ IX7_feed, decode cX7_feed q.1 = .ok q.2 := by decide +kernel
def IX7_text : List (Nat × Instr × Nat) := [(0, .iload_n 1, 1), (1, .invokestatic 121, 3), (4, .ifCond .ne 10, 3), (7, .aload_n 0, 1), (8, .ldc 48, 2), (10, .invokevirtual 49, 3), (13, .ireturn, 1), (14, .aload_n 0, 1), (15, .getfield 22, 3), (18, .aload_n 0, 1), (19, .getfield 12, 3), (22, .getfield 118, 3), (25, .aload_n 0, 1), (26, .getfield 12, 3), (29, .getfield 115, 3), (32, .iload_n 1, 1), (33, .invokevirtual 124, 3), (36, .istore_n 2, 1), (37, .aload_n 0, 1), (38, .getfield 12, 3), (41, .iconst 0, 1), (42, .putfield 115, 3), (45, .iload_n 2, 1), (46, .iconst (-1), 1), (47, .if_icmp .eq 8, 3), (50, .bipush (-10), 2), (52, .iload_n 2, 1), (53, .isub, 1), (54, .ireturn, 1), (55, .aload_n 0, 1), (56, .getfield 12, 3), (59, .getfield 128, 3), (62, .iload_n 1, 1), (63, .aaload, 1), (64, .aload_n 0, 1), (65, .getfield 22, 3), (68, .getfield 132, 3), (71, .aload_n 0, 1), (72, .getfield 22, 3), (75, .getfield 135, 3), (78, .invokevirtual 138, 3), (81, .iconst 1, 1), (82, .ireturn, 1)]
theorem DX7_text : ∀ q ∈ IX7_text, decode cX7_text q.1 = .ok q.2 := by decide +kernel
def IX7_untell : List (Nat × Instr × Nat) := [(0, .iload_n 1, 1), (1, .invokestatic 121, 3), (4, .ifCond .ne 10, 3), (7, .aload_n 0, 1), (8, .ldc 48, 2), (10, .invokevirtual 49, 3), (13, .ireturn, 1), (14, .aload_n 0, 1), (15, .getfield 12, 3), (18, .getfield 128, 3), (21, .iload_n 1, 1), (22, .aaload, 1), (23, .getfield 144, 3), (26, .ifCond .eq 7, 3), (29, .iconst 1, 1), (30, .goto 4, 3), (33, .iconst 0, 1), (34, .istore_n 2, 1), (35, .aload_n 0, 1), (36, .getfield 12, 3), (39, .getfield 128, 3), (42, .iload_n 1, 1), (43, .aaload, 1), (44, .iconst 0, 1), (45, .putfield 144, 3), (48, .iload_n 2, 1), (49, .ireturn, 1)]
theorem DX7_untell : ∀ q ∈ IX7_untell, decode cX7_untell q.1 = .ok q.2 := by decide +kernel
def IX7_law : List (Nat × Instr × Nat) := [(0, .iload_n 1, 1), (1, .invokestatic 121, 3), (4, .ifCond .ne 10, 3), (7, .aload_n 0, 1), (8, .ldc 48, 2), (10, .invokevirtual 49, 3), (13, .ireturn, 1), (14, .aload_n 0, 1), (15, .getfield 12, 3), (18, .getfield 128, 3), (21, .iload_n 1, 1), (22, .aaload, 1), (23, .iload_n 2, 1), (24, .iload_n 3, 1), (25, .iload 4, 2), (27, .invokevirtual 148, 3), (30, .ireturn, 1)]
theorem DX7_law : ∀ q ∈ IX7_law, decode cX7_law q.1 = .ok q.2 := by decide +kernel
def IX7_tally : List (Nat × Instr × Nat) := [(0, .aload_n 0, 1), (1, .getfield 12, 3), (4, .getfield 84, 3), (7, .sipush 9999, 3), (10, .if_icmp .lt 10, 3), (13, .aload_n 0, 1), (14, .ldc 110, 2), (16, .invokevirtual 49, 3), (19, .ireturn, 1), (20, .aload_n 0, 1), (21, .getfield 12, 3), (24, .invokevirtual 152, 3), (27, .ireturn, 1)]
theorem DX7_tally : ∀ q ∈ IX7_tally, decode cX7_tally q.1 = .ok q.2 := by decide +kernel
def IX7_loose : List (Nat × Instr × Nat) := [(0, .iload_n 1, 1), (1, .iconst 1, 1), (2, .if_icmp .lt 9, 3), (5, .iload_n 1, 1), (6, .bipush 30, 2), (8, .if_icmp .le 10, 3), (11, .aload_n 0, 1), (12, .ldc 48, 2), (14, .invokevirtual 49, 3), (17, .ireturn, 1), (18, .aload_n 0, 1), (19, .getfield 12, 3), (22, .getfield 84, 3), (25, .iload_n 1, 1), (26, .iadd, 1), (27, .sipush 9999, 3), (30, .if_icmp .le 10, 3), (33, .aload_n 0, 1), (34, .ldc 110, 2), (36, .invokevirtual 49, 3), (39, .ireturn, 1), (40, .iconst 0, 1), (41, .istore_n 2, 1), (42, .iconst 0, 1), (43, .istore_n 3, 1), (44, .iload_n 3, 1), (45, .iload_n 1, 1), (46, .if_icmp .ge 19, 3), (49, .iload_n 2, 1), (50, .aload_n 0, 1), (51, .getfield 12, 3), (54, .invokevirtual 156, 3), (57, .iadd, 1), (58, .istore_n 2, 1), (59, .iinc 3 1, 3), (62, .goto (-18), 3), (65, .iload_n 2, 1), (66, .ireturn, 1)]
theorem DX7_loose : ∀ q ∈ IX7_loose, decode cX7_loose q.1 = .ok q.2 := by decide +kernel
def IX7_seed : List (Nat × Instr × Nat) := [(0, .aload_n 0, 1), (1, .getfield 12, 3), (4, .getfield 159, 3), (7, .istore_n 2, 1), (8, .aload_n 0, 1), (9, .getfield 12, 3), (12, .iload_n 1, 1), (13, .putfield 159, 3), (16, .iload_n 2, 1), (17, .ireturn, 1)]
theorem DX7_seed : ∀ q ∈ IX7_seed, decode cX7_seed q.1 = .ok q.2 := by decide +kernel
def IX7_catches : List (Nat × Instr × Nat) := [(0, .iload_n 1, 1), (1, .invokestatic 104, 3), (4, .ifCond .ne 10, 3), (7, .aload_n 0, 1), (8, .ldc 48, 2), (10, .invokevirtual 49, 3), (13, .ireturn, 1), (14, .aload_n 0, 1), (15, .getfield 12, 3), (18, .iload_n 1, 1), (19, .invokevirtual 162, 3), (22, .ireturn, 1)]
theorem DX7_catches : ∀ q ∈ IX7_catches, decode cX7_catches q.1 = .ok q.2 := by decide +kernel
def IX7_safe : List (Nat × Instr × Nat) := [(0, .iload_n 1, 1), (1, .invokestatic 104, 3), (4, .ifCond .ne 10, 3), (7, .aload_n 0, 1), (8, .ldc 48, 2), (10, .invokevirtual 49, 3), (13, .ireturn, 1), (14, .aload_n 0, 1), (15, .getfield 12, 3), (18, .iload_n 1, 1), (19, .invokestatic 165, 3), (22, .ireturn, 1)]
theorem DX7_safe : ∀ q ∈ IX7_safe, decode cX7_safe q.1 = .ok q.2 := by decide +kernel
def IX7_best : List (Nat × Instr × Nat) := [(0, .iload_n 1, 1), (1, .invokestatic 104, 3), (4, .ifCond .eq 11, 3), (7, .iload_n 2, 1), (8, .iconst 1, 1), (9, .invokestatic 74, 3), (12, .ifCond .ne 10, 3), (15, .aload_n 0, 1), (16, .ldc 48, 2), (18, .invokevirtual 49, 3), (21, .ireturn, 1), (22, .aload_n 0, 1), (23, .getfield 12, 3), (26, .iload_n 1, 1), (27, .invokestatic 171, 3), (30, .istore_n 3, 1), (31, .iload_n 2, 1), (32, .ifCond .ne 7, 3), (35, .iload_n 3, 1), (36, .goto 12, 3), (39, .aload_n 0, 1), (40, .getfield 12, 3), (43, .iload_n 1, 1), (44, .iload_n 3, 1), (45, .invokestatic 174, 3), (48, .ireturn, 1)]
theorem DX7_best : ∀ q ∈ IX7_best, decode cX7_best q.1 = .ok q.2 := by decide +kernel
def IX7_agrees : List (Nat × Instr × Nat) := [(0, .iload_n 1, 1), (1, .invokestatic 104, 3), (4, .ifCond .eq 11, 3), (7, .iload_n 2, 1), (8, .iconst 1, 1), (9, .invokestatic 74, 3), (12, .ifCond .ne 10, 3), (15, .aload_n 0, 1), (16, .ldc 48, 2), (18, .invokevirtual 49, 3), (21, .ireturn, 1), (22, .iload_n 2, 1), (23, .ifCond .ne 12, 3), (26, .aload_n 0, 1), (27, .getfield 12, 3), (30, .iload_n 1, 1), (31, .invokestatic 178, 3), (34, .ireturn, 1), (35, .aload_n 0, 1), (36, .getfield 12, 3), (39, .iload_n 1, 1), (40, .invokestatic 181, 3), (43, .istore_n 3, 1), (44, .iload_n 3, 1), (45, .ifCond .ge 12, 3), (48, .aload_n 0, 1), (49, .ldc 184, 2), (51, .invokevirtual 49, 3), (54, .goto 4, 3), (57, .iload_n 3, 1), (58, .ireturn, 1)]
theorem DX7_agrees : ∀ q ∈ IX7_agrees, decode cX7_agrees q.1 = .ok q.2 := by decide +kernel
def IX7_needs : List (Nat × Instr × Nat) := [(0, .iload_n 1, 1), (1, .iconst 1, 1), (2, .invokestatic 74, 3), (5, .ifCond .ne 10, 3), (8, .aload_n 0, 1), (9, .ldc 48, 2), (11, .invokevirtual 49, 3), (14, .ireturn, 1), (15, .aload_n 0, 1), (16, .getfield 12, 3), (19, .invokestatic 185, 3), (22, .istore_n 2, 1), (23, .iload_n 2, 1), (24, .ifCond .ge 10, 3), (27, .aload_n 0, 1), (28, .ldc 184, 2), (30, .invokevirtual 49, 3), (33, .ireturn, 1), (34, .iload_n 1, 1), (35, .ifCond .ne 10, 3), (38, .iload_n 2, 1), (39, .invokestatic 189, 3), (42, .goto 4, 3), (45, .iload_n 2, 1), (46, .ireturn, 1)]
theorem DX7_needs : ∀ q ∈ IX7_needs, decode cX7_needs q.1 = .ok q.2 := by decide +kernel
def IX7_soonest : List (Nat × Instr × Nat) := [(0, .iload_n 1, 1), (1, .invokestatic 104, 3), (4, .ifCond .eq 12, 3), (7, .iload_n 2, 1), (8, .bipush 99, 2), (10, .invokestatic 74, 3), (13, .ifCond .ne 10, 3), (16, .aload_n 0, 1), (17, .ldc 48, 2), (19, .invokevirtual 49, 3), (22, .ireturn, 1), (23, .aload_n 0, 1), (24, .getfield 12, 3), (27, .iload_n 1, 1), (28, .iload_n 2, 1), (29, .invokestatic 194, 3), (32, .istore_n 3, 1), (33, .iload_n 3, 1), (34, .ifCond .ge 12, 3), (37, .aload_n 0, 1), (38, .ldc 184, 2), (40, .invokevirtual 49, 3), (43, .goto 4, 3), (46, .iload_n 3, 1), (47, .ireturn, 1)]
theorem DX7_soonest : ∀ q ∈ IX7_soonest, decode cX7_soonest q.1 = .ok q.2 := by decide +kernel
def IX7_odds : List (Nat × Instr × Nat) := [(0, .iload_n 1, 1), (1, .invokestatic 104, 3), (4, .ifCond .eq 20, 3), (7, .iload_n 2, 1), (8, .bipush 99, 2), (10, .invokestatic 74, 3), (13, .ifCond .eq 11, 3), (16, .iload_n 3, 1), (17, .iconst 1, 1), (18, .invokestatic 74, 3), (21, .ifCond .ne 10, 3), (24, .aload_n 0, 1), (25, .ldc 48, 2), (27, .invokevirtual 49, 3), (30, .ireturn, 1), (31, .aload_n 0, 1), (32, .getfield 12, 3), (35, .iload_n 1, 1), (36, .iload_n 2, 1), (37, .invokestatic 197, 3), (40, .iload_n 3, 1), (41, .invokestatic 200, 3), (44, .ireturn, 1)]
theorem DX7_odds : ∀ q ∈ IX7_odds, decode cX7_odds q.1 = .ok q.2 := by decide +kernel
def IX7_mean : List (Nat × Instr × Nat) := [(0, .iload_n 1, 1), (1, .invokestatic 104, 3), (4, .ifCond .eq 11, 3), (7, .iload_n 2, 1), (8, .iconst 1, 1), (9, .invokestatic 74, 3), (12, .ifCond .ne 10, 3), (15, .aload_n 0, 1), (16, .ldc 48, 2), (18, .invokevirtual 49, 3), (21, .ireturn, 1), (22, .aload_n 0, 1), (23, .getfield 12, 3), (26, .iload_n 1, 1), (27, .invokestatic 203, 3), (30, .iload_n 2, 1), (31, .invokestatic 200, 3), (34, .ireturn, 1)]
theorem DX7_mean : ∀ q ∈ IX7_mean, decode cX7_mean q.1 = .ok q.2 := by decide +kernel
def IX7_fits : List (Nat × Instr × Nat) := [(0, .iload_n 1, 1), (1, .invokestatic 206, 3), (4, .ifCond .eq 11, 3), (7, .iload_n 2, 1), (8, .iconst 1, 1), (9, .invokestatic 74, 3), (12, .ifCond .ne 10, 3), (15, .aload_n 0, 1), (16, .ldc 48, 2), (18, .invokevirtual 49, 3), (21, .ireturn, 1), (22, .aload_n 0, 1), (23, .getfield 35, 3), (26, .iload_n 1, 1), (27, .aaload, 1), (28, .invokevirtual 209, 3), (31, .ifCond .eq 10, 3), (34, .aload_n 0, 1), (35, .ldc 184, 2), (37, .invokevirtual 49, 3), (40, .ireturn, 1), (41, .aload_n 0, 1), (42, .getfield 12, 3), (45, .aload_n 0, 1), (46, .getfield 35, 3), (49, .iload_n 1, 1), (50, .aaload, 1), (51, .invokestatic 213, 3), (54, .istore_n 3, 1), (55, .iload_n 2, 1), (56, .ifCond .ne 5, 3), (59, .iload_n 3, 1), (60, .ireturn, 1), (61, .iload_n 3, 1), (62, .ifCond .ne 12, 3), (65, .aload_n 0, 1), (66, .ldc 184, 2), (68, .invokevirtual 49, 3), (71, .goto 7, 3), (74, .iload_n 3, 1), (75, .invokestatic 217, 3), (78, .ireturn, 1)]
theorem DX7_fits : ∀ q ∈ IX7_fits, decode cX7_fits q.1 = .ok q.2 := by decide +kernel
def IX7_voice : List (Nat × Instr × Nat) := [(0, .aload_n 0, 1), (1, .iload_n 1, 1), (2, .invokevirtual 71, 3), (5, .ifCond .eq 11, 3), (8, .iload_n 2, 1), (9, .iconst 3, 1), (10, .invokestatic 74, 3), (13, .ifCond .ne 10, 3), (16, .aload_n 0, 1), (17, .ldc 48, 2), (19, .invokevirtual 49, 3), (22, .ireturn, 1), (23, .aload_n 0, 1), (24, .getfield 29, 3), (27, .aload_n 0, 1), (28, .getfield 12, 3), (31, .getfield 58, 3), (34, .iload_n 1, 1), (35, .aaload, 1), (36, .iload_n 1, 1), (37, .iload_n 2, 1), (38, .iload_n 3, 1), (39, .invokevirtual 220, 3), (42, .istore 4, 2), (44, .aload_n 0, 1), (45, .getfield 29, 3), (48, .getfield 224, 3), (51, .ifCond .eq 12, 3), (54, .aload_n 0, 1), (55, .ldc 227, 2), (57, .invokevirtual 49, 3), (60, .goto 5, 3), (63, .iload 4, 2), (65, .ireturn, 1)]
theorem DX7_voice : ∀ q ∈ IX7_voice, decode cX7_voice q.1 = .ok q.2 := by decide +kernel
def IX7_body : List (Nat × Instr × Nat) := [(0, .iload_n 1, 1), (1, .ifCond .lt 14, 3), (4, .iload_n 1, 1), (5, .aload_n 0, 1), (6, .getfield 29, 3), (9, .getfield 228, 3), (12, .if_icmp .lt 10, 3), (15, .aload_n 0, 1), (16, .ldc 184, 2), (18, .invokevirtual 49, 3), (21, .ireturn, 1), (22, .aload_n 0, 1), (23, .getfield 29, 3), (26, .getfield 231, 3), (29, .iload_n 1, 1), (30, .iaload, 1), (31, .ireturn, 1)]
theorem DX7_body : ∀ q ∈ IX7_body, decode cX7_body q.1 = .ok q.2 := by decide +kernel
def IX7_sheet : List (Nat × Instr × Nat) := [(0, .iload_n 1, 1), (1, .invokestatic 206, 3), (4, .ifCond .eq 25, 3), (7, .iload_n 2, 1), (8, .ifCond .eq 28, 3), (11, .iload_n 2, 1), (12, .bipush 8, 2), (14, .if_icmp .eq 22, 3), (17, .iload_n 2, 1), (18, .bipush 16, 2), (20, .if_icmp .eq 16, 3), (23, .iload_n 2, 1), (24, .bipush 32, 2), (26, .if_icmp .eq 10, 3), (29, .aload_n 0, 1), (30, .ldc 48, 2), (32, .invokevirtual 49, 3), (35, .ireturn, 1), (36, .iload_n 2, 1), (37, .ifCond .ne 16, 3), (40, .aload_n 0, 1), (41, .getfield 35, 3), (44, .iload_n 1, 1), (45, .aaload, 1), (46, .iconst 0, 1), (47, .iconst 0, 1), (48, .invokevirtual 234, 3), (51, .iconst 1, 1), (52, .ireturn, 1), (53, .iload_n 3, 1), (54, .ifCond .ge 10, 3), (57, .aload_n 0, 1), (58, .ldc 110, 2), (60, .invokevirtual 49, 3), (63, .ireturn, 1), (64, .iload_n 3, 1), (65, .bipush 24, 2), (67, .if_icmp .le 10, 3), (70, .aload_n 0, 1), (71, .ldc 48, 2), (73, .invokevirtual 49, 3), (76, .ireturn, 1), (77, .aload_n 0, 1), (78, .getfield 35, 3), (81, .iload_n 1, 1), (82, .aaload, 1), (83, .iload_n 2, 1), (84, .iload_n 3, 1), (85, .invokevirtual 234, 3), (88, .iconst 1, 1), (89, .ireturn, 1)]
theorem DX7_sheet : ∀ q ∈ IX7_sheet, decode cX7_sheet q.1 = .ok q.2 := by decide +kernel
def IX7_put : List (Nat × Instr × Nat) := [(0, .iload_n 1, 1), (1, .invokestatic 206, 3), (4, .ifCond .ne 10, 3), (7, .aload_n 0, 1), (8, .ldc 48, 2), (10, .invokevirtual 49, 3), (13, .ireturn, 1), (14, .aload_n 0, 1), (15, .getfield 35, 3), (18, .iload_n 1, 1), (19, .aaload, 1), (20, .astore 4, 2), (22, .aload 4, 2), (24, .invokevirtual 209, 3), (27, .ifCond .eq 10, 3), (30, .aload_n 0, 1), (31, .ldc 184, 2), (33, .invokevirtual 49, 3), (36, .ireturn, 1), (37, .iload_n 2, 1), (38, .ifCond .lt 12, 3), (41, .iload_n 2, 1), (42, .aload 4, 2), (44, .getfield 238, 3), (47, .if_icmp .lt 10, 3), (50, .aload_n 0, 1), (51, .ldc 48, 2), (53, .invokevirtual 49, 3), (56, .ireturn, 1), (57, .aload 4, 2), (59, .getfield 241, 3), (62, .iload_n 2, 1), (63, .aload 4, 2), (65, .iload_n 3, 1), (66, .invokevirtual 244, 3), (69, .iastore, 1), (70, .iconst 1, 1), (71, .ireturn, 1)]
theorem DX7_put : ∀ q ∈ IX7_put, decode cX7_put q.1 = .ok q.2 := by decide +kernel
def IX7_move : List (Nat × Instr × Nat) := [(0, .iload_n 1, 1), (1, .invokestatic 206, 3), (4, .ifCond .eq 10, 3), (7, .iload_n 3, 1), (8, .invokestatic 206, 3), (11, .ifCond .ne 10, 3), (14, .aload_n 0, 1), (15, .ldc 48, 2), (17, .invokevirtual 49, 3), (20, .ireturn, 1), (21, .aload_n 0, 1), (22, .getfield 35, 3), (25, .iload_n 1, 1), (26, .aaload, 1), (27, .astore 6, 2), (29, .aload_n 0, 1), (30, .getfield 35, 3), (33, .iload_n 3, 1), (34, .aaload, 1), (35, .astore 7, 2), (37, .aload 6, 2), (39, .invokevirtual 209, 3), (42, .ifCond .ne 11, 3), (45, .aload 7, 2), (47, .invokevirtual 209, 3), (50, .ifCond .eq 10, 3), (53, .aload_n 0, 1), (54, .ldc 184, 2), (56, .invokevirtual 49, 3), (59, .ireturn, 1), (60, .aload 6, 2), (62, .getfield 247, 3), (65, .aload 7, 2), (67, .getfield 247, 3), (70, .if_icmp .eq 10, 3), (73, .aload_n 0, 1), (74, .ldc 103, 2), (76, .invokevirtual 49, 3), (79, .ireturn, 1), (80, .aload 6, 2), (82, .iload_n 2, 1), (83, .iload 5, 2), (85, .invokevirtual 250, 3), (88, .ifCond .eq 15, 3), (91, .aload 7, 2), (93, .iload 4, 2), (95, .iload 5, 2), (97, .invokevirtual 250, 3), (100, .ifCond .ne 10, 3), (103, .aload_n 0, 1), (104, .ldc 48, 2), (106, .invokevirtual 49, 3), (109, .ireturn, 1), (110, .aload 6, 2), (112, .getfield 241, 3), (115, .iload_n 2, 1), (116, .aload 7, 2), (118, .getfield 241, 3), (121, .iload 4, 2), (123, .iload 5, 2), (125, .invokestatic 253, 3), (128, .iload 5, 2), (130, .ireturn, 1)]
theorem DX7_move : ∀ q ∈ IX7_move, decode cX7_move q.1 = .ok q.2 := by decide +kernel
def IX7_prices : List (Nat × Instr × Nat) := [(0, .iload_n 1, 1), (1, .invokestatic 206, 3), (4, .ifCond .ne 10, 3), (7, .aload_n 0, 1), (8, .ldc 48, 2), (10, .invokevirtual 49, 3), (13, .ireturn, 1), (14, .aload_n 0, 1), (15, .getfield 35, 3), (18, .iload_n 1, 1), (19, .aaload, 1), (20, .astore_n 2, 1), (21, .aload_n 2, 1), (22, .invokevirtual 209, 3), (25, .ifCond .eq 10, 3), (28, .aload_n 0, 1), (29, .ldc 184, 2), (31, .invokevirtual 49, 3), (34, .ireturn, 1), (35, .aload_n 2, 1), (36, .getfield 238, 3), (39, .iconst 4, 1), (40, .invokestatic 259, 3), (43, .istore_n 3, 1), (44, .iconst 0, 1), (45, .istore 4, 2), (47, .iload 4, 2), (49, .iload_n 3, 1), (50, .if_icmp .ge 44, 3), (53, .aload_n 2, 1), (54, .getfield 241, 3), (57, .iload 4, 2), (59, .iaload, 1), (60, .bipush 9, 2), (62, .invokestatic 74, 3), (65, .ifCond .ne 6, 3), (68, .iload 4, 2), (70, .ireturn, 1), (71, .aload_n 0, 1), (72, .getfield 12, 3), (75, .getfield 107, 3), (78, .iload 4, 2), (80, .aload_n 2, 1), (81, .getfield 241, 3), (84, .iload 4, 2), (86, .iaload, 1), (87, .iastore, 1), (88, .iinc 4 1, 3), (91, .goto (-44), 3), (94, .iload_n 3, 1), (95, .ireturn, 1)]
theorem DX7_prices : ∀ q ∈ IX7_prices, decode cX7_prices q.1 = .ok q.2 := by decide +kernel
def IX7_judge : List (Nat × Instr × Nat) := [(0, .iload_n 1, 1), (1, .invokestatic 206, 3), (4, .ifCond .ne 10, 3), (7, .aload_n 0, 1), (8, .ldc 48, 2), (10, .invokevirtual 49, 3), (13, .ireturn, 1), (14, .aload_n 0, 1), (15, .getfield 35, 3), (18, .iload_n 1, 1), (19, .aaload, 1), (20, .astore_n 2, 1), (21, .aload_n 2, 1), (22, .invokevirtual 209, 3), (25, .ifCond .eq 10, 3), (28, .aload_n 0, 1), (29, .ldc 184, 2), (31, .invokevirtual 49, 3), (34, .ireturn, 1), (35, .aload_n 2, 1), (36, .getfield 238, 3), (39, .iconst 4, 1), (40, .invokestatic 259, 3), (43, .istore_n 3, 1), (44, .iconst 0, 1), (45, .istore 4, 2), (47, .iload 4, 2), (49, .iload_n 3, 1), (50, .if_icmp .ge 31, 3), (53, .aload_n 2, 1), (54, .getfield 241, 3), (57, .iload 4, 2), (59, .iaload, 1), (60, .aload_n 0, 1), (61, .getfield 12, 3), (64, .iload 4, 2), (66, .invokevirtual 162, 3), (69, .if_icmp .eq 6, 3), (72, .iload 4, 2), (74, .ireturn, 1), (75, .iinc 4 1, 3), (78, .goto (-31), 3), (81, .iload_n 3, 1), (82, .ireturn, 1)]
theorem DX7_judge : ∀ q ∈ IX7_judge, decode cX7_judge q.1 = .ok q.2 := by decide +kernel
def IX7_image : List (Nat × Instr × Nat) := [(0, .aload_n 0, 1), (1, .getfield 16, 3), (4, .aload_n 0, 1), (5, .getfield 12, 3), (8, .invokevirtual 264, 3), (11, .aload_n 0, 1), (12, .dup, 1), (13, .getfield 268, 3), (16, .iconst 1, 1), (17, .iadd, 1), (18, .putfield 268, 3), (21, .aload_n 0, 1), (22, .getfield 268, 3), (25, .ireturn, 1)]
theorem DX7_image : ∀ q ∈ IX7_image, decode cX7_image q.1 = .ok q.2 := by decide +kernel
def IX7_restore : List (Nat × Instr × Nat) := [(0, .aload_n 0, 1), (1, .getfield 268, 3), (4, .ifCond .ne 10, 3), (7, .aload_n 0, 1), (8, .ldc 184, 2), (10, .invokevirtual 49, 3), (13, .ireturn, 1), (14, .aload_n 0, 1), (15, .getfield 12, 3), (18, .aload_n 0, 1), (19, .getfield 16, 3), (22, .invokevirtual 264, 3), (25, .aload_n 0, 1), (26, .getfield 12, 3), (29, .getfield 84, 3), (32, .ireturn, 1)]
theorem DX7_restore : ∀ q ∈ IX7_restore, decode cX7_restore q.1 = .ok q.2 := by decide +kernel
def IX7_tell : List (Nat × Instr × Nat) := [(0, .aload_n 0, 1), (1, .getfield 12, 3), (4, .getfield 271, 3), (7, .bipush 24, 2), (9, .if_icmp .lt 10, 3), (12, .aload_n 0, 1), (13, .ldc 57, 2), (15, .invokevirtual 49, 3), (18, .ireturn, 1), (19, .aload_n 0, 1), (20, .getfield 12, 3), (23, .getfield 274, 3), (26, .aload_n 0, 1), (27, .getfield 12, 3), (30, .getfield 271, 3), (33, .iload_n 1, 1), (34, .iastore, 1), (35, .aload_n 0, 1), (36, .getfield 12, 3), (39, .dup, 1), (40, .getfield 271, 3), (43, .iconst 1, 1), (44, .iadd, 1), (45, .putfield 271, 3), (48, .aload_n 0, 1), (49, .getfield 12, 3), (52, .getfield 271, 3), (55, .ireturn, 1)]
theorem DX7_tell : ∀ q ∈ IX7_tell, decode cX7_tell q.1 = .ok q.2 := by decide +kernel
def IX7_check : List (Nat × Instr × Nat) := [(0, .aload_n 0, 1), (1, .getfield 12, 3), (4, .getfield 271, 3), (7, .istore_n 1, 1), (8, .aload_n 0, 1), (9, .getfield 12, 3), (12, .iconst 0, 1), (13, .putfield 271, 3), (16, .iconst 0, 1), (17, .istore_n 2, 1), (18, .iload_n 2, 1), (19, .iload_n 1, 1), (20, .if_icmp .ge 39, 3), (23, .iload_n 2, 1), (24, .iconst 4, 1), (25, .if_icmp .ge 24, 3), (28, .aload_n 0, 1), (29, .getfield 12, 3), (32, .getfield 274, 3), (35, .iload_n 2, 1), (36, .iaload, 1), (37, .aload_n 0, 1), (38, .getfield 12, 3), (41, .getfield 90, 3), (44, .iload_n 2, 1), (45, .iaload, 1), (46, .if_icmp .eq 7, 3), (49, .iconst 1, 1), (50, .iload_n 2, 1), (51, .iadd, 1), (52, .ireturn, 1), (53, .iinc 2 1, 3), (56, .goto (-38), 3), (59, .iconst 0, 1), (60, .ireturn, 1)]
theorem DX7_check : ∀ q ∈ IX7_check, decode cX7_check q.1 = .ok q.2 := by decide +kernel
def IX7_count : List (Nat × Instr × Nat) := [(0, .iload_n 1, 1), (1, .tableswitch 135 0 9 #[55, 63, 71, 79, 87, 95, 103, 111, 119, 127], 55), (56, .aload_n 0, 1), (57, .getfield 12, 3), (60, .getfield 53, 3), (63, .ireturn, 1), (64, .aload_n 0, 1), (65, .getfield 12, 3), (68, .getfield 93, 3), (71, .ireturn, 1), (72, .aload_n 0, 1), (73, .getfield 12, 3), (76, .getfield 84, 3), (79, .ireturn, 1), (80, .aload_n 0, 1), (81, .getfield 12, 3), (84, .getfield 277, 3), (87, .ireturn, 1), (88, .aload_n 0, 1), (89, .getfield 12, 3), (92, .getfield 280, 3), (95, .ireturn, 1), (96, .aload_n 0, 1), (97, .getfield 12, 3), (100, .getfield 283, 3), (103, .ireturn, 1), (104, .aload_n 0, 1), (105, .getfield 12, 3), (108, .getfield 115, 3), (111, .ireturn, 1), (112, .aload_n 0, 1), (113, .getfield 12, 3), (116, .getfield 271, 3), (119, .ireturn, 1), (120, .aload_n 0, 1), (121, .getfield 29, 3), (124, .getfield 228, 3), (127, .ireturn, 1), (128, .aload_n 0, 1), (129, .getfield 12, 3), (132, .getfield 159, 3), (135, .ireturn, 1), (136, .aload_n 0, 1), (137, .ldc 48, 2), (139, .invokevirtual 49, 3), (142, .ireturn, 1)]
theorem DX7_count : ∀ q ∈ IX7_count, decode cX7_count q.1 = .ok q.2 := by decide +kernel
def IX7_told : List (Nat × Instr × Nat) := [(0, .iload_n 1, 1), (1, .iconst 1, 1), (2, .if_icmp .lt 9, 3), (5, .iload_n 1, 1), (6, .bipush 6, 2), (8, .if_icmp .le 10, 3), (11, .aload_n 0, 1), (12, .ldc 48, 2), (14, .invokevirtual 49, 3), (17, .ireturn, 1), (18, .aload_n 0, 1), (19, .getfield 39, 3), (22, .iload_n 1, 1), (23, .iaload, 1), (24, .ireturn, 1)]
theorem DX7_told : ∀ q ∈ IX7_told, decode cX7_told q.1 = .ok q.2 := by decide +kernel
def IX7_refuse : List (Nat × Instr × Nat) := [(0, .ldc_w 286, 3), (3, .iload_n 1, 1), (4, .isub, 1), (5, .istore_n 2, 1), (6, .iload_n 2, 1), (7, .iconst 1, 1), (8, .if_icmp .lt 19, 3), (11, .iload_n 2, 1), (12, .bipush 6, 2), (14, .if_icmp .gt 13, 3), (17, .aload_n 0, 1), (18, .getfield 39, 3), (21, .iload_n 2, 1), (22, .dup2, 1), (23, .iaload, 1), (24, .iconst 1, 1), (25, .iadd, 1), (26, .iastore, 1), (27, .iload_n 1, 1), (28, .ireturn, 1)]
theorem DX7_refuse : ∀ q ∈ IX7_refuse, decode cX7_refuse q.1 = .ok q.2 := by decide +kernel
def IX7_isWithin : List (Nat × Instr × Nat) := [(0, .iload_n 0, 1), (1, .ifCond .lt 12, 3), (4, .iload_n 0, 1), (5, .iload_n 1, 1), (6, .if_icmp .gt 7, 3), (9, .iconst 1, 1), (10, .goto 4, 3), (13, .iconst 0, 1), (14, .ireturn, 1)]
theorem DX7_isWithin : ∀ q ∈ IX7_isWithin, decode cX7_isWithin q.1 = .ok q.2 := by decide +kernel
def IX7_isFish : List (Nat × Instr × Nat) := [(0, .iload_n 0, 1), (1, .ifCond .lt 12, 3), (4, .iload_n 0, 1), (5, .iconst 4, 1), (6, .if_icmp .ge 7, 3), (9, .iconst 1, 1), (10, .goto 4, 3), (13, .iconst 0, 1), (14, .ireturn, 1)]
theorem DX7_isFish : ∀ q ∈ IX7_isFish, decode cX7_isFish q.1 = .ok q.2 := by decide +kernel
def IX7_isUse : List (Nat × Instr × Nat) := [(0, .iload_n 0, 1), (1, .ifCond .lt 12, 3), (4, .iload_n 0, 1), (5, .iconst 2, 1), (6, .if_icmp .ge 7, 3), (9, .iconst 1, 1), (10, .goto 4, 3), (13, .iconst 0, 1), (14, .ireturn, 1)]
theorem DX7_isUse : ∀ q ∈ IX7_isUse, decode cX7_isUse q.1 = .ok q.2 := by decide +kernel
def IX7_isSheet : List (Nat × Instr × Nat) := [(0, .iload_n 0, 1), (1, .ifCond .lt 12, 3), (4, .iload_n 0, 1), (5, .iconst 4, 1), (6, .if_icmp .ge 7, 3), (9, .iconst 1, 1), (10, .goto 4, 3), (13, .iconst 0, 1), (14, .ireturn, 1)]
theorem DX7_isSheet : ∀ q ∈ IX7_isSheet, decode cX7_isSheet q.1 = .ok q.2 := by decide +kernel
def IX7_isKindWithNumber : List (Nat × Instr × Nat) := [(0, .iload_n 0, 1), (1, .ifCond .lt 13, 3), (4, .iload_n 0, 1), (5, .bipush 70, 2), (7, .if_icmp .ge 7, 3), (10, .iconst 1, 1), (11, .goto 4, 3), (14, .iconst 0, 1), (15, .ireturn, 1)]
theorem DX7_isKindWithNumber : ∀ q ∈ IX7_isKindWithNumber, decode cX7_isKindWithNumber q.1 = .ok q.2 := by decide +kernel
def IX7_isBoat : List (Nat × Instr × Nat) := [(0, .iload_n 1, 1), (1, .ifCond .lt 18, 3), (4, .iload_n 1, 1), (5, .aload_n 0, 1), (6, .getfield 12, 3), (9, .getfield 53, 3), (12, .if_icmp .ge 7, 3), (15, .iconst 1, 1), (16, .goto 4, 3), (19, .iconst 0, 1), (20, .ireturn, 1)]
theorem DX7_isBoat : ∀ q ∈ IX7_isBoat, decode cX7_isBoat q.1 = .ok q.2 := by decide +kernel
def IX7_held : List (Nat × Instr × Nat) := [(0, .iload_n 1, 1), (1, .iload_n 2, 1), (2, .iload_n 0, 1), (3, .invokestatic 259, 3), (6, .invokestatic 287, 3), (9, .ireturn, 1)]
theorem DX7_held : ∀ q ∈ IX7_held, decode cX7_held q.1 = .ok q.2 := by decide +kernel
end DEC
end
section
section DEC
def IX8_init : List (Nat × Instr × Nat) := [(0, .aload_n 0, 1), (1, .invokespecial 3, 3), (4, .aload_n 0, 1), (5, .sipush 361, 3), (8, .newarray .int, 2), (10, .putfield 9, 3), (13, .aload_n 0, 1), (14, .sipush 361, 3), (17, .newarray .int, 2), (19, .putfield 13, 3), (22, .aload_n 0, 1), (23, .bipush 7, 2), (25, .newarray .int, 2), (27, .putfield 16, 3), (30, .aload_n 0, 1), (31, .iconst 4, 1), (32, .newarray .int, 2), (34, .putfield 19, 3), (37, .aload_n 0, 1), (38, .iconst 4, 1), (39, .newarray .int, 2), (41, .putfield 22, 3), (44, .aload_n 0, 1), (45, .bipush 96, 2), (47, .newarray .int, 2), (49, .putfield 25, 3), (52, .aload_n 0, 1), (53, .bipush 60, 2), (55, .newarray .int, 2), (57, .putfield 28, 3), (60, .aload_n 0, 1), (61, .bipush 60, 2), (63, .newarray .int, 2), (65, .putfield 31, 3), (68, .aload_n 0, 1), (69, .iconst 3, 1), (70, .newarray .int, 2), (72, .putfield 34, 3), (75, .aload_n 0, 1), (76, .bipush 60, 2), (78, .newarray .int, 2), (80, .putfield 37, 3), (83, .aload_n 0, 1), (84, .bipush 24, 2), (86, .newarray .int, 2), (88, .putfield 40, 3), (91, .aload_n 0, 1), (92, .bipush 30, 2), (94, .newarray .int, 2), (96, .putfield 43, 3), (99, .aload_n 0, 1), (100, .getfield 9, 3), (103, .iconst 1, 1), (104, .iconst 1, 1), (105, .iastore, 1), (106, .aload_n 0, 1), (107, .getfield 9, 3), (110, .bipush 6, 2), (112, .bipush 20, 2), (114, .iastore, 1), (115, .iconst 0, 1), (116, .istore_n 1, 1), (117, .iload_n 1, 1), (118, .iconst 4, 1), (119, .if_icmp .ge 19, 3), (122, .aload_n 0, 1), (123, .getfield 9, 3), (126, .bipush 13, 2), (128, .iload_n 1, 1), (129, .iadd, 1), (130, .iconst 2, 1), (131, .iastore, 1), (132, .iinc 1 1, 3), (135, .goto (-18), 3), (138, .return_, 1)]
theorem DX8_init : ∀ q ∈ IX8_init, decode cX8_init q.1 = .ok q.2 := by decide +kernel
def IX8_error : List (Nat × Instr × Nat) := [(0, .aload_n 0, 1), (1, .getfield 16, 3), (4, .ldc 46, 2), (6, .iload_n 1, 1), (7, .isub, 1), (8, .dup2, 1), (9, .iaload, 1), (10, .iconst 1, 1), (11, .iadd, 1), (12, .iastore, 1), (13, .iload_n 1, 1), (14, .ireturn, 1)]
theorem DX8_error : ∀ q ∈ IX8_error, decode cX8_error q.1 = .ok q.2 := by decide +kernel
def IX8_in : List (Nat × Instr × Nat) := [(0, .iload_n 0, 1), (1, .iload_n 1, 1), (2, .if_icmp .lt 12, 3), (5, .iload_n 0, 1), (6, .iload_n 2, 1), (7, .if_icmp .gt 7, 3), (10, .iconst 1, 1), (11, .goto 4, 3), (14, .iconst 0, 1), (15, .ireturn, 1)]
theorem DX8_in : ∀ q ∈ IX8_in, decode cX8_in q.1 = .ok q.2 := by decide +kernel
def IX8_held : List (Nat × Instr × Nat) := [(0, .iload_n 0, 1), (1, .iload_n 1, 1), (2, .if_icmp .ge 7, 3), (5, .iload_n 1, 1), (6, .goto 13, 3), (9, .iload_n 0, 1), (10, .iload_n 2, 1), (11, .if_icmp .le 7, 3), (14, .iload_n 2, 1), (15, .goto 4, 3), (18, .iload_n 0, 1), (19, .ireturn, 1)]
theorem DX8_held : ∀ q ∈ IX8_held, decode cX8_held q.1 = .ok q.2 := by decide +kernel
def IX8_copyAll : List (Nat × Instr × Nat) := [(0, .iconst 0, 1), (1, .istore_n 2, 1), (2, .iload_n 2, 1), (3, .sipush 361, 3), (6, .if_icmp .ge 15, 3), (9, .aload_n 1, 1), (10, .iload_n 2, 1), (11, .aload_n 0, 1), (12, .iload_n 2, 1), (13, .iaload, 1), (14, .iastore, 1), (15, .iinc 2 1, 3), (18, .goto (-16), 3), (21, .return_, 1)]
theorem DX8_copyAll : ∀ q ∈ IX8_copyAll, decode cX8_copyAll q.1 = .ok q.2 := by decide +kernel
def IX8_bits : List (Nat × Instr × Nat) := [(0, .iconst 0, 1), (1, .istore_n 1, 1), (2, .iload_n 0, 1), (3, .istore_n 2, 1), (4, .iload_n 2, 1), (5, .ifCond .eq 15, 3), (8, .iinc 1 1, 3), (11, .iload_n 2, 1), (12, .iload_n 2, 1), (13, .iconst 1, 1), (14, .isub, 1), (15, .iand, 1), (16, .istore_n 2, 1), (17, .goto (-13), 3), (20, .iload_n 1, 1), (21, .ireturn, 1)]
theorem DX8_bits : ∀ q ∈ IX8_bits, decode cX8_bits q.1 = .ok q.2 := by decide +kernel
def IX8_isBoat : List (Nat × Instr × Nat) := [(0, .iload_n 1, 1), (1, .iconst 0, 1), (2, .aload_n 0, 1), (3, .getfield 9, 3), (6, .iconst 2, 1), (7, .iaload, 1), (8, .iconst 1, 1), (9, .isub, 1), (10, .invokestatic 47, 3), (13, .ireturn, 1)]
theorem DX8_isBoat : ∀ q ∈ IX8_isBoat, decode cX8_isBoat q.1 = .ok q.2 := by decide +kernel
def IX8_isFish : List (Nat × Instr × Nat) := [(0, .iload_n 0, 1), (1, .iconst 0, 1), (2, .iconst 3, 1), (3, .invokestatic 47, 3), (6, .ireturn, 1)]
theorem DX8_isFish : ∀ q ∈ IX8_isFish, decode cX8_isFish q.1 = .ok q.2 := by decide +kernel
def IX8_becomes : List (Nat × Instr × Nat) := [(0, .aload_n 0, 1), (1, .getfield 9, 3), (4, .iload_n 1, 1), (5, .iaload, 1), (6, .istore_n 3, 1), (7, .aload_n 0, 1), (8, .getfield 9, 3), (11, .iload_n 1, 1), (12, .iload_n 2, 1), (13, .iastore, 1), (14, .iload_n 3, 1), (15, .ireturn, 1)]
theorem DX8_becomes : ∀ q ∈ IX8_becomes, decode cX8_becomes q.1 = .ok q.2 := by decide +kernel
def IX8_of : List (Nat × Instr × Nat) := [(0, .aload_n 0, 1), (1, .getfield 9, 3), (4, .bipush 17, 2), (6, .iconst 3, 1), (7, .iload_n 1, 1), (8, .imul, 1), (9, .iadd, 1), (10, .iload_n 2, 1), (11, .iadd, 1), (12, .iaload, 1), (13, .ireturn, 1)]
theorem DX8_of : ∀ q ∈ IX8_of, decode cX8_of q.1 = .ok q.2 := by decide +kernel
def IX8_haulsOf : List (Nat × Instr × Nat) := [(0, .aload_n 0, 1), (1, .iload_n 1, 1), (2, .iconst 1, 1), (3, .invokevirtual 51, 3), (6, .istore_n 3, 1), (7, .iconst 5, 1), (8, .iload_n 3, 1), (9, .iadd, 1), (10, .aload_n 0, 1), (11, .getfield 9, 3), (14, .iconst 3, 1), (15, .iaload, 1), (16, .isub, 1), (17, .istore 4, 2), (19, .aload_n 0, 1), (20, .iload_n 1, 1), (21, .iconst 0, 1), (22, .invokevirtual 51, 3), (25, .tableswitch 120 1 6 #[39, 44, 49, 68, 82, 104], 39), (64, .iload 4, 2), (66, .iconst 5, 1), (67, .iadd, 1), (68, .ireturn, 1), (69, .iload 4, 2), (71, .iconst 2, 1), (72, .idiv, 1), (73, .ireturn, 1), (74, .iload_n 2, 1), (75, .iload_n 3, 1), (76, .iconst 4, 1), (77, .irem, 1), (78, .if_icmp .ne 10, 3), (81, .iconst 2, 1), (82, .iload 4, 2), (84, .imul, 1), (85, .goto 7, 3), (88, .iload 4, 2), (90, .iconst 2, 1), (91, .idiv, 1), (92, .ireturn, 1), (93, .iload 4, 2), (95, .iconst 5, 1), (96, .iadd, 1), (97, .aload_n 0, 1), (98, .getfield 9, 3), (101, .iconst 0, 1), (102, .iaload, 1), (103, .iconst 5, 1), (104, .irem, 1), (105, .iadd, 1), (106, .ireturn, 1), (107, .aload_n 0, 1), (108, .getfield 9, 3), (111, .iconst 3, 1), (112, .iaload, 1), (113, .bipush 6, 2), (115, .if_icmp .le 7, 3), (118, .iconst 0, 1), (119, .goto 9, 3), (122, .iload 4, 2), (124, .iconst 2, 1), (125, .idiv, 1), (126, .iload_n 2, 1), (127, .iadd, 1), (128, .ireturn, 1), (129, .bipush 20, 2), (131, .iload_n 3, 1), (132, .isub, 1), (133, .iconst 2, 1), (134, .aload_n 0, 1), (135, .getfield 9, 3), (138, .iconst 3, 1), (139, .iaload, 1), (140, .imul, 1), (141, .isub, 1), (142, .iload_n 2, 1), (143, .isub, 1), (144, .ireturn, 1), (145, .iload 4, 2), (147, .ireturn, 1)]
theorem DX8_haulsOf : ∀ q ∈ IX8_haulsOf, decode cX8_haulsOf q.1 = .ok q.2 := by decide +kernel
def IX8_eatsOf : List (Nat × Instr × Nat) := [(0, .aload_n 0, 1), (1, .iload_n 1, 1), (2, .iconst 0, 1), (3, .invokevirtual 51, 3), (6, .tableswitch 55 1 6 #[38, 55, 40, 51, 53, 51], 38), (44, .iconst 2, 1), (45, .ireturn, 1), (46, .iconst 1, 1), (47, .aload_n 0, 1), (48, .getfield 9, 3), (51, .iconst 0, 1), (52, .iaload, 1), (53, .iconst 2, 1), (54, .irem, 1), (55, .iadd, 1), (56, .ireturn, 1), (57, .iconst 4, 1), (58, .ireturn, 1), (59, .iconst 0, 1), (60, .ireturn, 1), (61, .iconst 1, 1), (62, .ireturn, 1)]
theorem DX8_eatsOf : ∀ q ∈ IX8_eatsOf, decode cX8_eatsOf q.1 = .ok q.2 := by decide +kernel
def IX8_landsOf : List (Nat × Instr × Nat) := [(0, .aload_n 0, 1), (1, .iload_n 1, 1), (2, .iconst 2, 1), (3, .invokevirtual 51, 3), (6, .iconst 1, 1), (7, .if_icmp .ne 7, 3), (10, .iconst 0, 1), (11, .goto 21, 3), (14, .aload_n 0, 1), (15, .iconst 0, 1), (16, .aload_n 0, 1), (17, .iload_n 1, 1), (18, .iload_n 2, 1), (19, .invokevirtual 55, 3), (22, .aload_n 0, 1), (23, .getfield 9, 3), (26, .iconst 3, 1), (27, .iaload, 1), (28, .iload_n 3, 1), (29, .invokevirtual 58, 3), (32, .ireturn, 1)]
theorem DX8_landsOf : ∀ q ∈ IX8_landsOf, decode cX8_landsOf q.1 = .ok q.2 := by decide +kernel
def IX8_catchBy : List (Nat × Instr × Nat) := [(0, .iconst 0, 1), (1, .istore_n 3, 1), (2, .iconst 0, 1), (3, .istore 4, 2), (5, .iload 4, 2), (7, .aload_n 0, 1), (8, .getfield 9, 3), (11, .iconst 2, 1), (12, .iaload, 1), (13, .if_icmp .ge 20, 3), (16, .iload_n 3, 1), (17, .aload_n 0, 1), (18, .iload 4, 2), (20, .iload_n 1, 1), (21, .iload_n 2, 1), (22, .invokevirtual 62, 3), (25, .iadd, 1), (26, .istore_n 3, 1), (27, .iinc 4 1, 3), (30, .goto (-25), 3), (33, .iload_n 3, 1), (34, .ireturn, 1)]
theorem DX8_catchBy : ∀ q ∈ IX8_catchBy, decode cX8_catchBy q.1 = .ok q.2 := by decide +kernel
def IX8_catchOf : List (Nat × Instr × Nat) := [(0, .aload_n 0, 1), (1, .iload_n 1, 1), (2, .aload_n 0, 1), (3, .getfield 9, 3), (6, .bipush 9, 2), (8, .iload_n 1, 1), (9, .iadd, 1), (10, .iaload, 1), (11, .invokevirtual 66, 3), (14, .ireturn, 1)]
theorem DX8_catchOf : ∀ q ∈ IX8_catchOf, decode cX8_catchOf q.1 = .ok q.2 := by decide +kernel
def IX8_shortBy : List (Nat × Instr × Nat) := [(0, .iload_n 2, 1), (1, .aload_n 0, 1), (2, .iload_n 1, 1), (3, .iload_n 2, 1), (4, .invokevirtual 66, 3), (7, .isub, 1), (8, .istore_n 3, 1), (9, .iload_n 3, 1), (10, .ifCond .ge 7, 3), (13, .iconst 0, 1), (14, .goto 4, 3), (17, .iload_n 3, 1), (18, .ireturn, 1)]
theorem DX8_shortBy : ∀ q ∈ IX8_shortBy, decode cX8_shortBy q.1 = .ok q.2 := by decide +kernel
def IX8_coinsFor : List (Nat × Instr × Nat) := [(0, .aload_n 0, 1), (1, .iconst 1, 1), (2, .aload_n 0, 1), (3, .getfield 9, 3), (6, .bipush 13, 2), (8, .iload_n 1, 1), (9, .iadd, 1), (10, .iaload, 1), (11, .aload_n 0, 1), (12, .getfield 9, 3), (15, .bipush 6, 2), (17, .iaload, 1), (18, .iload_n 2, 1), (19, .invokevirtual 58, 3), (22, .ireturn, 1)]
theorem DX8_coinsFor : ∀ q ∈ IX8_coinsFor, decode cX8_coinsFor q.1 = .ok q.2 := by decide +kernel
def IX8_isKm : List (Nat × Instr × Nat) := [(0, .iload_n 0, 1), (1, .iconst 0, 1), (2, .bipush 69, 2), (4, .invokestatic 47, 3), (7, .ireturn, 1)]
theorem DX8_isKm : ∀ q ∈ IX8_isKm, decode cX8_isKm q.1 = .ok q.2 := by decide +kernel
def IX8_boat : List (Nat × Instr × Nat) := [(0, .iload_n 1, 1), (1, .invokestatic 69, 3), (4, .ifCond .ne 10, 3), (7, .aload_n 0, 1), (8, .ldc 73, 2), (10, .invokevirtual 74, 3), (13, .ireturn, 1), (14, .aload_n 0, 1), (15, .getfield 9, 3), (18, .iconst 2, 1), (19, .iaload, 1), (20, .istore_n 2, 1), (21, .iload_n 2, 1), (22, .bipush 6, 2), (24, .if_icmp .ne 10, 3), (27, .aload_n 0, 1), (28, .ldc 78, 2), (30, .invokevirtual 74, 3), (33, .ireturn, 1), (34, .aload_n 0, 1), (35, .getfield 9, 3), (38, .iconst 2, 1), (39, .dup2, 1), (40, .iaload, 1), (41, .iconst 1, 1), (42, .iadd, 1), (43, .iastore, 1), (44, .aload_n 0, 1), (45, .getfield 9, 3), (48, .bipush 17, 2), (50, .iconst 3, 1), (51, .iload_n 2, 1), (52, .imul, 1), (53, .iadd, 1), (54, .iload_n 1, 1), (55, .bipush 10, 2), (57, .idiv, 1), (58, .iastore, 1), (59, .aload_n 0, 1), (60, .getfield 9, 3), (63, .bipush 17, 2), (65, .iconst 3, 1), (66, .iload_n 2, 1), (67, .imul, 1), (68, .iadd, 1), (69, .iconst 1, 1), (70, .iadd, 1), (71, .iload_n 1, 1), (72, .bipush 10, 2), (74, .irem, 1), (75, .iastore, 1), (76, .aload_n 0, 1), (77, .getfield 9, 3), (80, .bipush 17, 2), (82, .iconst 3, 1), (83, .iload_n 2, 1), (84, .imul, 1), (85, .iadd, 1), (86, .iconst 2, 1), (87, .iadd, 1), (88, .iconst 0, 1), (89, .iastore, 1), (90, .iload_n 2, 1), (91, .ireturn, 1)]
theorem DX8_boat : ∀ q ∈ IX8_boat, decode cX8_boat q.1 = .ok q.2 := by decide +kernel
def IX8_boatIs : List (Nat × Instr × Nat) := [(0, .aload_n 0, 1), (1, .iload_n 1, 1), (2, .invokevirtual 79, 3), (5, .ifCond .eq 13, 3), (8, .iload_n 2, 1), (9, .iconst 0, 1), (10, .bipush 7, 2), (12, .invokestatic 47, 3), (15, .ifCond .ne 10, 3), (18, .aload_n 0, 1), (19, .ldc 73, 2), (21, .invokevirtual 74, 3), (24, .ireturn, 1), (25, .iload_n 2, 1), (26, .iconst 3, 1), (27, .if_icmp .ge 12, 3), (30, .aload_n 0, 1), (31, .iload_n 1, 1), (32, .iload_n 2, 1), (33, .invokevirtual 51, 3), (36, .goto 35, 3), (39, .iload_n 2, 1), (40, .iconst 3, 1), (41, .if_icmp .ne 11, 3), (44, .aload_n 0, 1), (45, .iload_n 1, 1), (46, .invokevirtual 82, 3), (49, .goto 22, 3), (52, .aload_n 0, 1), (53, .iload_n 1, 1), (54, .iload_n 2, 1), (55, .iconst 4, 1), (56, .isub, 1), (57, .aload_n 0, 1), (58, .getfield 9, 3), (61, .bipush 9, 2), (63, .iload_n 2, 1), (64, .iadd, 1), (65, .iconst 4, 1), (66, .isub, 1), (67, .iaload, 1), (68, .invokevirtual 62, 3), (71, .ireturn, 1)]
theorem DX8_boatIs : ∀ q ∈ IX8_boatIs, decode cX8_boatIs q.1 = .ok q.2 := by decide +kernel
def IX8_become : List (Nat × Instr × Nat) := [(0, .aload_n 0, 1), (1, .iload_n 1, 1), (2, .invokevirtual 79, 3), (5, .ifCond .eq 10, 3), (8, .iload_n 2, 1), (9, .invokestatic 69, 3), (12, .ifCond .ne 10, 3), (15, .aload_n 0, 1), (16, .ldc 73, 2), (18, .invokevirtual 74, 3), (21, .ireturn, 1), (22, .aload_n 0, 1), (23, .getfield 9, 3), (26, .bipush 17, 2), (28, .iconst 3, 1), (29, .iload_n 1, 1), (30, .imul, 1), (31, .iadd, 1), (32, .iconst 1, 1), (33, .iadd, 1), (34, .iload_n 2, 1), (35, .bipush 10, 2), (37, .irem, 1), (38, .iastore, 1), (39, .aload_n 0, 1), (40, .bipush 17, 2), (42, .iconst 3, 1), (43, .iload_n 1, 1), (44, .imul, 1), (45, .iadd, 1), (46, .iload_n 2, 1), (47, .bipush 10, 2), (49, .idiv, 1), (50, .invokevirtual 85, 3), (53, .ireturn, 1)]
theorem DX8_become : ∀ q ∈ IX8_become, decode cX8_become q.1 = .ok q.2 := by decide +kernel
def IX8_as : List (Nat × Instr × Nat) := [(0, .aload_n 0, 1), (1, .iload_n 1, 1), (2, .invokevirtual 79, 3), (5, .ifCond .eq 13, 3), (8, .iload_n 2, 1), (9, .iconst 0, 1), (10, .bipush 6, 2), (12, .invokestatic 47, 3), (15, .ifCond .ne 10, 3), (18, .aload_n 0, 1), (19, .ldc 73, 2), (21, .invokevirtual 74, 3), (24, .ireturn, 1), (25, .aload_n 0, 1), (26, .iload_n 1, 1), (27, .iconst 0, 1), (28, .invokevirtual 51, 3), (31, .istore_n 3, 1), (32, .iload_n 2, 1), (33, .ifCond .eq 28, 3), (36, .iload_n 2, 1), (37, .iload_n 3, 1), (38, .if_icmp .eq 23, 3), (41, .iload_n 2, 1), (42, .iconst 1, 1), (43, .if_icmp .ne 8, 3), (46, .iload_n 3, 1), (47, .iconst 4, 1), (48, .if_icmp .eq 13, 3), (51, .iload_n 2, 1), (52, .iconst 2, 1), (53, .if_icmp .ne 12, 3), (56, .iload_n 3, 1), (57, .iconst 5, 1), (58, .if_icmp .ne 7, 3), (61, .iconst 1, 1), (62, .goto 4, 3), (65, .iconst 0, 1), (66, .istore 4, 2), (68, .iload 4, 2), (70, .ifCond .eq 12, 3), (73, .aload_n 0, 1), (74, .iload_n 1, 1), (75, .iconst 1, 1), (76, .invokevirtual 51, 3), (79, .goto 9, 3), (82, .aload_n 0, 1), (83, .ldc 88, 2), (85, .invokevirtual 74, 3), (88, .ireturn, 1)]
theorem DX8_as : ∀ q ∈ IX8_as, decode cX8_as q.1 = .ok q.2 := by decide +kernel
def IX8_lose : List (Nat × Instr × Nat) := [(0, .aload_n 0, 1), (1, .iload_n 1, 1), (2, .invokevirtual 79, 3), (5, .ifCond .eq 28, 3), (8, .iload_n 2, 1), (9, .iconst 0, 1), (10, .iconst 1, 1), (11, .invokestatic 47, 3), (14, .ifCond .eq 19, 3), (17, .aload_n 0, 1), (18, .bipush 17, 2), (20, .iconst 3, 1), (21, .iload_n 1, 1), (22, .imul, 1), (23, .iadd, 1), (24, .iconst 2, 1), (25, .iadd, 1), (26, .iload_n 2, 1), (27, .invokevirtual 85, 3), (30, .goto 9, 3), (33, .aload_n 0, 1), (34, .ldc 73, 2), (36, .invokevirtual 74, 3), (39, .ireturn, 1)]
theorem DX8_lose : ∀ q ∈ IX8_lose, decode cX8_lose q.1 = .ok q.2 := by decide +kernel
def IX8_rises : List (Nat × Instr × Nat) := [(0, .iload_n 1, 1), (1, .iconst 0, 1), (2, .bipush 9, 2), (4, .invokestatic 47, 3), (7, .ifCond .eq 12, 3), (10, .aload_n 0, 1), (11, .iconst 3, 1), (12, .iload_n 1, 1), (13, .invokevirtual 85, 3), (16, .goto 9, 3), (19, .aload_n 0, 1), (20, .ldc 73, 2), (22, .invokevirtual 74, 3), (25, .ireturn, 1)]
theorem DX8_rises : ∀ q ∈ IX8_rises, decode cX8_rises q.1 = .ok q.2 := by decide +kernel
def IX8_price : List (Nat × Instr × Nat) := [(0, .iload_n 1, 1), (1, .invokestatic 89, 3), (4, .ifCond .eq 25, 3), (7, .iload_n 2, 1), (8, .iconst 0, 1), (9, .bipush 9, 2), (11, .invokestatic 47, 3), (14, .ifCond .eq 15, 3), (17, .aload_n 0, 1), (18, .bipush 13, 2), (20, .iload_n 1, 1), (21, .iadd, 1), (22, .iload_n 2, 1), (23, .invokevirtual 85, 3), (26, .goto 9, 3), (29, .aload_n 0, 1), (30, .ldc 73, 2), (32, .invokevirtual 74, 3), (35, .ireturn, 1)]
theorem DX8_price : ∀ q ∈ IX8_price, decode cX8_price q.1 = .ok q.2 := by decide +kernel
def IX8_sells : List (Nat × Instr × Nat) := [(0, .iload_n 2, 1), (1, .aload_n 0, 1), (2, .iload_n 1, 1), (3, .aload_n 0, 1), (4, .getfield 9, 3), (7, .bipush 9, 2), (9, .iload_n 1, 1), (10, .iadd, 1), (11, .iaload, 1), (12, .invokevirtual 92, 3), (15, .imul, 1), (16, .istore_n 3, 1), (17, .aload_n 0, 1), (18, .getfield 9, 3), (21, .iconst 4, 1), (22, .aload_n 0, 1), (23, .getfield 9, 3), (26, .iconst 4, 1), (27, .iaload, 1), (28, .iload_n 3, 1), (29, .iadd, 1), (30, .ldc 95, 2), (32, .ldc 96, 2), (34, .invokestatic 97, 3), (37, .iastore, 1), (38, .aload_n 0, 1), (39, .getfield 9, 3), (42, .bipush 9, 2), (44, .iload_n 1, 1), (45, .iadd, 1), (46, .dup2, 1), (47, .iaload, 1), (48, .iload_n 2, 1), (49, .iadd, 1), (50, .iastore, 1), (51, .iload_n 3, 1), (52, .ireturn, 1)]
theorem DX8_sells : ∀ q ∈ IX8_sells, decode cX8_sells q.1 = .ok q.2 := by decide +kernel
def IX8_sell : List (Nat × Instr × Nat) := [(0, .iload_n 1, 1), (1, .invokestatic 89, 3), (4, .ifCond .eq 13, 3), (7, .iload_n 2, 1), (8, .iconst 0, 1), (9, .bipush 99, 2), (11, .invokestatic 47, 3), (14, .ifCond .ne 10, 3), (17, .aload_n 0, 1), (18, .ldc 73, 2), (20, .invokevirtual 74, 3), (23, .ireturn, 1), (24, .aload_n 0, 1), (25, .getfield 9, 3), (28, .bipush 9, 2), (30, .iload_n 1, 1), (31, .iadd, 1), (32, .iaload, 1), (33, .iload_n 2, 1), (34, .iadd, 1), (35, .bipush 99, 2), (37, .if_icmp .le 12, 3), (40, .aload_n 0, 1), (41, .ldc 100, 2), (43, .invokevirtual 74, 3), (46, .goto 9, 3), (49, .aload_n 0, 1), (50, .iload_n 1, 1), (51, .iload_n 2, 1), (52, .invokevirtual 101, 3), (55, .ireturn, 1)]
theorem DX8_sell : ∀ q ∈ IX8_sell, decode cX8_sell q.1 = .ok q.2 := by decide +kernel
def IX8_feed : List (Nat × Instr × Nat) := [(0, .iload_n 3, 1), (1, .iconst 1, 1), (2, .bipush 8, 2), (4, .invokestatic 47, 3), (7, .ifCond .ne 10, 3), (10, .aload_n 0, 1), (11, .ldc 73, 2), (13, .invokevirtual 74, 3), (16, .ireturn, 1), (17, .aload_n 0, 1), (18, .getfield 9, 3), (21, .bipush 7, 2), (23, .iaload, 1), (24, .iload_n 3, 1), (25, .iadd, 1), (26, .bipush 60, 2), (28, .if_icmp .le 10, 3), (31, .aload_n 0, 1), (32, .ldc 78, 2), (34, .invokevirtual 74, 3), (37, .ireturn, 1), (38, .iconst 0, 1), (39, .istore 4, 2), (41, .iload 4, 2), (43, .iload_n 3, 1), (44, .if_icmp .ge 47, 3), (47, .aload_n 0, 1), (48, .getfield 9, 3), (51, .bipush 35, 2), (53, .aload_n 0, 1), (54, .getfield 9, 3), (57, .bipush 7, 2), (59, .iaload, 1), (60, .iadd, 1), (61, .lload_n 1, 1), (62, .bipush 8, 2), (64, .iload 4, 2), (66, .imul, 1), (67, .lshr, 1), (68, .ldc2_w 104, 3), (71, .land, 1), (72, .l2i, 1), (73, .iastore, 1), (74, .aload_n 0, 1), (75, .getfield 9, 3), (78, .bipush 7, 2), (80, .dup2, 1), (81, .iaload, 1), (82, .iconst 1, 1), (83, .iadd, 1), (84, .iastore, 1), (85, .iinc 4 1, 3), (88, .goto (-47), 3), (91, .aload_n 0, 1), (92, .getfield 9, 3), (95, .bipush 7, 2), (97, .iaload, 1), (98, .ireturn, 1)]
theorem DX8_feed : ∀ q ∈ IX8_feed, decode cX8_feed q.1 = .ok q.2 := by decide +kernel
def IX8_look : List (Nat × Instr × Nat) := [(0, .aload_n 0, 1), (1, .getfield 106, 3), (4, .aload_n 0, 1), (5, .getfield 9, 3), (8, .bipush 7, 2), (10, .iaload, 1), (11, .if_icmp .ge 18, 3), (14, .aload_n 0, 1), (15, .getfield 9, 3), (18, .bipush 35, 2), (20, .aload_n 0, 1), (21, .getfield 106, 3), (24, .iadd, 1), (25, .iaload, 1), (26, .goto 4, 3), (29, .iconst (-1), 1), (30, .ireturn, 1)]
theorem DX8_look : ∀ q ∈ IX8_look, decode cX8_look q.1 = .ok q.2 := by decide +kernel
def IX8_lays : List (Nat × Instr × Nat) := [(0, .aload_n 0, 1), (1, .getfield 110, 3), (4, .aload_n 0, 1), (5, .getfield 28, 3), (8, .arraylength, 1), (9, .if_icmp .ge 33, 3), (12, .aload_n 0, 1), (13, .getfield 28, 3), (16, .aload_n 0, 1), (17, .getfield 110, 3), (20, .iload_n 1, 1), (21, .iastore, 1), (22, .aload_n 0, 1), (23, .getfield 31, 3), (26, .aload_n 0, 1), (27, .getfield 110, 3), (30, .iload_n 2, 1), (31, .iastore, 1), (32, .aload_n 0, 1), (33, .dup, 1), (34, .getfield 110, 3), (37, .iconst 1, 1), (38, .iadd, 1), (39, .putfield 110, 3), (42, .return_, 1)]
theorem DX8_lays : ∀ q ∈ IX8_lays, decode cX8_lays q.1 = .ok q.2 := by decide +kernel
def IX8_nameOf : List (Nat × Instr × Nat) := [(0, .iload_n 1, 1), (1, .lookupswitch 100 #[(99, 53), (110, 51), (112, 76), (115, 53), (116, 76)], 51), (52, .iconst 2, 1), (53, .ireturn, 1), (54, .aload_n 0, 1), (55, .getfield 113, 3), (58, .ifCond .eq 7, 3), (61, .iconst (-1), 1), (62, .goto 14, 3), (65, .iload_n 1, 1), (66, .bipush 99, 2), (68, .if_icmp .ne 7, 3), (71, .iconst 0, 1), (72, .goto 4, 3), (75, .iconst 1, 1), (76, .ireturn, 1), (77, .aload_n 0, 1), (78, .getfield 113, 3), (81, .iconst 1, 1), (82, .if_icmp .eq 7, 3), (85, .iconst (-1), 1), (86, .goto 14, 3), (89, .iload_n 1, 1), (90, .bipush 112, 2), (92, .if_icmp .ne 7, 3), (95, .iconst 0, 1), (96, .goto 4, 3), (99, .iconst 1, 1), (100, .ireturn, 1), (101, .iconst (-1), 1), (102, .ireturn, 1)]
theorem DX8_nameOf : ∀ q ∈ IX8_nameOf, decode cX8_nameOf q.1 = .ok q.2 := by decide +kernel
def IX8_number : List (Nat × Instr × Nat) := [(0, .iconst 0, 1), (1, .istore_n 1, 1), (2, .iconst 0, 1), (3, .istore_n 2, 1), (4, .iload_n 2, 1), (5, .iconst 4, 1), (6, .if_icmp .ge 46, 3), (9, .aload_n 0, 1), (10, .invokevirtual 116, 3), (13, .bipush 48, 2), (15, .bipush 57, 2), (17, .invokestatic 47, 3), (20, .ifCond .eq 32, 3), (23, .bipush 10, 2), (25, .iload_n 1, 1), (26, .imul, 1), (27, .aload_n 0, 1), (28, .invokevirtual 116, 3), (31, .iadd, 1), (32, .bipush 48, 2), (34, .isub, 1), (35, .istore_n 1, 1), (36, .aload_n 0, 1), (37, .dup, 1), (38, .getfield 106, 3), (41, .iconst 1, 1), (42, .iadd, 1), (43, .putfield 106, 3), (46, .iinc 2 1, 3), (49, .goto (-45), 3), (52, .aload_n 0, 1), (53, .iload_n 2, 1), (54, .ifCond .ne 7, 3), (57, .iconst 1, 1), (58, .goto 4, 3), (61, .iconst 0, 1), (62, .putfield 120, 3), (65, .aload_n 0, 1), (66, .iconst 1, 1), (67, .iload_n 1, 1), (68, .invokevirtual 124, 3), (71, .return_, 1)]
theorem DX8_number : ∀ q ∈ IX8_number, decode cX8_number q.1 = .ok q.2 := by decide +kernel
def IX8_opens : List (Nat × Instr × Nat) := [(0, .aload_n 0, 1), (1, .getfield 128, 3), (4, .iconst 5, 1), (5, .if_icmp .ne 9, 3), (8, .aload_n 0, 1), (9, .iconst 1, 1), (10, .putfield 120, 3), (13, .return_, 1), (14, .aload_n 0, 1), (15, .dup, 1), (16, .getfield 128, 3), (19, .iconst 1, 1), (20, .iadd, 1), (21, .putfield 128, 3), (24, .aload_n 0, 1), (25, .dup, 1), (26, .getfield 106, 3), (29, .iconst 1, 1), (30, .iadd, 1), (31, .putfield 106, 3), (34, .iload_n 1, 1), (35, .bipush 33, 2), (37, .if_icmp .ne 16, 3), (40, .aload_n 0, 1), (41, .invokevirtual 131, 3), (44, .aload_n 0, 1), (45, .iconst 3, 1), (46, .iconst 0, 1), (47, .invokevirtual 124, 3), (50, .goto 53, 3), (53, .aload_n 0, 1), (54, .invokevirtual 134, 3), (57, .aload_n 0, 1), (58, .aload_n 0, 1), (59, .getfield 120, 3), (62, .ifCond .ne 12, 3), (65, .aload_n 0, 1), (66, .invokevirtual 116, 3), (69, .bipush 41, 2), (71, .if_icmp .eq 7, 3), (74, .iconst 1, 1), (75, .goto 4, 3), (78, .iconst 0, 1), (79, .putfield 120, 3), (82, .aload_n 0, 1), (83, .dup, 1), (84, .getfield 106, 3), (87, .aload_n 0, 1), (88, .getfield 120, 3), (91, .ifCond .eq 7, 3), (94, .iconst 0, 1), (95, .goto 4, 3), (98, .iconst 1, 1), (99, .iadd, 1), (100, .putfield 106, 3), (103, .aload_n 0, 1), (104, .dup, 1), (105, .getfield 128, 3), (108, .iconst 1, 1), (109, .isub, 1), (110, .putfield 128, 3), (113, .return_, 1)]
theorem DX8_opens : ∀ q ∈ IX8_opens, decode cX8_opens q.1 = .ok q.2 := by decide +kernel
def IX8_one : List (Nat × Instr × Nat) := [(0, .aload_n 0, 1), (1, .invokevirtual 116, 3), (4, .istore_n 1, 1), (5, .aload_n 0, 1), (6, .iload_n 1, 1), (7, .invokevirtual 137, 3), (10, .istore_n 2, 1), (11, .iload_n 2, 1), (12, .ifCond .lt 22, 3), (15, .aload_n 0, 1), (16, .dup, 1), (17, .getfield 106, 3), (20, .iconst 1, 1), (21, .iadd, 1), (22, .putfield 106, 3), (25, .aload_n 0, 1), (26, .iconst 2, 1), (27, .iload_n 2, 1), (28, .invokevirtual 124, 3), (31, .goto 27, 3), (34, .iload_n 1, 1), (35, .bipush 33, 2), (37, .if_icmp .eq 9, 3), (40, .iload_n 1, 1), (41, .bipush 40, 2), (43, .if_icmp .ne 11, 3), (46, .aload_n 0, 1), (47, .iload_n 1, 1), (48, .invokevirtual 140, 3), (51, .goto 7, 3), (54, .aload_n 0, 1), (55, .invokevirtual 144, 3), (58, .return_, 1)]
theorem DX8_one : ∀ q ∈ IX8_one, decode cX8_one q.1 = .ok q.2 := by decide +kernel
def IX8_times : List (Nat × Instr × Nat) := [(0, .aload_n 0, 1), (1, .invokevirtual 131, 3), (4, .aload_n 0, 1), (5, .getfield 120, 3), (8, .ifCond .ne 58, 3), (11, .aload_n 0, 1), (12, .invokevirtual 116, 3), (15, .bipush 42, 2), (17, .if_icmp .eq 21, 3), (20, .aload_n 0, 1), (21, .invokevirtual 116, 3), (24, .bipush 47, 2), (26, .if_icmp .eq 12, 3), (29, .aload_n 0, 1), (30, .invokevirtual 116, 3), (33, .bipush 37, 2), (35, .if_icmp .ne 31, 3), (38, .aload_n 0, 1), (39, .invokevirtual 116, 3), (42, .istore_n 1, 1), (43, .aload_n 0, 1), (44, .dup, 1), (45, .getfield 106, 3), (48, .iconst 1, 1), (49, .iadd, 1), (50, .putfield 106, 3), (53, .aload_n 0, 1), (54, .invokevirtual 131, 3), (57, .aload_n 0, 1), (58, .iload_n 1, 1), (59, .iconst 0, 1), (60, .invokevirtual 124, 3), (63, .goto (-59), 3), (66, .return_, 1)]
theorem DX8_times : ∀ q ∈ IX8_times, decode cX8_times q.1 = .ok q.2 := by decide +kernel
def IX8_sum : List (Nat × Instr × Nat) := [(0, .aload_n 0, 1), (1, .invokevirtual 147, 3), (4, .aload_n 0, 1), (5, .getfield 120, 3), (8, .ifCond .ne 49, 3), (11, .aload_n 0, 1), (12, .invokevirtual 116, 3), (15, .bipush 43, 2), (17, .if_icmp .eq 12, 3), (20, .aload_n 0, 1), (21, .invokevirtual 116, 3), (24, .bipush 45, 2), (26, .if_icmp .ne 31, 3), (29, .aload_n 0, 1), (30, .invokevirtual 116, 3), (33, .istore_n 1, 1), (34, .aload_n 0, 1), (35, .dup, 1), (36, .getfield 106, 3), (39, .iconst 1, 1), (40, .iadd, 1), (41, .putfield 106, 3), (44, .aload_n 0, 1), (45, .invokevirtual 147, 3), (48, .aload_n 0, 1), (49, .iload_n 1, 1), (50, .iconst 0, 1), (51, .invokevirtual 124, 3), (54, .goto (-50), 3), (57, .return_, 1)]
theorem DX8_sum : ∀ q ∈ IX8_sum, decode cX8_sum q.1 = .ok q.2 := by decide +kernel
def IX8_compares : List (Nat × Instr × Nat) := [(0, .aload_n 0, 1), (1, .invokevirtual 150, 3), (4, .aload_n 0, 1), (5, .invokevirtual 116, 3), (8, .istore_n 1, 1), (9, .aload_n 0, 1), (10, .getfield 120, 3), (13, .ifCond .ne 41, 3), (16, .iload_n 1, 1), (17, .bipush 60, 2), (19, .if_icmp .eq 15, 3), (22, .iload_n 1, 1), (23, .bipush 61, 2), (25, .if_icmp .eq 9, 3), (28, .iload_n 1, 1), (29, .bipush 62, 2), (31, .if_icmp .ne 23, 3), (34, .aload_n 0, 1), (35, .dup, 1), (36, .getfield 106, 3), (39, .iconst 1, 1), (40, .iadd, 1), (41, .putfield 106, 3), (44, .aload_n 0, 1), (45, .invokevirtual 150, 3), (48, .aload_n 0, 1), (49, .iload_n 1, 1), (50, .iconst 0, 1), (51, .invokevirtual 124, 3), (54, .return_, 1)]
theorem DX8_compares : ∀ q ∈ IX8_compares, decode cX8_compares q.1 = .ok q.2 := by decide +kernel
def IX8_all : List (Nat × Instr × Nat) := [(0, .aload_n 0, 1), (1, .invokevirtual 153, 3), (4, .aload_n 0, 1), (5, .getfield 120, 3), (8, .ifCond .ne 36, 3), (11, .aload_n 0, 1), (12, .invokevirtual 116, 3), (15, .bipush 38, 2), (17, .if_icmp .ne 27, 3), (20, .aload_n 0, 1), (21, .dup, 1), (22, .getfield 106, 3), (25, .iconst 1, 1), (26, .iadd, 1), (27, .putfield 106, 3), (30, .aload_n 0, 1), (31, .invokevirtual 153, 3), (34, .aload_n 0, 1), (35, .bipush 38, 2), (37, .iconst 0, 1), (38, .invokevirtual 124, 3), (41, .goto (-37), 3), (44, .return_, 1)]
theorem DX8_all : ∀ q ∈ IX8_all, decode cX8_all q.1 = .ok q.2 := by decide +kernel
def IX8_any : List (Nat × Instr × Nat) := [(0, .aload_n 0, 1), (1, .invokevirtual 156, 3), (4, .aload_n 0, 1), (5, .getfield 120, 3), (8, .ifCond .ne 36, 3), (11, .aload_n 0, 1), (12, .invokevirtual 116, 3), (15, .bipush 124, 2), (17, .if_icmp .ne 27, 3), (20, .aload_n 0, 1), (21, .dup, 1), (22, .getfield 106, 3), (25, .iconst 1, 1), (26, .iadd, 1), (27, .putfield 106, 3), (30, .aload_n 0, 1), (31, .invokevirtual 156, 3), (34, .aload_n 0, 1), (35, .bipush 124, 2), (37, .iconst 0, 1), (38, .invokevirtual 124, 3), (41, .goto (-37), 3), (44, .return_, 1)]
theorem DX8_any : ∀ q ∈ IX8_any, decode cX8_any q.1 = .ok q.2 := by decide +kernel
def IX8_text : List (Nat × Instr × Nat) := [(0, .iload_n 1, 1), (1, .iconst 0, 1), (2, .iconst 1, 1), (3, .invokestatic 47, 3), (6, .ifCond .ne 10, 3), (9, .aload_n 0, 1), (10, .ldc 73, 2), (12, .invokevirtual 74, 3), (15, .ireturn, 1), (16, .aload_n 0, 1), (17, .iload_n 1, 1), (18, .putfield 113, 3), (21, .aload_n 0, 1), (22, .iconst 0, 1), (23, .putfield 110, 3), (26, .aload_n 0, 1), (27, .iconst 0, 1), (28, .putfield 106, 3), (31, .aload_n 0, 1), (32, .iconst 0, 1), (33, .putfield 128, 3), (36, .aload_n 0, 1), (37, .iconst 0, 1), (38, .putfield 120, 3), (41, .aload_n 0, 1), (42, .invokevirtual 134, 3), (45, .aload_n 0, 1), (46, .aload_n 0, 1), (47, .getfield 120, 3), (50, .ifCond .ne 17, 3), (53, .aload_n 0, 1), (54, .getfield 106, 3), (57, .aload_n 0, 1), (58, .getfield 9, 3), (61, .bipush 7, 2), (63, .iaload, 1), (64, .if_icmp .ge 7, 3), (67, .iconst 1, 1), (68, .goto 4, 3), (71, .iconst 0, 1), (72, .putfield 120, 3), (75, .aload_n 0, 1), (76, .getfield 9, 3), (79, .bipush 7, 2), (81, .iconst 0, 1), (82, .iastore, 1), (83, .aload_n 0, 1), (84, .getfield 120, 3), (87, .ifCond .eq 11, 3), (90, .bipush (-10), 2), (92, .aload_n 0, 1), (93, .getfield 106, 3), (96, .isub, 1), (97, .ireturn, 1), (98, .bipush 119, 2), (100, .bipush 121, 2), (102, .iload_n 1, 1), (103, .imul, 1), (104, .iadd, 1), (105, .istore_n 2, 1), (106, .aload_n 0, 1), (107, .getfield 9, 3), (110, .iload_n 2, 1), (111, .aload_n 0, 1), (112, .getfield 110, 3), (115, .iastore, 1), (116, .iconst 0, 1), (117, .istore_n 3, 1), (118, .iload_n 3, 1), (119, .aload_n 0, 1), (120, .getfield 110, 3), (123, .if_icmp .ge 42, 3), (126, .aload_n 0, 1), (127, .getfield 9, 3), (130, .iload_n 2, 1), (131, .iconst 1, 1), (132, .iadd, 1), (133, .iload_n 3, 1), (134, .iadd, 1), (135, .aload_n 0, 1), (136, .getfield 28, 3), (139, .iload_n 3, 1), (140, .iaload, 1), (141, .iastore, 1), (142, .aload_n 0, 1), (143, .getfield 9, 3), (146, .iload_n 2, 1), (147, .bipush 61, 2), (149, .iadd, 1), (150, .iload_n 3, 1), (151, .iadd, 1), (152, .aload_n 0, 1), (153, .getfield 31, 3), (156, .iload_n 3, 1), (157, .iaload, 1), (158, .iastore, 1), (159, .iinc 3 1, 3), (162, .goto (-44), 3), (165, .iconst 1, 1), (166, .ireturn, 1)]
theorem DX8_text : ∀ q ∈ IX8_text, decode cX8_text q.1 = .ok q.2 := by decide +kernel
def IX8_untell : List (Nat × Instr × Nat) := [(0, .iload_n 1, 1), (1, .iconst 0, 1), (2, .iconst 1, 1), (3, .invokestatic 47, 3), (6, .ifCond .ne 10, 3), (9, .aload_n 0, 1), (10, .ldc 73, 2), (12, .invokevirtual 74, 3), (15, .ireturn, 1), (16, .aload_n 0, 1), (17, .bipush 119, 2), (19, .bipush 121, 2), (21, .iload_n 1, 1), (22, .imul, 1), (23, .iadd, 1), (24, .iconst 0, 1), (25, .invokevirtual 85, 3), (28, .ifCond .le 7, 3), (31, .iconst 1, 1), (32, .goto 4, 3), (35, .iconst 0, 1), (36, .ireturn, 1)]
theorem DX8_untell : ∀ q ∈ IX8_untell, decode cX8_untell q.1 = .ok q.2 := by decide +kernel
def IX8_twoOf : List (Nat × Instr × Nat) := [(0, .iload_n 0, 1), (1, .tableswitch 202 37 62 #[143, 188, 202, 202, 202, 127, 119, 202, 123, 202, 131, 202, 202, 202, 202, 202, 202, 202, 202, 202, 202, 202, 202, 155, 166, 177], 119), (120, .iload_n 1, 1), (121, .iload_n 2, 1), (122, .iadd, 1), (123, .ireturn, 1), (124, .iload_n 1, 1), (125, .iload_n 2, 1), (126, .isub, 1), (127, .ireturn, 1), (128, .iload_n 1, 1), (129, .iload_n 2, 1), (130, .imul, 1), (131, .ireturn, 1), (132, .iload_n 2, 1), (133, .ifCond .ne 7, 3), (136, .iconst 0, 1), (137, .goto 6, 3), (140, .iload_n 1, 1), (141, .iload_n 2, 1), (142, .idiv, 1), (143, .ireturn, 1), (144, .iload_n 2, 1), (145, .ifCond .ne 7, 3), (148, .iconst 0, 1), (149, .goto 6, 3), (152, .iload_n 1, 1), (153, .iload_n 2, 1), (154, .irem, 1), (155, .ireturn, 1), (156, .iload_n 1, 1), (157, .iload_n 2, 1), (158, .if_icmp .ge 7, 3), (161, .iconst 1, 1), (162, .goto 4, 3), (165, .iconst 0, 1), (166, .ireturn, 1), (167, .iload_n 1, 1), (168, .iload_n 2, 1), (169, .if_icmp .ne 7, 3), (172, .iconst 1, 1), (173, .goto 4, 3), (176, .iconst 0, 1), (177, .ireturn, 1), (178, .iload_n 1, 1), (179, .iload_n 2, 1), (180, .if_icmp .le 7, 3), (183, .iconst 1, 1), (184, .goto 4, 3), (187, .iconst 0, 1), (188, .ireturn, 1), (189, .iload_n 1, 1), (190, .ifCond .eq 11, 3), (193, .iload_n 2, 1), (194, .ifCond .eq 7, 3), (197, .iconst 1, 1), (198, .goto 4, 3), (201, .iconst 0, 1), (202, .ireturn, 1), (203, .iload_n 1, 1), (204, .ifCond .ne 7, 3), (207, .iload_n 2, 1), (208, .ifCond .eq 7, 3), (211, .iconst 1, 1), (212, .goto 4, 3), (215, .iconst 0, 1), (216, .ireturn, 1)]
theorem DX8_twoOf : ∀ q ∈ IX8_twoOf, decode cX8_twoOf q.1 = .ok q.2 := by decide +kernel
def IX8_works : List (Nat × Instr × Nat) := [(0, .iconst 0, 1), (1, .istore_n 2, 1), (2, .iconst 0, 1), (3, .istore_n 3, 1), (4, .iload_n 3, 1), (5, .aload_n 0, 1), (6, .getfield 9, 3), (9, .iload_n 1, 1), (10, .iaload, 1), (11, .if_icmp .ge 144, 3), (14, .aload_n 0, 1), (15, .getfield 9, 3), (18, .iload_n 1, 1), (19, .iconst 1, 1), (20, .iadd, 1), (21, .iload_n 3, 1), (22, .iadd, 1), (23, .iaload, 1), (24, .istore 4, 2), (26, .iload 4, 2), (28, .iconst 1, 1), (29, .if_icmp .eq 9, 3), (32, .iload 4, 2), (34, .iconst 2, 1), (35, .if_icmp .ne 51, 3), (38, .aload_n 0, 1), (39, .getfield 37, 3), (42, .iload_n 2, 1), (43, .iload 4, 2), (45, .iconst 1, 1), (46, .if_icmp .ne 17, 3), (49, .aload_n 0, 1), (50, .getfield 9, 3), (53, .iload_n 1, 1), (54, .bipush 61, 2), (56, .iadd, 1), (57, .iload_n 3, 1), (58, .iadd, 1), (59, .iaload, 1), (60, .goto 19, 3), (63, .aload_n 0, 1), (64, .getfield 34, 3), (67, .aload_n 0, 1), (68, .getfield 9, 3), (71, .iload_n 1, 1), (72, .bipush 61, 2), (74, .iadd, 1), (75, .iload_n 3, 1), (76, .iadd, 1), (77, .iaload, 1), (78, .iaload, 1), (79, .iastore, 1), (80, .iinc 2 1, 3), (83, .goto 66, 3), (86, .iload 4, 2), (88, .iconst 3, 1), (89, .if_icmp .ne 30, 3), (92, .aload_n 0, 1), (93, .getfield 37, 3), (96, .iload_n 2, 1), (97, .iconst 1, 1), (98, .isub, 1), (99, .aload_n 0, 1), (100, .getfield 37, 3), (103, .iload_n 2, 1), (104, .iconst 1, 1), (105, .isub, 1), (106, .iaload, 1), (107, .ifCond .ne 7, 3), (110, .iconst 1, 1), (111, .goto 4, 3), (114, .iconst 0, 1), (115, .iastore, 1), (116, .goto 33, 3), (119, .iinc 2 (-1), 3), (122, .aload_n 0, 1), (123, .getfield 37, 3), (126, .iload_n 2, 1), (127, .iconst 1, 1), (128, .isub, 1), (129, .iload 4, 2), (131, .aload_n 0, 1), (132, .getfield 37, 3), (135, .iload_n 2, 1), (136, .iconst 1, 1), (137, .isub, 1), (138, .iaload, 1), (139, .aload_n 0, 1), (140, .getfield 37, 3), (143, .iload_n 2, 1), (144, .iaload, 1), (145, .invokestatic 159, 3), (148, .iastore, 1), (149, .iinc 3 1, 3), (152, .goto (-148), 3), (155, .aload_n 0, 1), (156, .getfield 37, 3), (159, .iconst 0, 1), (160, .iaload, 1), (161, .ireturn, 1)]
theorem DX8_works : ∀ q ∈ IX8_works, decode cX8_works q.1 = .ok q.2 := by decide +kernel
def IX8_gives : List (Nat × Instr × Nat) := [(0, .bipush 119, 2), (2, .bipush 121, 2), (4, .iload_n 1, 1), (5, .imul, 1), (6, .iadd, 1), (7, .istore 5, 2), (9, .aload_n 0, 1), (10, .getfield 34, 3), (13, .iconst 0, 1), (14, .iload_n 2, 1), (15, .iastore, 1), (16, .aload_n 0, 1), (17, .getfield 34, 3), (20, .iconst 1, 1), (21, .iload_n 3, 1), (22, .iastore, 1), (23, .aload_n 0, 1), (24, .getfield 34, 3), (27, .iconst 2, 1), (28, .iload 4, 2), (30, .iastore, 1), (31, .aload_n 0, 1), (32, .getfield 9, 3), (35, .iload 5, 2), (37, .iaload, 1), (38, .ifCond .le 12, 3), (41, .aload_n 0, 1), (42, .iload 5, 2), (44, .invokevirtual 162, 3), (47, .goto 4, 3), (50, .iload_n 2, 1), (51, .iconst 0, 1), (52, .bipush 99, 2), (54, .invokestatic 97, 3), (57, .ireturn, 1)]
theorem DX8_gives : ∀ q ∈ IX8_gives, decode cX8_gives q.1 = .ok q.2 := by decide +kernel
def IX8_law : List (Nat × Instr × Nat) := [(0, .iload_n 1, 1), (1, .iconst 0, 1), (2, .iconst 1, 1), (3, .invokestatic 47, 3), (6, .ifCond .eq 15, 3), (9, .aload_n 0, 1), (10, .iload_n 1, 1), (11, .iload_n 2, 1), (12, .iload_n 3, 1), (13, .iload 4, 2), (15, .invokevirtual 58, 3), (18, .goto 9, 3), (21, .aload_n 0, 1), (22, .ldc 73, 2), (24, .invokevirtual 74, 3), (27, .ireturn, 1)]
theorem DX8_law : ∀ q ∈ IX8_law, decode cX8_law q.1 = .ok q.2 := by decide +kernel
def IX8_pays : List (Nat × Instr × Nat) := [(0, .aload_n 0, 1), (1, .getfield 9, 3), (4, .iconst 4, 1), (5, .aload_n 0, 1), (6, .getfield 9, 3), (9, .iconst 4, 1), (10, .iaload, 1), (11, .iload_n 1, 1), (12, .isub, 1), (13, .ldc 95, 2), (15, .ldc 96, 2), (17, .invokestatic 97, 3), (20, .iastore, 1), (21, .return_, 1)]
theorem DX8_pays : ∀ q ∈ IX8_pays, decode cX8_pays q.1 = .ok q.2 := by decide +kernel
def IX8_tallies_p1 : List (Nat × Instr × Nat) := [(0, .iconst 0, 1), (1, .istore_n 1, 1), (2, .iconst 0, 1), (3, .istore_n 2, 1), (4, .iload_n 2, 1), (5, .iconst 4, 1), (6, .if_icmp .ge 45, 3), (9, .aload_n 0, 1), (10, .iload_n 2, 1), (11, .aload_n 0, 1), (12, .getfield 9, 3), (15, .bipush 9, 2), (17, .iload_n 2, 1), (18, .iadd, 1), (19, .iaload, 1), (20, .invokevirtual 165, 3), (23, .istore_n 3, 1), (24, .aload_n 0, 1), (25, .iconst 2, 1), (26, .iload_n 3, 1), (27, .imul, 1), (28, .aload_n 0, 1), (29, .getfield 9, 3), (32, .bipush 13, 2), (34, .iload_n 2, 1), (35, .iadd, 1), (36, .iaload, 1), (37, .imul, 1), (38, .invokevirtual 168, 3), (41, .iload_n 1, 1), (42, .iload_n 3, 1), (43, .iadd, 1), (44, .istore_n 1, 1), (45, .iinc 2 1, 3), (48, .goto (-44), 3), (51, .iconst 0, 1), (52, .istore_n 2, 1), (53, .iload_n 2, 1), (54, .iconst 4, 1), (55, .if_icmp .ge 19, 3), (58, .aload_n 0, 1), (59, .getfield 9, 3), (62, .bipush 9, 2), (64, .iload_n 2, 1), (65, .iadd, 1), (66, .iconst 0, 1), (67, .iastore, 1), (68, .iinc 2 1, 3), (71, .goto (-18), 3), (74, .iconst 0, 1), (75, .istore_n 2, 1), (76, .iload_n 2, 1), (77, .aload_n 0, 1), (78, .getfield 9, 3), (81, .iconst 2, 1), (82, .iaload, 1), (83, .if_icmp .ge 32, 3), (86, .aload_n 0, 1), (87, .aload_n 0, 1), (88, .iload_n 2, 1), (89, .iconst 2, 1), (90, .invokevirtual 51, 3), (93, .iconst 1, 1), (94, .if_icmp .ne 7, 3), (97, .iconst 0, 1), (98, .goto 8, 3), (101, .aload_n 0, 1), (102, .iload_n 2, 1), (103, .invokevirtual 82, 3), (106, .invokevirtual 168, 3), (109, .iinc 2 1, 3), (112, .goto (-36), 3), (115, .aload_n 0, 1), (116, .getfield 9, 3), (119, .iconst 5, 1), (120, .aload_n 0, 1), (121, .getfield 9, 3), (124, .iconst 5, 1), (125, .iaload, 1), (126, .iload_n 1, 1), (127, .iadd, 1), (128, .iconst 0, 1), (129, .ldc 96, 2), (131, .invokestatic 97, 3), (134, .iastore, 1), (135, .aload_n 0, 1), (136, .getfield 9, 3), (139, .bipush 6, 2), (141, .aload_n 0, 1), (142, .getfield 9, 3), (145, .bipush 6, 2), (147, .iaload, 1), (148, .iload_n 1, 1), (149, .ifCond .ne 7, 3), (152, .iconst 1, 1), (153, .goto 5, 3), (156, .bipush (-2), 2), (158, .iadd, 1), (159, .iconst 0, 1), (160, .bipush 99, 2)]
theorem DX8_tallies_p1 : ∀ q ∈ IX8_tallies_p1, decode cX8_tallies q.1 = .ok q.2 := by decide +kernel
def IX8_tallies_p2 : List (Nat × Instr × Nat) := [(162, .invokestatic 97, 3), (165, .iastore, 1), (166, .aload_n 0, 1), (167, .getfield 9, 3), (170, .iconst 0, 1), (171, .dup2, 1), (172, .iaload, 1), (173, .iconst 1, 1), (174, .iadd, 1), (175, .iastore, 1), (176, .iload_n 1, 1), (177, .ireturn, 1)]
theorem DX8_tallies_p2 : ∀ q ∈ IX8_tallies_p2, decode cX8_tallies q.1 = .ok q.2 := by decide +kernel
def IX8_tally : List (Nat × Instr × Nat) := [(0, .aload_n 0, 1), (1, .getfield 9, 3), (4, .iconst 0, 1), (5, .iaload, 1), (6, .sipush 9999, 3), (9, .if_icmp .ne 12, 3), (12, .aload_n 0, 1), (13, .ldc 100, 2), (15, .invokevirtual 74, 3), (18, .goto 7, 3), (21, .aload_n 0, 1), (22, .invokevirtual 171, 3), (25, .ireturn, 1)]
theorem DX8_tally : ∀ q ∈ IX8_tally, decode cX8_tally q.1 = .ok q.2 := by decide +kernel
def IX8_draw : List (Nat × Instr × Nat) := [(0, .aload_n 0, 1), (1, .getfield 9, 3), (4, .iconst 1, 1), (5, .aload_n 0, 1), (6, .getfield 9, 3), (9, .iconst 1, 1), (10, .iaload, 1), (11, .ldc 174, 2), (13, .imul, 1), (14, .sipush 12345, 3), (17, .iadd, 1), (18, .iastore, 1), (19, .aload_n 0, 1), (20, .getfield 9, 3), (23, .iconst 1, 1), (24, .iaload, 1), (25, .bipush 8, 2), (27, .iushr, 1), (28, .ireturn, 1)]
theorem DX8_draw : ∀ q ∈ IX8_draw, decode cX8_draw q.1 = .ok q.2 := by decide +kernel
def IX8_drawn : List (Nat × Instr × Nat) := [(0, .aload_n 0, 1), (1, .invokevirtual 175, 3), (4, .iconst 4, 1), (5, .irem, 1), (6, .istore_n 1, 1), (7, .aload_n 0, 1), (8, .invokevirtual 175, 3), (11, .bipush 30, 2), (13, .irem, 1), (14, .istore_n 2, 1), (15, .aload_n 0, 1), (16, .getfield 9, 3), (19, .bipush 9, 2), (21, .iload_n 1, 1), (22, .iadd, 1), (23, .iaload, 1), (24, .iload_n 2, 1), (25, .iadd, 1), (26, .bipush 99, 2), (28, .if_icmp .gt 10, 3), (31, .aload_n 0, 1), (32, .iload_n 1, 1), (33, .iload_n 2, 1), (34, .invokevirtual 101, 3), (37, .istore_n 3, 1), (38, .aload_n 0, 1), (39, .getfield 9, 3), (42, .iconst 3, 1), (43, .aload_n 0, 1), (44, .invokevirtual 175, 3), (47, .bipush 10, 2), (49, .irem, 1), (50, .iastore, 1), (51, .aload_n 0, 1), (52, .invokevirtual 171, 3), (55, .ireturn, 1)]
theorem DX8_drawn : ∀ q ∈ IX8_drawn, decode cX8_drawn q.1 = .ok q.2 := by decide +kernel
def IX8_loose : List (Nat × Instr × Nat) := [(0, .iload_n 1, 1), (1, .iconst 1, 1), (2, .bipush 30, 2), (4, .invokestatic 47, 3), (7, .ifCond .ne 10, 3), (10, .aload_n 0, 1), (11, .ldc 73, 2), (13, .invokevirtual 74, 3), (16, .ireturn, 1), (17, .aload_n 0, 1), (18, .getfield 9, 3), (21, .iconst 0, 1), (22, .iaload, 1), (23, .iload_n 1, 1), (24, .iadd, 1), (25, .sipush 9999, 3), (28, .if_icmp .le 10, 3), (31, .aload_n 0, 1), (32, .ldc 100, 2), (34, .invokevirtual 74, 3), (37, .ireturn, 1), (38, .iconst 0, 1), (39, .istore_n 2, 1), (40, .iconst 0, 1), (41, .istore_n 3, 1), (42, .iload_n 3, 1), (43, .iload_n 1, 1), (44, .if_icmp .ge 16, 3), (47, .iload_n 2, 1), (48, .aload_n 0, 1), (49, .invokevirtual 178, 3), (52, .iadd, 1), (53, .istore_n 2, 1), (54, .iinc 3 1, 3), (57, .goto (-15), 3), (60, .iload_n 2, 1), (61, .ireturn, 1)]
theorem DX8_loose : ∀ q ∈ IX8_loose, decode cX8_loose q.1 = .ok q.2 := by decide +kernel
def IX8_seed : List (Nat × Instr × Nat) := [(0, .aload_n 0, 1), (1, .iconst 1, 1), (2, .iload_n 1, 1), (3, .invokevirtual 85, 3), (6, .ireturn, 1)]
theorem DX8_seed : ∀ q ∈ IX8_seed, decode cX8_seed q.1 = .ok q.2 := by decide +kernel
def IX8_catches : List (Nat × Instr × Nat) := [(0, .iload_n 1, 1), (1, .invokestatic 89, 3), (4, .ifCond .eq 11, 3), (7, .aload_n 0, 1), (8, .iload_n 1, 1), (9, .invokevirtual 181, 3), (12, .goto 9, 3), (15, .aload_n 0, 1), (16, .ldc 73, 2), (18, .invokevirtual 74, 3), (21, .ireturn, 1)]
theorem DX8_catches : ∀ q ∈ IX8_catches, decode cX8_catches q.1 = .ok q.2 := by decide +kernel
def IX8_enough : List (Nat × Instr × Nat) := [(0, .aload_n 0, 1), (1, .getfield 9, 3), (4, .iconst 3, 1), (5, .iaload, 1), (6, .istore_n 3, 1), (7, .iconst 0, 1), (8, .istore 4, 2), (10, .iconst 0, 1), (11, .istore 5, 2), (13, .iload 5, 2), (15, .bipush 10, 2), (17, .if_icmp .ge 37, 3), (20, .aload_n 0, 1), (21, .getfield 9, 3), (24, .iconst 3, 1), (25, .iload 5, 2), (27, .iastore, 1), (28, .iload 4, 2), (30, .aload_n 0, 1), (31, .iload_n 1, 1), (32, .iload_n 2, 1), (33, .invokevirtual 66, 3), (36, .iload_n 2, 1), (37, .if_icmp .lt 7, 3), (40, .iconst 1, 1), (41, .goto 4, 3), (44, .iconst 0, 1), (45, .iadd, 1), (46, .istore 4, 2), (48, .iinc 5 1, 3), (51, .goto (-38), 3), (54, .aload_n 0, 1), (55, .getfield 9, 3), (58, .iconst 3, 1), (59, .iload_n 3, 1), (60, .iastore, 1), (61, .iload 4, 2), (63, .ireturn, 1)]
theorem DX8_enough : ∀ q ∈ IX8_enough, decode cX8_enough q.1 = .ok q.2 := by decide +kernel
def IX8_safe : List (Nat × Instr × Nat) := [(0, .iload_n 1, 1), (1, .invokestatic 89, 3), (4, .ifCond .ne 10, 3), (7, .aload_n 0, 1), (8, .ldc 73, 2), (10, .invokevirtual 74, 3), (13, .ireturn, 1), (14, .bipush 99, 2), (16, .istore_n 2, 1), (17, .iload_n 2, 1), (18, .ifCond .le 20, 3), (21, .aload_n 0, 1), (22, .iload_n 1, 1), (23, .iload_n 2, 1), (24, .invokevirtual 184, 3), (27, .bipush 10, 2), (29, .if_icmp .ge 9, 3), (32, .iinc 2 (-1), 3), (35, .goto (-18), 3), (38, .iload_n 2, 1), (39, .ireturn, 1)]
theorem DX8_safe : ∀ q ∈ IX8_safe, decode cX8_safe q.1 = .ok q.2 := by decide +kernel
def IX8_shortest : List (Nat × Instr × Nat) := [(0, .aload_n 0, 1), (1, .getfield 9, 3), (4, .iconst 3, 1), (5, .iaload, 1), (6, .istore_n 3, 1), (7, .iconst 0, 1), (8, .istore 4, 2), (10, .iconst 0, 1), (11, .istore 5, 2), (13, .iload 5, 2), (15, .bipush 10, 2), (17, .if_icmp .ge 28, 3), (20, .aload_n 0, 1), (21, .getfield 9, 3), (24, .iconst 3, 1), (25, .iload 5, 2), (27, .iastore, 1), (28, .iload 4, 2), (30, .aload_n 0, 1), (31, .iload_n 1, 1), (32, .iload_n 2, 1), (33, .invokevirtual 165, 3), (36, .iadd, 1), (37, .istore 4, 2), (39, .iinc 5 1, 3), (42, .goto (-29), 3), (45, .aload_n 0, 1), (46, .getfield 9, 3), (49, .iconst 3, 1), (50, .iload_n 3, 1), (51, .iastore, 1), (52, .iload 4, 2), (54, .ireturn, 1)]
theorem DX8_shortest : ∀ q ∈ IX8_shortest, decode cX8_shortest q.1 = .ok q.2 := by decide +kernel
def IX8_best : List (Nat × Instr × Nat) := [(0, .iload_n 1, 1), (1, .invokestatic 89, 3), (4, .ifCond .eq 12, 3), (7, .iload_n 2, 1), (8, .iconst 0, 1), (9, .iconst 1, 1), (10, .invokestatic 47, 3), (13, .ifCond .ne 10, 3), (16, .aload_n 0, 1), (17, .ldc 73, 2), (19, .invokevirtual 74, 3), (22, .ireturn, 1), (23, .aload_n 0, 1), (24, .iload_n 1, 1), (25, .iconst 0, 1), (26, .invokevirtual 92, 3), (29, .istore_n 3, 1), (30, .iconst 0, 1), (31, .istore 4, 2), (33, .iconst 0, 1), (34, .istore 5, 2), (36, .iconst 0, 1), (37, .istore 6, 2), (39, .iload 6, 2), (41, .bipush 99, 2), (43, .if_icmp .gt 85, 3), (46, .bipush 10, 2), (48, .iload 6, 2), (50, .imul, 1), (51, .iload_n 3, 1), (52, .imul, 1), (53, .iconst 2, 1), (54, .aload_n 0, 1), (55, .getfield 9, 3), (58, .bipush 13, 2), (60, .iload_n 1, 1), (61, .iadd, 1), (62, .iaload, 1), (63, .imul, 1), (64, .aload_n 0, 1), (65, .iload_n 1, 1), (66, .iload 6, 2), (68, .invokevirtual 187, 3), (71, .imul, 1), (72, .isub, 1), (73, .istore 7, 2), (75, .iload 6, 2), (77, .ifCond .eq 10, 3), (80, .iload 7, 2), (82, .iload 5, 2), (84, .if_icmp .le 7, 3), (87, .iconst 1, 1), (88, .goto 4, 3), (91, .iconst 0, 1), (92, .istore 8, 2), (94, .iload 8, 2), (96, .ifCond .eq 8, 3), (99, .iload 6, 2), (101, .goto 5, 3), (104, .iload 4, 2), (106, .istore 4, 2), (108, .iload 8, 2), (110, .ifCond .eq 8, 3), (113, .iload 7, 2), (115, .goto 5, 3), (118, .iload 5, 2), (120, .istore 5, 2), (122, .iinc 6 1, 3), (125, .goto (-86), 3), (128, .iload_n 2, 1), (129, .ifCond .ne 8, 3), (132, .iload 4, 2), (134, .goto 5, 3), (137, .iload 5, 2), (139, .ireturn, 1)]
theorem DX8_best : ∀ q ∈ IX8_best, decode cX8_best q.1 = .ok q.2 := by decide +kernel
def IX8_agrees : List (Nat × Instr × Nat) := [(0, .iload_n 1, 1), (1, .invokestatic 89, 3), (4, .ifCond .eq 12, 3), (7, .iload_n 2, 1), (8, .iconst 0, 1), (9, .iconst 1, 1), (10, .invokestatic 47, 3), (13, .ifCond .ne 10, 3), (16, .aload_n 0, 1), (17, .ldc 73, 2), (19, .invokevirtual 74, 3), (22, .ireturn, 1), (23, .iconst 0, 1), (24, .istore_n 3, 1), (25, .iconst (-1), 1), (26, .istore 4, 2), (28, .bipush 99, 2), (30, .istore 5, 2), (32, .iload 5, 2), (34, .ifCond .lt 55, 3), (37, .aload_n 0, 1), (38, .iload_n 1, 1), (39, .iload 5, 2), (41, .invokevirtual 66, 3), (44, .iload 5, 2), (46, .if_icmp .ne 7, 3), (49, .iconst 1, 1), (50, .goto 4, 3), (53, .iconst 0, 1), (54, .istore 6, 2), (56, .iload_n 3, 1), (57, .iload 6, 2), (59, .ifCond .eq 7, 3), (62, .iconst 1, 1), (63, .goto 4, 3), (66, .iconst 0, 1), (67, .iadd, 1), (68, .istore_n 3, 1), (69, .iload 6, 2), (71, .ifCond .eq 8, 3), (74, .iload 5, 2), (76, .goto 5, 3), (79, .iload 4, 2), (81, .istore 4, 2), (83, .iinc 5 (-1), 3), (86, .goto (-54), 3), (89, .iload_n 2, 1), (90, .ifCond .ne 7, 3), (93, .iload_n 3, 1), (94, .goto 19, 3), (97, .iload 4, 2), (99, .ifCond .ge 12, 3), (102, .aload_n 0, 1), (103, .ldc 190, 2), (105, .invokevirtual 74, 3), (108, .goto 5, 3), (111, .iload 4, 2), (113, .ireturn, 1)]
theorem DX8_agrees : ∀ q ∈ IX8_agrees, decode cX8_agrees q.1 = .ok q.2 := by decide +kernel
def IX8_isEnough : List (Nat × Instr × Nat) := [(0, .iconst 1, 1), (1, .istore_n 2, 1), (2, .iconst 0, 1), (3, .istore_n 3, 1), (4, .iload_n 3, 1), (5, .iconst 4, 1), (6, .if_icmp .ge 86, 3), (9, .iload_n 2, 1), (10, .ifCond .eq 82, 3), (13, .iconst 0, 1), (14, .istore 4, 2), (16, .iconst 0, 1), (17, .istore 5, 2), (19, .iload 5, 2), (21, .aload_n 0, 1), (22, .getfield 9, 3), (25, .iconst 2, 1), (26, .iaload, 1), (27, .if_icmp .ge 39, 3), (30, .iload 4, 2), (32, .iload_n 1, 1), (33, .iload 5, 2), (35, .ishr, 1), (36, .iconst 1, 1), (37, .iand, 1), (38, .iconst 1, 1), (39, .if_icmp .ne 17, 3), (42, .aload_n 0, 1), (43, .getfield 40, 3), (46, .iconst 4, 1), (47, .iload 5, 2), (49, .imul, 1), (50, .iload_n 3, 1), (51, .iadd, 1), (52, .iaload, 1), (53, .goto 4, 3), (56, .iconst 0, 1), (57, .iadd, 1), (58, .istore 4, 2), (60, .iinc 5 1, 3), (63, .goto (-44), 3), (66, .iload 4, 2), (68, .aload_n 0, 1), (69, .getfield 9, 3), (72, .bipush 9, 2), (74, .iload_n 3, 1), (75, .iadd, 1), (76, .iaload, 1), (77, .if_icmp .lt 7, 3), (80, .iconst 1, 1), (81, .goto 4, 3), (84, .iconst 0, 1), (85, .istore_n 2, 1), (86, .iinc 3 1, 3), (89, .goto (-85), 3), (92, .iload_n 2, 1), (93, .ireturn, 1)]
theorem DX8_isEnough : ∀ q ∈ IX8_isEnough, decode cX8_isEnough q.1 = .ok q.2 := by decide +kernel
def IX8_needs : List (Nat × Instr × Nat) := [(0, .iload_n 1, 1), (1, .iconst 0, 1), (2, .iconst 1, 1), (3, .invokestatic 47, 3), (6, .ifCond .ne 10, 3), (9, .aload_n 0, 1), (10, .ldc 73, 2), (12, .invokevirtual 74, 3), (15, .ireturn, 1), (16, .iconst 0, 1), (17, .istore_n 2, 1), (18, .iload_n 2, 1), (19, .iconst 4, 1), (20, .aload_n 0, 1), (21, .getfield 9, 3), (24, .iconst 2, 1), (25, .iaload, 1), (26, .imul, 1), (27, .if_icmp .ge 36, 3), (30, .aload_n 0, 1), (31, .getfield 40, 3), (34, .iload_n 2, 1), (35, .aload_n 0, 1), (36, .iload_n 2, 1), (37, .iconst 4, 1), (38, .idiv, 1), (39, .iload_n 2, 1), (40, .iconst 4, 1), (41, .irem, 1), (42, .aload_n 0, 1), (43, .getfield 9, 3), (46, .bipush 9, 2), (48, .iload_n 2, 1), (49, .iconst 4, 1), (50, .irem, 1), (51, .iadd, 1), (52, .iaload, 1), (53, .invokevirtual 62, 3), (56, .iastore, 1), (57, .iinc 2 1, 3), (60, .goto (-42), 3), (63, .iconst (-1), 1), (64, .istore_n 2, 1), (65, .iconst 0, 1), (66, .istore_n 3, 1), (67, .iload_n 3, 1), (68, .iconst 1, 1), (69, .aload_n 0, 1), (70, .getfield 9, 3), (73, .iconst 2, 1), (74, .iaload, 1), (75, .ishl, 1), (76, .if_icmp .ge 50, 3), (79, .iload_n 2, 1), (80, .ifCond .lt 14, 3), (83, .iload_n 3, 1), (84, .invokestatic 191, 3), (87, .iload_n 2, 1), (88, .invokestatic 191, 3), (91, .if_icmp .ge 7, 3), (94, .iconst 1, 1), (95, .goto 4, 3), (98, .iconst 0, 1), (99, .istore 4, 2), (101, .iload 4, 2), (103, .ifCond .eq 15, 3), (106, .aload_n 0, 1), (107, .iload_n 3, 1), (108, .invokevirtual 194, 3), (111, .ifCond .eq 7, 3), (114, .iload_n 3, 1), (115, .goto 4, 3), (118, .iload_n 2, 1), (119, .istore_n 2, 1), (120, .iinc 3 1, 3), (123, .goto (-56), 3), (126, .iload_n 2, 1), (127, .ifCond .ge 12, 3), (130, .aload_n 0, 1), (131, .ldc 190, 2), (133, .invokevirtual 74, 3), (136, .goto 15, 3), (139, .iload_n 1, 1), (140, .ifCond .ne 10, 3), (143, .iload_n 2, 1), (144, .invokestatic 191, 3), (147, .goto 4, 3), (150, .iload_n 2, 1), (151, .ireturn, 1)]
theorem DX8_needs : ∀ q ∈ IX8_needs, decode cX8_needs q.1 = .ok q.2 := by decide +kernel
def IX8_soonest : List (Nat × Instr × Nat) := [(0, .iload_n 1, 1), (1, .invokestatic 89, 3), (4, .ifCond .eq 13, 3), (7, .iload_n 2, 1), (8, .iconst 0, 1), (9, .bipush 99, 2), (11, .invokestatic 47, 3), (14, .ifCond .ne 10, 3), (17, .aload_n 0, 1), (18, .ldc 73, 2), (20, .invokevirtual 74, 3), (23, .ireturn, 1), (24, .aload_n 0, 1), (25, .getfield 9, 3), (28, .iconst 0, 1), (29, .iaload, 1), (30, .istore_n 3, 1), (31, .aload_n 0, 1), (32, .getfield 9, 3), (35, .iconst 0, 1), (36, .iaload, 1), (37, .iload_n 3, 1), (38, .bipush 60, 2), (40, .iadd, 1), (41, .if_icmp .gt 26, 3), (44, .aload_n 0, 1), (45, .iload_n 1, 1), (46, .iload_n 2, 1), (47, .invokevirtual 66, 3), (50, .iload_n 2, 1), (51, .if_icmp .ge 16, 3), (54, .aload_n 0, 1), (55, .getfield 9, 3), (58, .iconst 0, 1), (59, .dup2, 1), (60, .iaload, 1), (61, .iconst 1, 1), (62, .iadd, 1), (63, .iastore, 1), (64, .goto (-33), 3), (67, .aload_n 0, 1), (68, .getfield 9, 3), (71, .iconst 0, 1), (72, .iaload, 1), (73, .iload_n 3, 1), (74, .isub, 1), (75, .istore 4, 2), (77, .aload_n 0, 1), (78, .getfield 9, 3), (81, .iconst 0, 1), (82, .iload_n 3, 1), (83, .iastore, 1), (84, .iload 4, 2), (86, .bipush 60, 2), (88, .if_icmp .le 12, 3), (91, .aload_n 0, 1), (92, .ldc 190, 2), (94, .invokevirtual 74, 3), (97, .goto 5, 3), (100, .iload 4, 2), (102, .ireturn, 1)]
theorem DX8_soonest : ∀ q ∈ IX8_soonest, decode cX8_soonest q.1 = .ok q.2 := by decide +kernel
def IX8_partOf : List (Nat × Instr × Nat) := [(0, .iload_n 0, 1), (1, .istore_n 3, 1), (2, .iload_n 1, 1), (3, .istore 4, 2), (5, .iload_n 3, 1), (6, .ifCond .eq 18, 3), (9, .iload 4, 2), (11, .iload_n 3, 1), (12, .irem, 1), (13, .istore 5, 2), (15, .iload_n 3, 1), (16, .istore 4, 2), (18, .iload 5, 2), (20, .istore_n 3, 1), (21, .goto (-16), 3), (24, .iload_n 2, 1), (25, .ifCond .ne 10, 3), (28, .iload_n 0, 1), (29, .iload 4, 2), (31, .idiv, 1), (32, .goto 7, 3), (35, .iload_n 1, 1), (36, .iload 4, 2), (38, .idiv, 1), (39, .ireturn, 1)]
theorem DX8_partOf : ∀ q ∈ IX8_partOf, decode cX8_partOf q.1 = .ok q.2 := by decide +kernel
def IX8_odds : List (Nat × Instr × Nat) := [(0, .iload_n 1, 1), (1, .invokestatic 89, 3), (4, .ifCond .eq 22, 3), (7, .iload_n 2, 1), (8, .iconst 0, 1), (9, .bipush 99, 2), (11, .invokestatic 47, 3), (14, .ifCond .eq 12, 3), (17, .iload_n 3, 1), (18, .iconst 0, 1), (19, .iconst 1, 1), (20, .invokestatic 47, 3), (23, .ifCond .ne 10, 3), (26, .aload_n 0, 1), (27, .ldc 73, 2), (29, .invokevirtual 74, 3), (32, .ireturn, 1), (33, .aload_n 0, 1), (34, .iload_n 1, 1), (35, .iload_n 2, 1), (36, .invokevirtual 184, 3), (39, .bipush 10, 2), (41, .iload_n 3, 1), (42, .invokestatic 197, 3), (45, .ireturn, 1)]
theorem DX8_odds : ∀ q ∈ IX8_odds, decode cX8_odds q.1 = .ok q.2 := by decide +kernel
def IX8_mean : List (Nat × Instr × Nat) := [(0, .iload_n 1, 1), (1, .invokestatic 89, 3), (4, .ifCond .eq 12, 3), (7, .iload_n 2, 1), (8, .iconst 0, 1), (9, .iconst 1, 1), (10, .invokestatic 47, 3), (13, .ifCond .ne 10, 3), (16, .aload_n 0, 1), (17, .ldc 73, 2), (19, .invokevirtual 74, 3), (22, .ireturn, 1), (23, .aload_n 0, 1), (24, .getfield 9, 3), (27, .iconst 3, 1), (28, .iaload, 1), (29, .istore_n 3, 1), (30, .iconst 0, 1), (31, .istore 4, 2), (33, .iconst 0, 1), (34, .istore 5, 2), (36, .iload 5, 2), (38, .bipush 10, 2), (40, .if_icmp .ge 27, 3), (43, .aload_n 0, 1), (44, .getfield 9, 3), (47, .iconst 3, 1), (48, .iload 5, 2), (50, .iastore, 1), (51, .iload 4, 2), (53, .aload_n 0, 1), (54, .iload_n 1, 1), (55, .invokevirtual 181, 3), (58, .iadd, 1), (59, .istore 4, 2), (61, .iinc 5 1, 3), (64, .goto (-28), 3), (67, .aload_n 0, 1), (68, .getfield 9, 3), (71, .iconst 3, 1), (72, .iload_n 3, 1), (73, .iastore, 1), (74, .iload 4, 2), (76, .bipush 10, 2), (78, .iload_n 2, 1), (79, .invokestatic 197, 3), (82, .ireturn, 1)]
theorem DX8_mean : ∀ q ∈ IX8_mean, decode cX8_mean q.1 = .ok q.2 := by decide +kernel
def IX8_rightOf : List (Nat × Instr × Nat) := [(0, .iconst 0, 1), (1, .istore_n 2, 1), (2, .iload_n 2, 1), (3, .aload_n 0, 1), (4, .getfield 22, 3), (7, .iload_n 1, 1), (8, .iaload, 1), (9, .if_icmp .ge 33, 3), (12, .iload_n 2, 1), (13, .iconst 4, 1), (14, .if_icmp .ge 28, 3), (17, .aload_n 0, 1), (18, .getfield 25, 3), (21, .bipush 24, 2), (23, .iload_n 1, 1), (24, .imul, 1), (25, .iload_n 2, 1), (26, .iadd, 1), (27, .iaload, 1), (28, .aload_n 0, 1), (29, .iload_n 2, 1), (30, .invokevirtual 181, 3), (33, .if_icmp .ne 9, 3), (36, .iinc 2 1, 3), (39, .goto (-37), 3), (42, .iload_n 2, 1), (43, .ireturn, 1)]
theorem DX8_rightOf : ∀ q ∈ IX8_rightOf, decode cX8_rightOf q.1 = .ok q.2 := by decide +kernel
def IX8_fits : List (Nat × Instr × Nat) := [(0, .iload_n 1, 1), (1, .invokestatic 200, 3), (4, .ifCond .eq 12, 3), (7, .iload_n 2, 1), (8, .iconst 0, 1), (9, .iconst 1, 1), (10, .invokestatic 47, 3), (13, .ifCond .ne 10, 3), (16, .aload_n 0, 1), (17, .ldc 73, 2), (19, .invokevirtual 74, 3), (22, .ireturn, 1), (23, .aload_n 0, 1), (24, .getfield 19, 3), (27, .iload_n 1, 1), (28, .iaload, 1), (29, .ifCond .ne 10, 3), (32, .aload_n 0, 1), (33, .ldc 190, 2), (35, .invokevirtual 74, 3), (38, .ireturn, 1), (39, .aload_n 0, 1), (40, .getfield 9, 3), (43, .iconst 3, 1), (44, .iaload, 1), (45, .istore_n 3, 1), (46, .iconst 0, 1), (47, .istore 4, 2), (49, .iconst (-1), 1), (50, .istore 5, 2), (52, .bipush 9, 2), (54, .istore 6, 2), (56, .iload 6, 2), (58, .ifCond .lt 70, 3), (61, .aload_n 0, 1), (62, .getfield 9, 3), (65, .iconst 3, 1), (66, .iload 6, 2), (68, .iastore, 1), (69, .aload_n 0, 1), (70, .iload_n 1, 1), (71, .invokevirtual 203, 3), (74, .aload_n 0, 1), (75, .getfield 22, 3), (78, .iload_n 1, 1), (79, .iaload, 1), (80, .if_icmp .ne 7, 3), (83, .iconst 1, 1), (84, .goto 4, 3), (87, .iconst 0, 1), (88, .istore 7, 2), (90, .iload 4, 2), (92, .iload 7, 2), (94, .ifCond .eq 10, 3), (97, .iconst 1, 1), (98, .iload 6, 2), (100, .ishl, 1), (101, .goto 4, 3), (104, .iconst 0, 1), (105, .ior, 1), (106, .istore 4, 2), (108, .iload 7, 2), (110, .ifCond .eq 8, 3), (113, .iload 6, 2), (115, .goto 5, 3), (118, .iload 5, 2), (120, .istore 5, 2), (122, .iinc 6 (-1), 3), (125, .goto (-69), 3), (128, .aload_n 0, 1), (129, .getfield 9, 3), (132, .iconst 3, 1), (133, .iload_n 3, 1), (134, .iastore, 1), (135, .iload_n 2, 1), (136, .ifCond .ne 8, 3), (139, .iload 4, 2), (141, .goto 19, 3), (144, .iload 5, 2), (146, .ifCond .ge 12, 3), (149, .aload_n 0, 1), (150, .ldc 190, 2), (152, .invokevirtual 74, 3), (155, .goto 5, 3), (158, .iload 5, 2), (160, .ireturn, 1)]
theorem DX8_fits : ∀ q ∈ IX8_fits, decode cX8_fits q.1 = .ok q.2 := by decide +kernel
def IX8_begins : List (Nat × Instr × Nat) := [(0, .aload_n 0, 1), (1, .getfield 206, 3), (4, .bipush 30, 2), (6, .if_icmp .ge 23, 3), (9, .aload_n 0, 1), (10, .getfield 43, 3), (13, .aload_n 0, 1), (14, .getfield 206, 3), (17, .iload_n 1, 1), (18, .iastore, 1), (19, .aload_n 0, 1), (20, .dup, 1), (21, .getfield 206, 3), (24, .iconst 1, 1), (25, .iadd, 1), (26, .putfield 206, 3), (29, .return_, 1)]
theorem DX8_begins : ∀ q ∈ IX8_begins, decode cX8_begins q.1 = .ok q.2 := by decide +kernel
def IX8_plainCalls : List (Nat × Instr × Nat) := [(0, .aload_n 0, 1), (1, .bipush 10, 2), (3, .invokevirtual 209, 3), (6, .iload_n 2, 1), (7, .iload_n 1, 1), (8, .iadd, 1), (9, .ireturn, 1)]
theorem DX8_plainCalls : ∀ q ∈ IX8_plainCalls, decode cX8_plainCalls q.1 = .ok q.2 := by decide +kernel
def IX8_smackCalls : List (Nat × Instr × Nat) := [(0, .aload_n 0, 1), (1, .bipush 20, 2), (3, .invokevirtual 209, 3), (6, .aload_n 0, 1), (7, .iload_n 1, 1), (8, .iload_n 2, 1), (9, .invokevirtual 212, 3), (12, .iconst 4, 1), (13, .isub, 1), (14, .ireturn, 1)]
theorem DX8_smackCalls : ∀ q ∈ IX8_smackCalls, decode cX8_smackCalls q.1 = .ok q.2 := by decide +kernel
def IX8_calls : List (Nat × Instr × Nat) := [(0, .aload_n 0, 1), (1, .iload_n 1, 1), (2, .iconst 0, 1), (3, .invokevirtual 51, 3), (6, .lookupswitch 65 #[(1, 34), (4, 41), (6, 56)], 34), (40, .aload_n 0, 1), (41, .iload_n 1, 1), (42, .iload_n 2, 1), (43, .invokevirtual 215, 3), (46, .ireturn, 1), (47, .aload_n 0, 1), (48, .bipush 50, 2), (50, .invokevirtual 209, 3), (53, .aload_n 0, 1), (54, .iload_n 1, 1), (55, .iload_n 2, 1), (56, .invokevirtual 215, 3), (59, .iconst 3, 1), (60, .imul, 1), (61, .ireturn, 1), (62, .aload_n 0, 1), (63, .bipush 70, 2), (65, .invokevirtual 209, 3), (68, .bipush 9, 2), (70, .ireturn, 1), (71, .aload_n 0, 1), (72, .iload_n 1, 1), (73, .iload_n 2, 1), (74, .invokevirtual 212, 3), (77, .ireturn, 1)]
theorem DX8_calls : ∀ q ∈ IX8_calls, decode cX8_calls q.1 = .ok q.2 := by decide +kernel
def IX8_plainHauls : List (Nat × Instr × Nat) := [(0, .aload_n 0, 1), (1, .bipush 11, 2), (3, .invokevirtual 209, 3), (6, .aload_n 0, 1), (7, .iload_n 1, 1), (8, .iload_n 2, 1), (9, .invokevirtual 218, 3), (12, .iconst 2, 1), (13, .imul, 1), (14, .ireturn, 1)]
theorem DX8_plainHauls : ∀ q ∈ IX8_plainHauls, decode cX8_plainHauls q.1 = .ok q.2 := by decide +kernel
def IX8_skiffHauls : List (Nat × Instr × Nat) := [(0, .aload_n 0, 1), (1, .bipush 30, 2), (3, .invokevirtual 209, 3), (6, .aload_n 0, 1), (7, .iload_n 1, 1), (8, .iload_n 2, 1), (9, .invokevirtual 221, 3), (12, .ineg, 1), (13, .ireturn, 1)]
theorem DX8_skiffHauls : ∀ q ∈ IX8_skiffHauls, decode cX8_skiffHauls q.1 = .ok q.2 := by decide +kernel
def IX8_hauls : List (Nat × Instr × Nat) := [(0, .aload_n 0, 1), (1, .iload_n 1, 1), (2, .iconst 0, 1), (3, .invokevirtual 51, 3), (6, .tableswitch 76 2 6 #[34, 76, 76, 41, 56], 34), (40, .aload_n 0, 1), (41, .iload_n 1, 1), (42, .iload_n 2, 1), (43, .invokevirtual 224, 3), (46, .ireturn, 1), (47, .aload_n 0, 1), (48, .bipush 60, 2), (50, .invokevirtual 209, 3), (53, .aload_n 0, 1), (54, .iload_n 1, 1), (55, .iload_n 2, 1), (56, .iconst 1, 1), (57, .iadd, 1), (58, .invokevirtual 224, 3), (61, .ireturn, 1), (62, .aload_n 0, 1), (63, .bipush 71, 2), (65, .invokevirtual 209, 3), (68, .aload_n 0, 1), (69, .iload_n 1, 1), (70, .iload_n 2, 1), (71, .invokevirtual 221, 3), (74, .aload_n 0, 1), (75, .iload_n 1, 1), (76, .iconst 1, 1), (77, .invokevirtual 51, 3), (80, .iadd, 1), (81, .ireturn, 1), (82, .aload_n 0, 1), (83, .iload_n 1, 1), (84, .iload_n 2, 1), (85, .invokevirtual 221, 3), (88, .ireturn, 1)]
theorem DX8_hauls : ∀ q ∈ IX8_hauls, decode cX8_hauls q.1 = .ok q.2 := by decide +kernel
def IX8_plainLets : List (Nat × Instr × Nat) := [(0, .aload_n 0, 1), (1, .bipush 12, 2), (3, .invokevirtual 209, 3), (6, .aload_n 0, 1), (7, .iload_n 1, 1), (8, .iload_n 2, 1), (9, .invokevirtual 227, 3), (12, .aload_n 0, 1), (13, .iload_n 1, 1), (14, .iconst 1, 1), (15, .invokevirtual 51, 3), (18, .isub, 1), (19, .ireturn, 1)]
theorem DX8_plainLets : ∀ q ∈ IX8_plainLets, decode cX8_plainLets q.1 = .ok q.2 := by decide +kernel
def IX8_letsBy : List (Nat × Instr × Nat) := [(0, .aload_n 0, 1), (1, .iload_n 1, 1), (2, .iconst 0, 1), (3, .invokevirtual 51, 3), (6, .lookupswitch 56 #[(3, 26), (4, 41)], 26), (32, .aload_n 0, 1), (33, .bipush 40, 2), (35, .invokevirtual 209, 3), (38, .aload_n 0, 1), (39, .iload_n 1, 1), (40, .iload_n 2, 1), (41, .iconst 2, 1), (42, .idiv, 1), (43, .invokevirtual 230, 3), (46, .ireturn, 1), (47, .aload_n 0, 1), (48, .bipush 51, 2), (50, .invokevirtual 209, 3), (53, .aload_n 0, 1), (54, .iload_n 1, 1), (55, .iload_n 2, 1), (56, .invokevirtual 230, 3), (59, .iload_n 1, 1), (60, .ixor, 1), (61, .ireturn, 1), (62, .aload_n 0, 1), (63, .iload_n 1, 1), (64, .iload_n 2, 1), (65, .invokevirtual 230, 3), (68, .ireturn, 1)]
theorem DX8_letsBy : ∀ q ∈ IX8_letsBy, decode cX8_letsBy q.1 = .ok q.2 := by decide +kernel
def IX8_plainParts : List (Nat × Instr × Nat) := [(0, .aload_n 0, 1), (1, .bipush 13, 2), (3, .invokevirtual 209, 3), (6, .aload_n 0, 1), (7, .iload_n 1, 1), (8, .iconst 1, 1), (9, .invokevirtual 51, 3), (12, .iload_n 1, 1), (13, .isub, 1), (14, .istore_n 3, 1), (15, .aload_n 0, 1), (16, .iload_n 3, 1), (17, .ifCond .ne 7, 3), (20, .iconst 1, 1), (21, .goto 4, 3), (24, .iconst 0, 1), (25, .putfield 233, 3), (28, .aload_n 0, 1), (29, .getfield 233, 3), (32, .ifCond .eq 7, 3), (35, .iconst 0, 1), (36, .goto 6, 3), (39, .iload_n 2, 1), (40, .iload_n 3, 1), (41, .idiv, 1), (42, .ireturn, 1)]
theorem DX8_plainParts : ∀ q ∈ IX8_plainParts, decode cX8_plainParts q.1 = .ok q.2 := by decide +kernel
def IX8_partsBy : List (Nat × Instr × Nat) := [(0, .aload_n 0, 1), (1, .iload_n 1, 1), (2, .iconst 0, 1), (3, .invokevirtual 51, 3), (6, .iconst 1, 1), (7, .if_icmp .eq 13, 3), (10, .aload_n 0, 1), (11, .iload_n 1, 1), (12, .iconst 0, 1), (13, .invokevirtual 51, 3), (16, .iconst 4, 1), (17, .if_icmp .ne 36, 3), (20, .aload_n 0, 1), (21, .bipush 21, 2), (23, .invokevirtual 209, 3), (26, .aload_n 0, 1), (27, .iload_n 1, 1), (28, .iload_n 2, 1), (29, .invokevirtual 236, 3), (32, .istore_n 3, 1), (33, .aload_n 0, 1), (34, .getfield 233, 3), (37, .ifCond .eq 7, 3), (40, .iconst 0, 1), (41, .goto 11, 3), (44, .iload_n 3, 1), (45, .aload_n 0, 1), (46, .iload_n 1, 1), (47, .iconst 1, 1), (48, .invokevirtual 227, 3), (51, .iadd, 1), (52, .ireturn, 1), (53, .aload_n 0, 1), (54, .iload_n 1, 1), (55, .iload_n 2, 1), (56, .invokevirtual 236, 3), (59, .ireturn, 1)]
theorem DX8_partsBy : ∀ q ∈ IX8_partsBy, decode cX8_partsBy q.1 = .ok q.2 := by decide +kernel
def IX8_voice : List (Nat × Instr × Nat) := [(0, .aload_n 0, 1), (1, .iload_n 1, 1), (2, .invokevirtual 79, 3), (5, .ifCond .eq 12, 3), (8, .iload_n 2, 1), (9, .iconst 0, 1), (10, .iconst 3, 1), (11, .invokestatic 47, 3), (14, .ifCond .ne 10, 3), (17, .aload_n 0, 1), (18, .ldc 73, 2), (20, .invokevirtual 74, 3), (23, .ireturn, 1), (24, .aload_n 0, 1), (25, .iconst 0, 1), (26, .putfield 206, 3), (29, .aload_n 0, 1), (30, .iconst 0, 1), (31, .putfield 233, 3), (34, .iload_n 2, 1), (35, .ifCond .ne 12, 3), (38, .aload_n 0, 1), (39, .iload_n 1, 1), (40, .iload_n 3, 1), (41, .invokevirtual 218, 3), (44, .goto 37, 3), (47, .iload_n 2, 1), (48, .iconst 1, 1), (49, .if_icmp .ne 12, 3), (52, .aload_n 0, 1), (53, .iload_n 1, 1), (54, .iload_n 3, 1), (55, .invokevirtual 227, 3), (58, .goto 23, 3), (61, .iload_n 2, 1), (62, .iconst 2, 1), (63, .if_icmp .ne 12, 3), (66, .aload_n 0, 1), (67, .iload_n 1, 1), (68, .iload_n 3, 1), (69, .invokevirtual 239, 3), (72, .goto 9, 3), (75, .aload_n 0, 1), (76, .iload_n 1, 1), (77, .iload_n 3, 1), (78, .invokevirtual 242, 3), (81, .istore 4, 2), (83, .aload_n 0, 1), (84, .getfield 233, 3), (87, .ifCond .eq 12, 3), (90, .aload_n 0, 1), (91, .ldc 245, 2), (93, .invokevirtual 74, 3), (96, .goto 5, 3), (99, .iload 4, 2), (101, .ireturn, 1)]
theorem DX8_voice : ∀ q ∈ IX8_voice, decode cX8_voice q.1 = .ok q.2 := by decide +kernel
def IX8_body : List (Nat × Instr × Nat) := [(0, .iload_n 1, 1), (1, .iconst 0, 1), (2, .aload_n 0, 1), (3, .getfield 206, 3), (6, .iconst 1, 1), (7, .isub, 1), (8, .invokestatic 47, 3), (11, .ifCond .eq 12, 3), (14, .aload_n 0, 1), (15, .getfield 43, 3), (18, .iload_n 1, 1), (19, .iaload, 1), (20, .goto 9, 3), (23, .aload_n 0, 1), (24, .ldc 190, 2), (26, .invokevirtual 74, 3), (29, .ireturn, 1)]
theorem DX8_body : ∀ q ∈ IX8_body, decode cX8_body q.1 = .ok q.2 := by decide +kernel
def IX8_isSheet : List (Nat × Instr × Nat) := [(0, .iload_n 0, 1), (1, .iconst 0, 1), (2, .iconst 3, 1), (3, .invokestatic 47, 3), (6, .ireturn, 1)]
theorem DX8_isSheet : ∀ q ∈ IX8_isSheet, decode cX8_isSheet q.1 = .ok q.2 := by decide +kernel
def IX8_sheet : List (Nat × Instr × Nat) := [(0, .iload_n 1, 1), (1, .invokestatic 200, 3), (4, .ifCond .eq 25, 3), (7, .iload_n 2, 1), (8, .ifCond .eq 28, 3), (11, .iload_n 2, 1), (12, .bipush 8, 2), (14, .if_icmp .eq 22, 3), (17, .iload_n 2, 1), (18, .bipush 16, 2), (20, .if_icmp .eq 16, 3), (23, .iload_n 2, 1), (24, .bipush 32, 2), (26, .if_icmp .eq 10, 3), (29, .aload_n 0, 1), (30, .ldc 73, 2), (32, .invokevirtual 74, 3), (35, .ireturn, 1), (36, .iload_n 2, 1), (37, .ifCond .le 14, 3), (40, .iload_n 3, 1), (41, .ifCond .ge 10, 3), (44, .aload_n 0, 1), (45, .ldc 100, 2), (47, .invokevirtual 74, 3), (50, .ireturn, 1), (51, .iload_n 2, 1), (52, .ifCond .le 16, 3), (55, .iload_n 3, 1), (56, .bipush 24, 2), (58, .if_icmp .le 10, 3), (61, .aload_n 0, 1), (62, .ldc 73, 2), (64, .invokevirtual 74, 3), (67, .ireturn, 1), (68, .aload_n 0, 1), (69, .getfield 19, 3), (72, .iload_n 1, 1), (73, .iload_n 2, 1), (74, .iastore, 1), (75, .aload_n 0, 1), (76, .getfield 22, 3), (79, .iload_n 1, 1), (80, .iload_n 2, 1), (81, .ifCond .ne 7, 3), (84, .iconst 0, 1), (85, .goto 4, 3), (88, .iload_n 3, 1), (89, .iastore, 1), (90, .iconst 0, 1), (91, .istore 4, 2), (93, .iload 4, 2), (95, .bipush 24, 2), (97, .if_icmp .ge 22, 3), (100, .aload_n 0, 1), (101, .getfield 25, 3), (104, .bipush 24, 2), (106, .iload_n 1, 1), (107, .imul, 1), (108, .iload 4, 2), (110, .iadd, 1), (111, .iconst 0, 1), (112, .iastore, 1), (113, .iinc 4 1, 3), (116, .goto (-23), 3), (119, .iconst 1, 1), (120, .ireturn, 1)]
theorem DX8_sheet : ∀ q ∈ IX8_sheet, decode cX8_sheet q.1 = .ok q.2 := by decide +kernel
def IX8_notThere : List (Nat × Instr × Nat) := [(0, .iload_n 1, 1), (1, .invokestatic 200, 3), (4, .ifCond .ne 8, 3), (7, .ldc 73, 2), (9, .goto 18, 3), (12, .aload_n 0, 1), (13, .getfield 19, 3), (16, .iload_n 1, 1), (17, .iaload, 1), (18, .ifCond .ne 8, 3), (21, .ldc 190, 2), (23, .goto 4, 3), (26, .iconst 0, 1), (27, .ireturn, 1)]
theorem DX8_notThere : ∀ q ∈ IX8_notThere, decode cX8_notThere q.1 = .ok q.2 := by decide +kernel
def IX8_put : List (Nat × Instr × Nat) := [(0, .aload_n 0, 1), (1, .iload_n 1, 1), (2, .invokevirtual 246, 3), (5, .istore 4, 2), (7, .iload 4, 2), (9, .ifCond .ne 24, 3), (12, .iload_n 2, 1), (13, .iconst 0, 1), (14, .aload_n 0, 1), (15, .getfield 22, 3), (18, .iload_n 1, 1), (19, .iaload, 1), (20, .iconst 1, 1), (21, .isub, 1), (22, .invokestatic 47, 3), (25, .ifCond .ne 8, 3), (28, .ldc 73, 2), (30, .goto 5, 3), (33, .iload 4, 2), (35, .istore 4, 2), (37, .iload 4, 2), (39, .ifCond .eq 10, 3), (42, .aload_n 0, 1), (43, .iload 4, 2), (45, .invokevirtual 74, 3), (48, .ireturn, 1), (49, .aload_n 0, 1), (50, .getfield 25, 3), (53, .bipush 24, 2), (55, .iload_n 1, 1), (56, .imul, 1), (57, .iload_n 2, 1), (58, .iadd, 1), (59, .aload_n 0, 1), (60, .getfield 19, 3), (63, .iload_n 1, 1), (64, .iaload, 1), (65, .bipush 8, 2), (67, .if_icmp .ne 8, 3), (70, .iload_n 3, 1), (71, .i2b, 1), (72, .goto 20, 3), (75, .aload_n 0, 1), (76, .getfield 19, 3), (79, .iload_n 1, 1), (80, .iaload, 1), (81, .bipush 16, 2), (83, .if_icmp .ne 8, 3), (86, .iload_n 3, 1), (87, .i2s, 1), (88, .goto 4, 3), (91, .iload_n 3, 1), (92, .iastore, 1), (93, .iconst 1, 1), (94, .ireturn, 1)]
theorem DX8_put : ∀ q ∈ IX8_put, decode cX8_put q.1 = .ok q.2 := by decide +kernel
def IX8_notMoved : List (Nat × Instr × Nat) := [(0, .iload_n 1, 1), (1, .invokestatic 200, 3), (4, .ifCond .eq 10, 3), (7, .iload_n 3, 1), (8, .invokestatic 200, 3), (11, .ifCond .ne 6, 3), (14, .ldc 73, 2), (16, .ireturn, 1), (17, .aload_n 0, 1), (18, .getfield 19, 3), (21, .iload_n 1, 1), (22, .iaload, 1), (23, .ifCond .eq 12, 3), (26, .aload_n 0, 1), (27, .getfield 19, 3), (30, .iload_n 3, 1), (31, .iaload, 1), (32, .ifCond .ne 6, 3), (35, .ldc 190, 2), (37, .ireturn, 1), (38, .aload_n 0, 1), (39, .getfield 19, 3), (42, .iload_n 1, 1), (43, .iaload, 1), (44, .aload_n 0, 1), (45, .getfield 19, 3), (48, .iload_n 3, 1), (49, .iaload, 1), (50, .if_icmp .eq 6, 3), (53, .ldc 88, 2), (55, .ireturn, 1), (56, .iload 5, 2), (58, .ifCond .lt 43, 3), (61, .iload_n 2, 1), (62, .ifCond .lt 39, 3), (65, .iload 4, 2), (67, .ifCond .lt 34, 3), (70, .iload 5, 2), (72, .aload_n 0, 1), (73, .getfield 22, 3), (76, .iload_n 1, 1), (77, .iaload, 1), (78, .iload_n 2, 1), (79, .isub, 1), (80, .if_icmp .gt 21, 3), (83, .iload 5, 2), (85, .aload_n 0, 1), (86, .getfield 22, 3), (89, .iload_n 3, 1), (90, .iaload, 1), (91, .iload 4, 2), (93, .isub, 1), (94, .if_icmp .gt 7, 3), (97, .iconst 1, 1), (98, .goto 4, 3), (101, .iconst 0, 1), (102, .istore 6, 2), (104, .iload 6, 2), (106, .ifCond .eq 7, 3), (109, .iconst 0, 1), (110, .goto 5, 3), (113, .ldc 73, 2), (115, .ireturn, 1)]
theorem DX8_notMoved : ∀ q ∈ IX8_notMoved, decode cX8_notMoved q.1 = .ok q.2 := by decide +kernel
def IX8_move : List (Nat × Instr × Nat) := [(0, .aload_n 0, 1), (1, .iload_n 1, 1), (2, .iload_n 2, 1), (3, .iload_n 3, 1), (4, .iload 4, 2), (6, .iload 5, 2), (8, .invokevirtual 249, 3), (11, .istore 6, 2), (13, .iload 6, 2), (15, .ifCond .eq 10, 3), (18, .aload_n 0, 1), (19, .iload 6, 2), (21, .invokevirtual 74, 3), (24, .ireturn, 1), (25, .iconst 0, 1), (26, .istore 7, 2), (28, .iload 7, 2), (30, .iload 5, 2), (32, .if_icmp .ge 58, 3), (35, .iload_n 2, 1), (36, .iload 4, 2), (38, .if_icmp .ge 13, 3), (41, .iload 5, 2), (43, .iconst 1, 1), (44, .isub, 1), (45, .iload 7, 2), (47, .isub, 1), (48, .goto 5, 3), (51, .iload 7, 2), (53, .istore 8, 2), (55, .aload_n 0, 1), (56, .getfield 25, 3), (59, .bipush 24, 2), (61, .iload_n 3, 1), (62, .imul, 1), (63, .iload 4, 2), (65, .iadd, 1), (66, .iload 8, 2), (68, .iadd, 1), (69, .aload_n 0, 1), (70, .getfield 25, 3), (73, .bipush 24, 2), (75, .iload_n 1, 1), (76, .imul, 1), (77, .iload_n 2, 1), (78, .iadd, 1), (79, .iload 8, 2), (81, .iadd, 1), (82, .iaload, 1), (83, .iastore, 1), (84, .iinc 7 1, 3), (87, .goto (-59), 3), (90, .iload 5, 2), (92, .ireturn, 1)]
theorem DX8_move : ∀ q ∈ IX8_move, decode cX8_move q.1 = .ok q.2 := by decide +kernel
def IX8_prices : List (Nat × Instr × Nat) := [(0, .aload_n 0, 1), (1, .iload_n 1, 1), (2, .invokevirtual 246, 3), (5, .istore_n 2, 1), (6, .iload_n 2, 1), (7, .ifCond .eq 9, 3), (10, .aload_n 0, 1), (11, .iload_n 2, 1), (12, .invokevirtual 74, 3), (15, .ireturn, 1), (16, .iconst 0, 1), (17, .istore_n 3, 1), (18, .iload_n 3, 1), (19, .aload_n 0, 1), (20, .getfield 22, 3), (23, .iload_n 1, 1), (24, .iaload, 1), (25, .if_icmp .ge 54, 3), (28, .iload_n 3, 1), (29, .iconst 4, 1), (30, .if_icmp .ge 49, 3), (33, .aload_n 0, 1), (34, .getfield 25, 3), (37, .bipush 24, 2), (39, .iload_n 1, 1), (40, .imul, 1), (41, .iload_n 3, 1), (42, .iadd, 1), (43, .iaload, 1), (44, .iconst 0, 1), (45, .bipush 9, 2), (47, .invokestatic 47, 3), (50, .ifCond .eq 29, 3), (53, .aload_n 0, 1), (54, .getfield 9, 3), (57, .bipush 13, 2), (59, .iload_n 3, 1), (60, .iadd, 1), (61, .aload_n 0, 1), (62, .getfield 25, 3), (65, .bipush 24, 2), (67, .iload_n 1, 1), (68, .imul, 1), (69, .iload_n 3, 1), (70, .iadd, 1), (71, .iaload, 1), (72, .iastore, 1), (73, .iinc 3 1, 3), (76, .goto (-58), 3), (79, .iload_n 3, 1), (80, .ireturn, 1)]
theorem DX8_prices : ∀ q ∈ IX8_prices, decode cX8_prices q.1 = .ok q.2 := by decide +kernel
def IX8_judge : List (Nat × Instr × Nat) := [(0, .aload_n 0, 1), (1, .iload_n 1, 1), (2, .invokevirtual 246, 3), (5, .istore_n 2, 1), (6, .iload_n 2, 1), (7, .ifCond .eq 11, 3), (10, .aload_n 0, 1), (11, .iload_n 2, 1), (12, .invokevirtual 74, 3), (15, .goto 8, 3), (18, .aload_n 0, 1), (19, .iload_n 1, 1), (20, .invokevirtual 203, 3), (23, .ireturn, 1)]
theorem DX8_judge : ∀ q ∈ IX8_judge, decode cX8_judge q.1 = .ok q.2 := by decide +kernel
def IX8_image : List (Nat × Instr × Nat) := [(0, .aload_n 0, 1), (1, .getfield 9, 3), (4, .aload_n 0, 1), (5, .getfield 13, 3), (8, .invokestatic 253, 3), (11, .aload_n 0, 1), (12, .dup, 1), (13, .getfield 257, 3), (16, .iconst 1, 1), (17, .iadd, 1), (18, .putfield 257, 3), (21, .aload_n 0, 1), (22, .getfield 257, 3), (25, .ireturn, 1)]
theorem DX8_image : ∀ q ∈ IX8_image, decode cX8_image q.1 = .ok q.2 := by decide +kernel
def IX8_restore : List (Nat × Instr × Nat) := [(0, .aload_n 0, 1), (1, .getfield 257, 3), (4, .ifCond .ne 10, 3), (7, .aload_n 0, 1), (8, .ldc 190, 2), (10, .invokevirtual 74, 3), (13, .ireturn, 1), (14, .aload_n 0, 1), (15, .getfield 13, 3), (18, .aload_n 0, 1), (19, .getfield 9, 3), (22, .invokestatic 253, 3), (25, .aload_n 0, 1), (26, .getfield 9, 3), (29, .iconst 0, 1), (30, .iaload, 1), (31, .ireturn, 1)]
theorem DX8_restore : ∀ q ∈ IX8_restore, decode cX8_restore q.1 = .ok q.2 := by decide +kernel
def IX8_tell : List (Nat × Instr × Nat) := [(0, .aload_n 0, 1), (1, .getfield 9, 3), (4, .bipush 8, 2), (6, .iaload, 1), (7, .bipush 24, 2), (9, .if_icmp .ne 10, 3), (12, .aload_n 0, 1), (13, .ldc 78, 2), (15, .invokevirtual 74, 3), (18, .ireturn, 1), (19, .aload_n 0, 1), (20, .getfield 9, 3), (23, .bipush 95, 2), (25, .aload_n 0, 1), (26, .getfield 9, 3), (29, .bipush 8, 2), (31, .iaload, 1), (32, .iadd, 1), (33, .iload_n 1, 1), (34, .iastore, 1), (35, .aload_n 0, 1), (36, .getfield 9, 3), (39, .bipush 8, 2), (41, .dup2, 1), (42, .iaload, 1), (43, .iconst 1, 1), (44, .iadd, 1), (45, .iastore, 1), (46, .aload_n 0, 1), (47, .getfield 9, 3), (50, .bipush 8, 2), (52, .iaload, 1), (53, .ireturn, 1)]
theorem DX8_tell : ∀ q ∈ IX8_tell, decode cX8_tell q.1 = .ok q.2 := by decide +kernel
def IX8_check : List (Nat × Instr × Nat) := [(0, .aload_n 0, 1), (1, .getfield 9, 3), (4, .bipush 8, 2), (6, .iaload, 1), (7, .istore_n 1, 1), (8, .aload_n 0, 1), (9, .getfield 9, 3), (12, .bipush 8, 2), (14, .iconst 0, 1), (15, .iastore, 1), (16, .iconst 0, 1), (17, .istore_n 2, 1), (18, .iload_n 2, 1), (19, .iload_n 1, 1), (20, .if_icmp .ge 41, 3), (23, .iload_n 2, 1), (24, .invokestatic 89, 3), (27, .ifCond .eq 24, 3), (30, .aload_n 0, 1), (31, .getfield 9, 3), (34, .bipush 95, 2), (36, .iload_n 2, 1), (37, .iadd, 1), (38, .iaload, 1), (39, .aload_n 0, 1), (40, .getfield 9, 3), (43, .bipush 9, 2), (45, .iload_n 2, 1), (46, .iadd, 1), (47, .iaload, 1), (48, .if_icmp .eq 7, 3), (51, .iconst 1, 1), (52, .iload_n 2, 1), (53, .iadd, 1), (54, .ireturn, 1), (55, .iinc 2 1, 3), (58, .goto (-40), 3), (61, .iconst 0, 1), (62, .ireturn, 1)]
theorem DX8_check : ∀ q ∈ IX8_check, decode cX8_check q.1 = .ok q.2 := by decide +kernel
def IX8_count : List (Nat × Instr × Nat) := [(0, .iload_n 1, 1), (1, .tableswitch 115 0 9 #[55, 62, 69, 76, 76, 76, 87, 95, 103, 108], 55), (56, .aload_n 0, 1), (57, .getfield 9, 3), (60, .iconst 2, 1), (61, .iaload, 1), (62, .ireturn, 1), (63, .aload_n 0, 1), (64, .getfield 9, 3), (67, .iconst 3, 1), (68, .iaload, 1), (69, .ireturn, 1), (70, .aload_n 0, 1), (71, .getfield 9, 3), (74, .iconst 0, 1), (75, .iaload, 1), (76, .ireturn, 1), (77, .aload_n 0, 1), (78, .getfield 9, 3), (81, .iconst 4, 1), (82, .iload_n 1, 1), (83, .iadd, 1), (84, .iconst 3, 1), (85, .isub, 1), (86, .iaload, 1), (87, .ireturn, 1), (88, .aload_n 0, 1), (89, .getfield 9, 3), (92, .bipush 7, 2), (94, .iaload, 1), (95, .ireturn, 1), (96, .aload_n 0, 1), (97, .getfield 9, 3), (100, .bipush 8, 2), (102, .iaload, 1), (103, .ireturn, 1), (104, .aload_n 0, 1), (105, .getfield 206, 3), (108, .ireturn, 1), (109, .aload_n 0, 1), (110, .getfield 9, 3), (113, .iconst 1, 1), (114, .iaload, 1), (115, .ireturn, 1), (116, .aload_n 0, 1), (117, .ldc 73, 2), (119, .invokevirtual 74, 3), (122, .ireturn, 1)]
theorem DX8_count : ∀ q ∈ IX8_count, decode cX8_count q.1 = .ok q.2 := by decide +kernel
def IX8_told : List (Nat × Instr × Nat) := [(0, .iload_n 1, 1), (1, .iconst 1, 1), (2, .bipush 6, 2), (4, .invokestatic 47, 3), (7, .ifCond .eq 12, 3), (10, .aload_n 0, 1), (11, .getfield 16, 3), (14, .iload_n 1, 1), (15, .iaload, 1), (16, .goto 9, 3), (19, .aload_n 0, 1), (20, .ldc 73, 2), (22, .invokevirtual 74, 3), (25, .ireturn, 1)]
theorem DX8_told : ∀ q ∈ IX8_told, decode cX8_told q.1 = .ok q.2 := by decide +kernel
end DEC
end
section
section DEC
def IJ6_numberOfTrailingZeros_0f7a4 : List (Nat × Instr × Nat) := [(0, .iload_n 0, 1), (1, .iconst (-1), 1), (2, .ixor, 1), (3, .iload_n 0, 1), (4, .iconst 1, 1), (5, .isub, 1), (6, .iand, 1), (7, .istore_n 0, 1), (8, .iload_n 0, 1), (9, .ifCond .gt 8, 3), (12, .iload_n 0, 1), (13, .bipush 32, 2), (15, .iand, 1), (16, .ireturn, 1), (17, .iconst 1, 1), (18, .istore_n 1, 1), (19, .iload_n 0, 1), (20, .ldc_w 264, 3), (23, .if_icmp .le 11, 3), (26, .iinc 1 16, 3), (29, .iload_n 0, 1), (30, .bipush 16, 2), (32, .iushr, 1), (33, .istore_n 0, 1), (34, .iload_n 0, 1), (35, .sipush 256, 3), (38, .if_icmp .le 11, 3), (41, .iinc 1 8, 3), (44, .iload_n 0, 1), (45, .bipush 8, 2), (47, .iushr, 1), (48, .istore_n 0, 1), (49, .iload_n 0, 1), (50, .bipush 16, 2), (52, .if_icmp .le 10, 3), (55, .iinc 1 4, 3), (58, .iload_n 0, 1), (59, .iconst 4, 1), (60, .iushr, 1), (61, .istore_n 0, 1), (62, .iload_n 0, 1), (63, .iconst 4, 1), (64, .if_icmp .le 10, 3), (67, .iinc 1 2, 3), (70, .iload_n 0, 1), (71, .iconst 2, 1), (72, .iushr, 1), (73, .istore_n 0, 1), (74, .iload_n 1, 1), (75, .iload_n 0, 1), (76, .iconst 1, 1), (77, .iushr, 1), (78, .iadd, 1), (79, .ireturn, 1)]
theorem DJ6_numberOfTrailingZeros_0f7a4 : ∀ q ∈ IJ6_numberOfTrailingZeros_0f7a4, decode cJ6_numberOfTrailingZeros_0f7a4 q.1 = .ok q.2 := by decide +kernel
def IJ6_bitCount_0f7a4 : List (Nat × Instr × Nat) := [(0, .iload_n 0, 1), (1, .iload_n 0, 1), (2, .iconst 1, 1), (3, .iushr, 1), (4, .ldc_w 265, 3), (7, .iand, 1), (8, .isub, 1), (9, .istore_n 0, 1), (10, .iload_n 0, 1), (11, .ldc_w 266, 3), (14, .iand, 1), (15, .iload_n 0, 1), (16, .iconst 2, 1), (17, .iushr, 1), (18, .ldc_w 266, 3), (21, .iand, 1), (22, .iadd, 1), (23, .istore_n 0, 1), (24, .iload_n 0, 1), (25, .iload_n 0, 1), (26, .iconst 4, 1), (27, .iushr, 1), (28, .iadd, 1), (29, .ldc_w 267, 3), (32, .iand, 1), (33, .istore_n 0, 1), (34, .iload_n 0, 1), (35, .iload_n 0, 1), (36, .bipush 8, 2), (38, .iushr, 1), (39, .iadd, 1), (40, .istore_n 0, 1), (41, .iload_n 0, 1), (42, .iload_n 0, 1), (43, .bipush 16, 2), (45, .iushr, 1), (46, .iadd, 1), (47, .istore_n 0, 1), (48, .iload_n 0, 1), (49, .bipush 63, 2), (51, .iand, 1), (52, .ireturn, 1)]
theorem DJ6_bitCount_0f7a4 : ∀ q ∈ IJ6_bitCount_0f7a4, decode cJ6_bitCount_0f7a4 q.1 = .ok q.2 := by decide +kernel
def IJ9_max_7cf53 : List (Nat × Instr × Nat) := [(0, .iload_n 0, 1), (1, .iload_n 1, 1), (2, .if_icmp .lt 7, 3), (5, .iload_n 0, 1), (6, .goto 4, 3), (9, .iload_n 1, 1), (10, .ireturn, 1)]
theorem DJ9_max_7cf53 : ∀ q ∈ IJ9_max_7cf53, decode cJ9_max_7cf53 q.1 = .ok q.2 := by decide +kernel
def IJ9_min_7cf53 : List (Nat × Instr × Nat) := [(0, .iload_n 0, 1), (1, .iload_n 1, 1), (2, .if_icmp .gt 7, 3), (5, .iload_n 0, 1), (6, .goto 4, 3), (9, .iload_n 1, 1), (10, .ireturn, 1)]
theorem DJ9_min_7cf53 : ∀ q ∈ IJ9_min_7cf53, decode cJ9_min_7cf53 q.1 = .ok q.2 := by decide +kernel
def IJ0_length_8abf5 : List (Nat × Instr × Nat) := [(0, .aload_n 0, 1), (1, .getfield 9, 3), (4, .arraylength, 1), (5, .aload_n 0, 1), (6, .invokevirtual 335, 3), (9, .ishr, 1), (10, .ireturn, 1)]
theorem DJ0_length_8abf5 : ∀ q ∈ IJ0_length_8abf5, decode cJ0_length_8abf5 q.1 = .ok q.2 := by decide +kernel
def IJ0_charAt_5068e : List (Nat × Instr × Nat) := [(0, .aload_n 0, 1), (1, .invokevirtual 492, 3), (4, .ifCond .eq 12, 3), (7, .aload_n 0, 1), (8, .getfield 9, 3), (11, .iload_n 1, 1), (12, .invokestatic 495, 3), (15, .ireturn, 1), (16, .aload_n 0, 1), (17, .getfield 9, 3), (20, .iload_n 1, 1), (21, .invokestatic 498, 3), (24, .ireturn, 1)]
theorem DJ0_charAt_5068e : ∀ q ∈ IJ0_charAt_5068e, decode cJ0_charAt_5068e q.1 = .ok q.2 := by decide +kernel
def IJ0_coder_7d493 : List (Nat × Instr × Nat) := [(0, .getstatic 38, 3), (3, .ifCond .eq 10, 3), (6, .aload_n 0, 1), (7, .getfield 15, 3), (10, .goto 4, 3), (13, .iconst 1, 1), (14, .ireturn, 1)]
theorem DJ0_coder_7d493 : ∀ q ∈ IJ0_coder_7d493, decode cJ0_coder_7d493 q.1 = .ok q.2 := by decide +kernel
def IJ0_isLatin1_aae02 : List (Nat × Instr × Nat) := [(0, .getstatic 38, 3), (3, .ifCond .eq 14, 3), (6, .aload_n 0, 1), (7, .getfield 15, 3), (10, .ifCond .ne 7, 3), (13, .iconst 1, 1), (14, .goto 4, 3), (17, .iconst 0, 1), (18, .ireturn, 1)]
theorem DJ0_isLatin1_aae02 : ∀ q ∈ IJ0_isLatin1_aae02, decode cJ0_isLatin1_aae02 q.1 = .ok q.2 := by decide +kernel
def IJ0_checkIndex_df160 : List (Nat × Instr × Nat) := [(0, .iload_n 0, 1), (1, .iload_n 1, 1), (2, .getstatic 1053, 3), (5, .invokestatic 1059, 3), (8, .pop, 1), (9, .return_, 1)]
theorem DJ0_checkIndex_df160 : ∀ q ∈ IJ0_checkIndex_df160, decode cJ0_checkIndex_df160 q.1 = .ok q.2 := by decide +kernel
def IJ1_charAt_3b067 : List (Nat × Instr × Nat) := [(0, .iload_n 1, 1), (1, .aload_n 0, 1), (2, .arraylength, 1), (3, .invokestatic 9, 3), (6, .aload_n 0, 1), (7, .iload_n 1, 1), (8, .baload, 1), (9, .sipush 255, 3), (12, .iand, 1), (13, .i2c, 1), (14, .ireturn, 1)]
theorem DJ1_charAt_3b067 : ∀ q ∈ IJ1_charAt_3b067, decode cJ1_charAt_3b067 q.1 = .ok q.2 := by decide +kernel
def IJ2_getChar_3b067 : List (Nat × Instr × Nat) := [(0, .getstatic 44, 3), (3, .ifCond .ne 25, 3), (6, .iload_n 1, 1), (7, .ifCond .lt 11, 3), (10, .iload_n 1, 1), (11, .aload_n 0, 1), (12, .invokestatic 48, 3), (15, .if_icmp .lt 13, 3), (18, .new 52, 3), (21, .dup, 1), (22, .ldc 54, 2), (24, .invokespecial 56, 3), (27, .athrow, 1), (28, .iload_n 1, 1), (29, .iconst 1, 1), (30, .ishl, 1), (31, .istore_n 1, 1), (32, .aload_n 0, 1), (33, .iload_n 1, 1), (34, .iinc 1 1, 3), (37, .baload, 1), (38, .sipush 255, 3), (41, .iand, 1), (42, .getstatic 59, 3), (45, .ishl, 1), (46, .aload_n 0, 1), (47, .iload_n 1, 1), (48, .baload, 1), (49, .sipush 255, 3), (52, .iand, 1), (53, .getstatic 63, 3), (56, .ishl, 1), (57, .ior, 1), (58, .i2c, 1), (59, .ireturn, 1)]
theorem DJ2_getChar_3b067 : ∀ q ∈ IJ2_getChar_3b067, decode cJ2_getChar_3b067 q.1 = .ok q.2 := by decide +kernel
def IJ2_length_9d52b : List (Nat × Instr × Nat) := [(0, .aload_n 0, 1), (1, .arraylength, 1), (2, .iconst 1, 1), (3, .ishr, 1), (4, .ireturn, 1)]
theorem DJ2_length_9d52b : ∀ q ∈ IJ2_length_9d52b, decode cJ2_length_9d52b q.1 = .ok q.2 := by decide +kernel
def IJ2_charAt_3b067 : List (Nat × Instr × Nat) := [(0, .iload_n 1, 1), (1, .aload_n 0, 1), (2, .invokestatic 67, 3), (5, .aload_n 0, 1), (6, .iload_n 1, 1), (7, .invokestatic 71, 3), (10, .ireturn, 1)]
theorem DJ2_charAt_3b067 : ∀ q ∈ IJ2_charAt_3b067, decode cJ2_charAt_3b067 q.1 = .ok q.2 := by decide +kernel
def IJ2_checkIndex_2214a : List (Nat × Instr × Nat) := [(0, .iload_n 0, 1), (1, .aload_n 1, 1), (2, .invokestatic 48, 3), (5, .invokestatic 414, 3), (8, .return_, 1)]
theorem DJ2_checkIndex_2214a : ∀ q ∈ IJ2_checkIndex_2214a, decode cJ2_checkIndex_2214a q.1 = .ok q.2 := by decide +kernel
def IJ7_fill_53178 : List (Nat × Instr × Nat) := [(0, .iconst 0, 1), (1, .istore_n 2, 1), (2, .aload_n 0, 1), (3, .arraylength, 1), (4, .istore_n 3, 1), (5, .iload_n 2, 1), (6, .iload_n 3, 1), (7, .if_icmp .ge 13, 3), (10, .aload_n 0, 1), (11, .iload_n 2, 1), (12, .iload_n 1, 1), (13, .iastore, 1), (14, .iinc 2 1, 3), (17, .goto (-12), 3), (20, .return_, 1)]
theorem DJ7_fill_53178 : ∀ q ∈ IJ7_fill_53178, decode cJ7_fill_53178 q.1 = .ok q.2 := by decide +kernel
def IJ3_checkIndex_8e157 : List (Nat × Instr × Nat) := [(0, .iload_n 0, 1), (1, .ifCond .lt 8, 3), (4, .iload_n 0, 1), (5, .iload_n 1, 1), (6, .if_icmp .lt 10, 3), (9, .aload_n 2, 1), (10, .iload_n 0, 1), (11, .iload_n 1, 1), (12, .invokestatic 95, 3), (15, .athrow, 1), (16, .iload_n 0, 1), (17, .ireturn, 1)]
theorem DJ3_checkIndex_8e157 : ∀ q ∈ IJ3_checkIndex_8e157, decode cJ3_checkIndex_8e157 q.1 = .ok q.2 := by decide +kernel
def IL_law_p1 : List (Nat × Instr × Nat) := [(0, .new 7, 3), (3, .dup, 1), (4, .invokespecial 9, 3), (7, .astore_n 1, 1), (8, .new 10, 3), (11, .dup, 1), (12, .invokespecial 12, 3), (15, .astore_n 2, 1), (16, .iconst 0, 1), (17, .istore_n 3, 1), (18, .iload_n 3, 1), (19, .aload_n 0, 1), (20, .arraylength, 1), (21, .bipush 6, 2), (23, .isub, 1), (24, .if_icmp .gt 1289, 3), (27, .aload_n 0, 1), (28, .iload_n 3, 1), (29, .iaload, 1), (30, .bipush 63, 2), (32, .iand, 1), (33, .tableswitch 1274 0 36 #[163, 186, 219, 252, 285, 318, 341, 374, 407, 470, 493, 516, 569, 582, 605, 628, 651, 674, 707, 740, 763, 796, 839, 872, 905, 948, 971, 1014, 1057, 1120, 1143, 1166, 1179, 1192, 1215, 1228, 1251], 163), (196, .aload_n 1, 1), (197, .aload_n 0, 1), (198, .iload_n 3, 1), (199, .iconst 1, 1), (200, .iadd, 1), (201, .iaload, 1), (202, .invokevirtual 13, 3), (205, .aload_n 2, 1), (206, .aload_n 0, 1), (207, .iload_n 3, 1), (208, .iconst 1, 1), (209, .iadd, 1), (210, .iaload, 1), (211, .invokevirtual 17, 3), (214, .if_icmp .eq 1093, 3), (217, .iconst 0, 1), (218, .ireturn, 1), (219, .aload_n 1, 1), (220, .aload_n 0, 1), (221, .iload_n 3, 1), (222, .iconst 1, 1), (223, .iadd, 1), (224, .iaload, 1), (225, .aload_n 0, 1), (226, .iload_n 3, 1), (227, .iconst 2, 1), (228, .iadd, 1), (229, .iaload, 1), (230, .invokevirtual 18, 3), (233, .aload_n 2, 1), (234, .aload_n 0, 1), (235, .iload_n 3, 1), (236, .iconst 1, 1), (237, .iadd, 1), (238, .iaload, 1), (239, .aload_n 0, 1), (240, .iload_n 3, 1), (241, .iconst 2, 1), (242, .iadd, 1), (243, .iaload, 1), (244, .invokevirtual 22, 3), (247, .if_icmp .eq 1060, 3), (250, .iconst 0, 1), (251, .ireturn, 1), (252, .aload_n 1, 1), (253, .aload_n 0, 1), (254, .iload_n 3, 1), (255, .iconst 1, 1), (256, .iadd, 1), (257, .iaload, 1), (258, .aload_n 0, 1), (259, .iload_n 3, 1), (260, .iconst 2, 1), (261, .iadd, 1), (262, .iaload, 1), (263, .invokevirtual 23, 3), (266, .aload_n 2, 1), (267, .aload_n 0, 1), (268, .iload_n 3, 1), (269, .iconst 1, 1), (270, .iadd, 1), (271, .iaload, 1), (272, .aload_n 0, 1), (273, .iload_n 3, 1), (274, .iconst 2, 1), (275, .iadd, 1), (276, .iaload, 1), (277, .invokevirtual 26, 3), (280, .if_icmp .eq 1027, 3), (283, .iconst 0, 1), (284, .ireturn, 1), (285, .aload_n 1, 1), (286, .aload_n 0, 1), (287, .iload_n 3, 1), (288, .iconst 1, 1), (289, .iadd, 1), (290, .iaload, 1), (291, .aload_n 0, 1)]
theorem DL_law_p1 : ∀ q ∈ IL_law_p1, decode cL_law q.1 = .ok q.2 := by decide +kernel
def IL_law_p2 : List (Nat × Instr × Nat) := [(292, .iload_n 3, 1), (293, .iconst 2, 1), (294, .iadd, 1), (295, .iaload, 1), (296, .invokevirtual 27, 3), (299, .aload_n 2, 1), (300, .aload_n 0, 1), (301, .iload_n 3, 1), (302, .iconst 1, 1), (303, .iadd, 1), (304, .iaload, 1), (305, .aload_n 0, 1), (306, .iload_n 3, 1), (307, .iconst 2, 1), (308, .iadd, 1), (309, .iaload, 1), (310, .invokevirtual 30, 3), (313, .if_icmp .eq 994, 3), (316, .iconst 0, 1), (317, .ireturn, 1), (318, .aload_n 1, 1), (319, .aload_n 0, 1), (320, .iload_n 3, 1), (321, .iconst 1, 1), (322, .iadd, 1), (323, .iaload, 1), (324, .aload_n 0, 1), (325, .iload_n 3, 1), (326, .iconst 2, 1), (327, .iadd, 1), (328, .iaload, 1), (329, .invokevirtual 31, 3), (332, .aload_n 2, 1), (333, .aload_n 0, 1), (334, .iload_n 3, 1), (335, .iconst 1, 1), (336, .iadd, 1), (337, .iaload, 1), (338, .aload_n 0, 1), (339, .iload_n 3, 1), (340, .iconst 2, 1), (341, .iadd, 1), (342, .iaload, 1), (343, .invokevirtual 34, 3), (346, .if_icmp .eq 961, 3), (349, .iconst 0, 1), (350, .ireturn, 1), (351, .aload_n 1, 1), (352, .aload_n 0, 1), (353, .iload_n 3, 1), (354, .iconst 1, 1), (355, .iadd, 1), (356, .iaload, 1), (357, .invokevirtual 35, 3), (360, .aload_n 2, 1), (361, .aload_n 0, 1), (362, .iload_n 3, 1), (363, .iconst 1, 1), (364, .iadd, 1), (365, .iaload, 1), (366, .invokevirtual 38, 3), (369, .if_icmp .eq 938, 3), (372, .iconst 0, 1), (373, .ireturn, 1), (374, .aload_n 1, 1), (375, .aload_n 0, 1), (376, .iload_n 3, 1), (377, .iconst 1, 1), (378, .iadd, 1), (379, .iaload, 1), (380, .aload_n 0, 1), (381, .iload_n 3, 1), (382, .iconst 2, 1), (383, .iadd, 1), (384, .iaload, 1), (385, .invokevirtual 39, 3), (388, .aload_n 2, 1), (389, .aload_n 0, 1), (390, .iload_n 3, 1), (391, .iconst 1, 1), (392, .iadd, 1), (393, .iaload, 1), (394, .aload_n 0, 1), (395, .iload_n 3, 1), (396, .iconst 2, 1), (397, .iadd, 1), (398, .iaload, 1), (399, .invokevirtual 42, 3), (402, .if_icmp .eq 905, 3), (405, .iconst 0, 1), (406, .ireturn, 1), (407, .aload_n 1, 1), (408, .aload_n 0, 1), (409, .iload_n 3, 1), (410, .iconst 1, 1), (411, .iadd, 1), (412, .iaload, 1), (413, .aload_n 0, 1), (414, .iload_n 3, 1), (415, .iconst 2, 1)]
theorem DL_law_p2 : ∀ q ∈ IL_law_p2, decode cL_law q.1 = .ok q.2 := by decide +kernel
def IL_law_p3 : List (Nat × Instr × Nat) := [(416, .iadd, 1), (417, .iaload, 1), (418, .invokevirtual 43, 3), (421, .aload_n 2, 1), (422, .aload_n 0, 1), (423, .iload_n 3, 1), (424, .iconst 1, 1), (425, .iadd, 1), (426, .iaload, 1), (427, .aload_n 0, 1), (428, .iload_n 3, 1), (429, .iconst 2, 1), (430, .iadd, 1), (431, .iaload, 1), (432, .invokevirtual 46, 3), (435, .if_icmp .eq 872, 3), (438, .iconst 0, 1), (439, .ireturn, 1), (440, .aload_n 1, 1), (441, .aload_n 0, 1), (442, .iload_n 3, 1), (443, .iconst 1, 1), (444, .iadd, 1), (445, .iaload, 1), (446, .i2l, 1), (447, .bipush 32, 2), (449, .lshl, 1), (450, .aload_n 0, 1), (451, .iload_n 3, 1), (452, .iconst 2, 1), (453, .iadd, 1), (454, .iaload, 1), (455, .i2l, 1), (456, .ldc2_w 47, 3), (459, .land, 1), (460, .lor, 1), (461, .aload_n 0, 1), (462, .iload_n 3, 1), (463, .iconst 3, 1), (464, .iadd, 1), (465, .iaload, 1), (466, .invokevirtual 49, 3), (469, .aload_n 2, 1), (470, .aload_n 0, 1), (471, .iload_n 3, 1), (472, .iconst 1, 1), (473, .iadd, 1), (474, .iaload, 1), (475, .i2l, 1), (476, .bipush 32, 2), (478, .lshl, 1), (479, .aload_n 0, 1), (480, .iload_n 3, 1), (481, .iconst 2, 1), (482, .iadd, 1), (483, .iaload, 1), (484, .i2l, 1), (485, .ldc2_w 47, 3), (488, .land, 1), (489, .lor, 1), (490, .aload_n 0, 1), (491, .iload_n 3, 1), (492, .iconst 3, 1), (493, .iadd, 1), (494, .iaload, 1), (495, .invokevirtual 53, 3), (498, .if_icmp .eq 809, 3), (501, .iconst 0, 1), (502, .ireturn, 1), (503, .aload_n 1, 1), (504, .aload_n 0, 1), (505, .iload_n 3, 1), (506, .iconst 1, 1), (507, .iadd, 1), (508, .iaload, 1), (509, .invokevirtual 54, 3), (512, .aload_n 2, 1), (513, .aload_n 0, 1), (514, .iload_n 3, 1), (515, .iconst 1, 1), (516, .iadd, 1), (517, .iaload, 1), (518, .invokevirtual 57, 3), (521, .if_icmp .eq 786, 3), (524, .iconst 0, 1), (525, .ireturn, 1), (526, .aload_n 1, 1), (527, .aload_n 0, 1), (528, .iload_n 3, 1), (529, .iconst 1, 1), (530, .iadd, 1), (531, .iaload, 1), (532, .invokevirtual 58, 3), (535, .aload_n 2, 1), (536, .aload_n 0, 1), (537, .iload_n 3, 1), (538, .iconst 1, 1), (539, .iadd, 1), (540, .iaload, 1), (541, .invokevirtual 61, 3)]
theorem DL_law_p3 : ∀ q ∈ IL_law_p3, decode cL_law q.1 = .ok q.2 := by decide +kernel
def IL_law_p4 : List (Nat × Instr × Nat) := [(544, .if_icmp .eq 763, 3), (547, .iconst 0, 1), (548, .ireturn, 1), (549, .aload_n 1, 1), (550, .aload_n 0, 1), (551, .iload_n 3, 1), (552, .iconst 1, 1), (553, .iadd, 1), (554, .iaload, 1), (555, .aload_n 0, 1), (556, .iload_n 3, 1), (557, .iconst 2, 1), (558, .iadd, 1), (559, .iaload, 1), (560, .aload_n 0, 1), (561, .iload_n 3, 1), (562, .iconst 3, 1), (563, .iadd, 1), (564, .iaload, 1), (565, .aload_n 0, 1), (566, .iload_n 3, 1), (567, .iconst 4, 1), (568, .iadd, 1), (569, .iaload, 1), (570, .invokevirtual 62, 3), (573, .aload_n 2, 1), (574, .aload_n 0, 1), (575, .iload_n 3, 1), (576, .iconst 1, 1), (577, .iadd, 1), (578, .iaload, 1), (579, .aload_n 0, 1), (580, .iload_n 3, 1), (581, .iconst 2, 1), (582, .iadd, 1), (583, .iaload, 1), (584, .aload_n 0, 1), (585, .iload_n 3, 1), (586, .iconst 3, 1), (587, .iadd, 1), (588, .iaload, 1), (589, .aload_n 0, 1), (590, .iload_n 3, 1), (591, .iconst 4, 1), (592, .iadd, 1), (593, .iaload, 1), (594, .invokevirtual 66, 3), (597, .if_icmp .eq 710, 3), (600, .iconst 0, 1), (601, .ireturn, 1), (602, .aload_n 1, 1), (603, .invokevirtual 67, 3), (606, .aload_n 2, 1), (607, .invokevirtual 71, 3), (610, .if_icmp .eq 697, 3), (613, .iconst 0, 1), (614, .ireturn, 1), (615, .aload_n 1, 1), (616, .aload_n 0, 1), (617, .iload_n 3, 1), (618, .iconst 1, 1), (619, .iadd, 1), (620, .iaload, 1), (621, .invokevirtual 72, 3), (624, .aload_n 2, 1), (625, .aload_n 0, 1), (626, .iload_n 3, 1), (627, .iconst 1, 1), (628, .iadd, 1), (629, .iaload, 1), (630, .invokevirtual 75, 3), (633, .if_icmp .eq 674, 3), (636, .iconst 0, 1), (637, .ireturn, 1), (638, .aload_n 1, 1), (639, .aload_n 0, 1), (640, .iload_n 3, 1), (641, .iconst 1, 1), (642, .iadd, 1), (643, .iaload, 1), (644, .invokevirtual 76, 3), (647, .aload_n 2, 1), (648, .aload_n 0, 1), (649, .iload_n 3, 1), (650, .iconst 1, 1), (651, .iadd, 1), (652, .iaload, 1), (653, .invokevirtual 79, 3), (656, .if_icmp .eq 651, 3), (659, .iconst 0, 1), (660, .ireturn, 1), (661, .aload_n 1, 1), (662, .aload_n 0, 1), (663, .iload_n 3, 1), (664, .iconst 1, 1), (665, .iadd, 1), (666, .iaload, 1), (667, .invokevirtual 80, 3), (670, .aload_n 2, 1), (671, .aload_n 0, 1)]
theorem DL_law_p4 : ∀ q ∈ IL_law_p4, decode cL_law q.1 = .ok q.2 := by decide +kernel
def IL_law_p5 : List (Nat × Instr × Nat) := [(672, .iload_n 3, 1), (673, .iconst 1, 1), (674, .iadd, 1), (675, .iaload, 1), (676, .invokevirtual 83, 3), (679, .if_icmp .eq 628, 3), (682, .iconst 0, 1), (683, .ireturn, 1), (684, .aload_n 1, 1), (685, .aload_n 0, 1), (686, .iload_n 3, 1), (687, .iconst 1, 1), (688, .iadd, 1), (689, .iaload, 1), (690, .invokevirtual 84, 3), (693, .aload_n 2, 1), (694, .aload_n 0, 1), (695, .iload_n 3, 1), (696, .iconst 1, 1), (697, .iadd, 1), (698, .iaload, 1), (699, .invokevirtual 87, 3), (702, .if_icmp .eq 605, 3), (705, .iconst 0, 1), (706, .ireturn, 1), (707, .aload_n 1, 1), (708, .aload_n 0, 1), (709, .iload_n 3, 1), (710, .iconst 1, 1), (711, .iadd, 1), (712, .iaload, 1), (713, .aload_n 0, 1), (714, .iload_n 3, 1), (715, .iconst 2, 1), (716, .iadd, 1), (717, .iaload, 1), (718, .invokevirtual 88, 3), (721, .aload_n 2, 1), (722, .aload_n 0, 1), (723, .iload_n 3, 1), (724, .iconst 1, 1), (725, .iadd, 1), (726, .iaload, 1), (727, .aload_n 0, 1), (728, .iload_n 3, 1), (729, .iconst 2, 1), (730, .iadd, 1), (731, .iaload, 1), (732, .invokevirtual 91, 3), (735, .if_icmp .eq 572, 3), (738, .iconst 0, 1), (739, .ireturn, 1), (740, .aload_n 1, 1), (741, .aload_n 0, 1), (742, .iload_n 3, 1), (743, .iconst 1, 1), (744, .iadd, 1), (745, .iaload, 1), (746, .aload_n 0, 1), (747, .iload_n 3, 1), (748, .iconst 2, 1), (749, .iadd, 1), (750, .iaload, 1), (751, .invokevirtual 92, 3), (754, .aload_n 2, 1), (755, .aload_n 0, 1), (756, .iload_n 3, 1), (757, .iconst 1, 1), (758, .iadd, 1), (759, .iaload, 1), (760, .aload_n 0, 1), (761, .iload_n 3, 1), (762, .iconst 2, 1), (763, .iadd, 1), (764, .iaload, 1), (765, .invokevirtual 95, 3), (768, .if_icmp .eq 539, 3), (771, .iconst 0, 1), (772, .ireturn, 1), (773, .aload_n 1, 1), (774, .aload_n 0, 1), (775, .iload_n 3, 1), (776, .iconst 1, 1), (777, .iadd, 1), (778, .iaload, 1), (779, .invokevirtual 96, 3), (782, .aload_n 2, 1), (783, .aload_n 0, 1), (784, .iload_n 3, 1), (785, .iconst 1, 1), (786, .iadd, 1), (787, .iaload, 1), (788, .invokevirtual 99, 3), (791, .if_icmp .eq 516, 3), (794, .iconst 0, 1), (795, .ireturn, 1), (796, .aload_n 1, 1), (797, .aload_n 0, 1), (798, .iload_n 3, 1), (799, .iconst 1, 1)]
theorem DL_law_p5 : ∀ q ∈ IL_law_p5, decode cL_law q.1 = .ok q.2 := by decide +kernel
def IL_law_p6 : List (Nat × Instr × Nat) := [(800, .iadd, 1), (801, .iaload, 1), (802, .aload_n 0, 1), (803, .iload_n 3, 1), (804, .iconst 2, 1), (805, .iadd, 1), (806, .iaload, 1), (807, .invokevirtual 100, 3), (810, .aload_n 2, 1), (811, .aload_n 0, 1), (812, .iload_n 3, 1), (813, .iconst 1, 1), (814, .iadd, 1), (815, .iaload, 1), (816, .aload_n 0, 1), (817, .iload_n 3, 1), (818, .iconst 2, 1), (819, .iadd, 1), (820, .iaload, 1), (821, .invokevirtual 103, 3), (824, .if_icmp .eq 483, 3), (827, .iconst 0, 1), (828, .ireturn, 1), (829, .aload_n 1, 1), (830, .aload_n 0, 1), (831, .iload_n 3, 1), (832, .iconst 1, 1), (833, .iadd, 1), (834, .iaload, 1), (835, .aload_n 0, 1), (836, .iload_n 3, 1), (837, .iconst 2, 1), (838, .iadd, 1), (839, .iaload, 1), (840, .aload_n 0, 1), (841, .iload_n 3, 1), (842, .iconst 3, 1), (843, .iadd, 1), (844, .iaload, 1), (845, .invokevirtual 104, 3), (848, .aload_n 2, 1), (849, .aload_n 0, 1), (850, .iload_n 3, 1), (851, .iconst 1, 1), (852, .iadd, 1), (853, .iaload, 1), (854, .aload_n 0, 1), (855, .iload_n 3, 1), (856, .iconst 2, 1), (857, .iadd, 1), (858, .iaload, 1), (859, .aload_n 0, 1), (860, .iload_n 3, 1), (861, .iconst 3, 1), (862, .iadd, 1), (863, .iaload, 1), (864, .invokevirtual 108, 3), (867, .if_icmp .eq 440, 3), (870, .iconst 0, 1), (871, .ireturn, 1), (872, .aload_n 1, 1), (873, .aload_n 0, 1), (874, .iload_n 3, 1), (875, .iconst 1, 1), (876, .iadd, 1), (877, .iaload, 1), (878, .aload_n 0, 1), (879, .iload_n 3, 1), (880, .iconst 2, 1), (881, .iadd, 1), (882, .iaload, 1), (883, .invokevirtual 109, 3), (886, .aload_n 2, 1), (887, .aload_n 0, 1), (888, .iload_n 3, 1), (889, .iconst 1, 1), (890, .iadd, 1), (891, .iaload, 1), (892, .aload_n 0, 1), (893, .iload_n 3, 1), (894, .iconst 2, 1), (895, .iadd, 1), (896, .iaload, 1), (897, .invokevirtual 112, 3), (900, .if_icmp .eq 407, 3), (903, .iconst 0, 1), (904, .ireturn, 1), (905, .aload_n 1, 1), (906, .aload_n 0, 1), (907, .iload_n 3, 1), (908, .iconst 1, 1), (909, .iadd, 1), (910, .iaload, 1), (911, .aload_n 0, 1), (912, .iload_n 3, 1), (913, .iconst 2, 1), (914, .iadd, 1), (915, .iaload, 1), (916, .invokevirtual 113, 3), (919, .aload_n 2, 1)]
theorem DL_law_p6 : ∀ q ∈ IL_law_p6, decode cL_law q.1 = .ok q.2 := by decide +kernel
def IL_law_p7 : List (Nat × Instr × Nat) := [(920, .aload_n 0, 1), (921, .iload_n 3, 1), (922, .iconst 1, 1), (923, .iadd, 1), (924, .iaload, 1), (925, .aload_n 0, 1), (926, .iload_n 3, 1), (927, .iconst 2, 1), (928, .iadd, 1), (929, .iaload, 1), (930, .invokevirtual 116, 3), (933, .if_icmp .eq 374, 3), (936, .iconst 0, 1), (937, .ireturn, 1), (938, .aload_n 1, 1), (939, .aload_n 0, 1), (940, .iload_n 3, 1), (941, .iconst 1, 1), (942, .iadd, 1), (943, .iaload, 1), (944, .aload_n 0, 1), (945, .iload_n 3, 1), (946, .iconst 2, 1), (947, .iadd, 1), (948, .iaload, 1), (949, .aload_n 0, 1), (950, .iload_n 3, 1), (951, .iconst 3, 1), (952, .iadd, 1), (953, .iaload, 1), (954, .invokevirtual 117, 3), (957, .aload_n 2, 1), (958, .aload_n 0, 1), (959, .iload_n 3, 1), (960, .iconst 1, 1), (961, .iadd, 1), (962, .iaload, 1), (963, .aload_n 0, 1), (964, .iload_n 3, 1), (965, .iconst 2, 1), (966, .iadd, 1), (967, .iaload, 1), (968, .aload_n 0, 1), (969, .iload_n 3, 1), (970, .iconst 3, 1), (971, .iadd, 1), (972, .iaload, 1), (973, .invokevirtual 120, 3), (976, .if_icmp .eq 331, 3), (979, .iconst 0, 1), (980, .ireturn, 1), (981, .aload_n 1, 1), (982, .aload_n 0, 1), (983, .iload_n 3, 1), (984, .iconst 1, 1), (985, .iadd, 1), (986, .iaload, 1), (987, .invokevirtual 121, 3), (990, .aload_n 2, 1), (991, .aload_n 0, 1), (992, .iload_n 3, 1), (993, .iconst 1, 1), (994, .iadd, 1), (995, .iaload, 1), (996, .invokevirtual 124, 3), (999, .if_icmp .eq 308, 3), (1002, .iconst 0, 1), (1003, .ireturn, 1), (1004, .aload_n 1, 1), (1005, .aload_n 0, 1), (1006, .iload_n 3, 1), (1007, .iconst 1, 1), (1008, .iadd, 1), (1009, .iaload, 1), (1010, .aload_n 0, 1), (1011, .iload_n 3, 1), (1012, .iconst 2, 1), (1013, .iadd, 1), (1014, .iaload, 1), (1015, .aload_n 0, 1), (1016, .iload_n 3, 1), (1017, .iconst 3, 1), (1018, .iadd, 1), (1019, .iaload, 1), (1020, .invokevirtual 125, 3), (1023, .aload_n 2, 1), (1024, .aload_n 0, 1), (1025, .iload_n 3, 1), (1026, .iconst 1, 1), (1027, .iadd, 1), (1028, .iaload, 1), (1029, .aload_n 0, 1), (1030, .iload_n 3, 1), (1031, .iconst 2, 1), (1032, .iadd, 1), (1033, .iaload, 1), (1034, .aload_n 0, 1), (1035, .iload_n 3, 1), (1036, .iconst 3, 1), (1037, .iadd, 1)]
theorem DL_law_p7 : ∀ q ∈ IL_law_p7, decode cL_law q.1 = .ok q.2 := by decide +kernel
def IL_law_p8 : List (Nat × Instr × Nat) := [(1038, .iaload, 1), (1039, .invokevirtual 128, 3), (1042, .if_icmp .eq 265, 3), (1045, .iconst 0, 1), (1046, .ireturn, 1), (1047, .aload_n 1, 1), (1048, .aload_n 0, 1), (1049, .iload_n 3, 1), (1050, .iconst 1, 1), (1051, .iadd, 1), (1052, .iaload, 1), (1053, .aload_n 0, 1), (1054, .iload_n 3, 1), (1055, .iconst 2, 1), (1056, .iadd, 1), (1057, .iaload, 1), (1058, .aload_n 0, 1), (1059, .iload_n 3, 1), (1060, .iconst 3, 1), (1061, .iadd, 1), (1062, .iaload, 1), (1063, .invokevirtual 129, 3), (1066, .aload_n 2, 1), (1067, .aload_n 0, 1), (1068, .iload_n 3, 1), (1069, .iconst 1, 1), (1070, .iadd, 1), (1071, .iaload, 1), (1072, .aload_n 0, 1), (1073, .iload_n 3, 1), (1074, .iconst 2, 1), (1075, .iadd, 1), (1076, .iaload, 1), (1077, .aload_n 0, 1), (1078, .iload_n 3, 1), (1079, .iconst 3, 1), (1080, .iadd, 1), (1081, .iaload, 1), (1082, .invokevirtual 132, 3), (1085, .if_icmp .eq 222, 3), (1088, .iconst 0, 1), (1089, .ireturn, 1), (1090, .aload_n 1, 1), (1091, .aload_n 0, 1), (1092, .iload_n 3, 1), (1093, .iconst 1, 1), (1094, .iadd, 1), (1095, .iaload, 1), (1096, .aload_n 0, 1), (1097, .iload_n 3, 1), (1098, .iconst 2, 1), (1099, .iadd, 1), (1100, .iaload, 1), (1101, .aload_n 0, 1), (1102, .iload_n 3, 1), (1103, .iconst 3, 1), (1104, .iadd, 1), (1105, .iaload, 1), (1106, .aload_n 0, 1), (1107, .iload_n 3, 1), (1108, .iconst 4, 1), (1109, .iadd, 1), (1110, .iaload, 1), (1111, .aload_n 0, 1), (1112, .iload_n 3, 1), (1113, .iconst 5, 1), (1114, .iadd, 1), (1115, .iaload, 1), (1116, .invokevirtual 133, 3), (1119, .aload_n 2, 1), (1120, .aload_n 0, 1), (1121, .iload_n 3, 1), (1122, .iconst 1, 1), (1123, .iadd, 1), (1124, .iaload, 1), (1125, .aload_n 0, 1), (1126, .iload_n 3, 1), (1127, .iconst 2, 1), (1128, .iadd, 1), (1129, .iaload, 1), (1130, .aload_n 0, 1), (1131, .iload_n 3, 1), (1132, .iconst 3, 1), (1133, .iadd, 1), (1134, .iaload, 1), (1135, .aload_n 0, 1), (1136, .iload_n 3, 1), (1137, .iconst 4, 1), (1138, .iadd, 1), (1139, .iaload, 1), (1140, .aload_n 0, 1), (1141, .iload_n 3, 1), (1142, .iconst 5, 1), (1143, .iadd, 1), (1144, .iaload, 1), (1145, .invokevirtual 137, 3), (1148, .if_icmp .eq 159, 3), (1151, .iconst 0, 1), (1152, .ireturn, 1), (1153, .aload_n 1, 1)]
theorem DL_law_p8 : ∀ q ∈ IL_law_p8, decode cL_law q.1 = .ok q.2 := by decide +kernel
def IL_law_p9 : List (Nat × Instr × Nat) := [(1154, .aload_n 0, 1), (1155, .iload_n 3, 1), (1156, .iconst 1, 1), (1157, .iadd, 1), (1158, .iaload, 1), (1159, .invokevirtual 138, 3), (1162, .aload_n 2, 1), (1163, .aload_n 0, 1), (1164, .iload_n 3, 1), (1165, .iconst 1, 1), (1166, .iadd, 1), (1167, .iaload, 1), (1168, .invokevirtual 141, 3), (1171, .if_icmp .eq 136, 3), (1174, .iconst 0, 1), (1175, .ireturn, 1), (1176, .aload_n 1, 1), (1177, .aload_n 0, 1), (1178, .iload_n 3, 1), (1179, .iconst 1, 1), (1180, .iadd, 1), (1181, .iaload, 1), (1182, .invokevirtual 142, 3), (1185, .aload_n 2, 1), (1186, .aload_n 0, 1), (1187, .iload_n 3, 1), (1188, .iconst 1, 1), (1189, .iadd, 1), (1190, .iaload, 1), (1191, .invokevirtual 145, 3), (1194, .if_icmp .eq 113, 3), (1197, .iconst 0, 1), (1198, .ireturn, 1), (1199, .aload_n 1, 1), (1200, .invokevirtual 146, 3), (1203, .aload_n 2, 1), (1204, .invokevirtual 149, 3), (1207, .if_icmp .eq 100, 3), (1210, .iconst 0, 1), (1211, .ireturn, 1), (1212, .aload_n 1, 1), (1213, .invokevirtual 150, 3), (1216, .aload_n 2, 1), (1217, .invokevirtual 153, 3), (1220, .if_icmp .eq 87, 3), (1223, .iconst 0, 1), (1224, .ireturn, 1), (1225, .aload_n 1, 1), (1226, .aload_n 0, 1), (1227, .iload_n 3, 1), (1228, .iconst 1, 1), (1229, .iadd, 1), (1230, .iaload, 1), (1231, .invokevirtual 154, 3), (1234, .aload_n 2, 1), (1235, .aload_n 0, 1), (1236, .iload_n 3, 1), (1237, .iconst 1, 1), (1238, .iadd, 1), (1239, .iaload, 1), (1240, .invokevirtual 157, 3), (1243, .if_icmp .eq 64, 3), (1246, .iconst 0, 1), (1247, .ireturn, 1), (1248, .aload_n 1, 1), (1249, .invokevirtual 158, 3), (1252, .aload_n 2, 1), (1253, .invokevirtual 161, 3), (1256, .if_icmp .eq 51, 3), (1259, .iconst 0, 1), (1260, .ireturn, 1), (1261, .aload_n 1, 1), (1262, .aload_n 0, 1), (1263, .iload_n 3, 1), (1264, .iconst 1, 1), (1265, .iadd, 1), (1266, .iaload, 1), (1267, .invokevirtual 162, 3), (1270, .aload_n 2, 1), (1271, .aload_n 0, 1), (1272, .iload_n 3, 1), (1273, .iconst 1, 1), (1274, .iadd, 1), (1275, .iaload, 1), (1276, .invokevirtual 165, 3), (1279, .if_icmp .eq 28, 3), (1282, .iconst 0, 1), (1283, .ireturn, 1), (1284, .aload_n 1, 1), (1285, .aload_n 0, 1), (1286, .iload_n 3, 1), (1287, .iconst 1, 1), (1288, .iadd, 1), (1289, .iaload, 1), (1290, .invokevirtual 166, 3), (1293, .aload_n 2, 1), (1294, .aload_n 0, 1), (1295, .iload_n 3, 1), (1296, .iconst 1, 1), (1297, .iadd, 1)]
theorem DL_law_p9 : ∀ q ∈ IL_law_p9, decode cL_law q.1 = .ok q.2 := by decide +kernel
def IL_law_p10 : List (Nat × Instr × Nat) := [(1298, .iaload, 1), (1299, .invokevirtual 169, 3), (1302, .if_icmp .eq 5, 3), (1305, .iconst 0, 1), (1306, .ireturn, 1), (1307, .iinc 3 6, 3), (1310, .goto (-1292), 3), (1313, .iconst 1, 1), (1314, .ireturn, 1)]
theorem DL_law_p10 : ∀ q ∈ IL_law_p10, decode cL_law q.1 = .ok q.2 := by decide +kernel
end DEC
end
section
section LINKS
theorem gg_at (k : Nat) {w : Cond} (q : lw_tbl[k]? = some w ∧ goodWord w = true) : w ∈ gg_W := List.mem_filter.mpr ⟨List.mem_of_getElem? q.1, q.2⟩
theorem nn_at (k : Nat) {w : Cond} (q : tables_1[k]? = some w ∧ nn_b w = true) : w ∈ nn_W := List.mem_filter.mpr ⟨List.mem_of_getElem? q.1, q.2⟩
theorem cl_v {own : String} {i : Nat} {M : sk_m} {n : Nat} (a : Cond.code M.1 M.2.1 M.2.2.1 M.2.2.2 ∈ gg_W) (b : Cond.initialized M.1.cls ∈ gg_W) (c : M.1.cls ≠ "java/lang/invoke/MethodHandle" ∧ M.1.cls ≠ "java/lang/invoke/VarHandle" ∧ (parseMethodDescriptor M.1.desc).map (fun d => d.parameters.length) = some n) (e : M.2.2.1 ≤ 40) (f : Cond.instanceMethod M.1 ∈ gg_W) (f2 : Cond.selects M.1.cls M.1 M.1 ∈ gg_W) (g : Cond.methodLink own i M.1 ∈ gg_W ∨ ∃ host, Cond.methodLinkNest own i M.1 host ∈ nn_W) : sk_cl own i M n true := ⟨a, b, c, e, by rw [if_pos rfl]; exact ⟨f, f2⟩, g⟩
theorem cl_s {own : String} {i : Nat} {M : sk_m} {n : Nat} (a : Cond.code M.1 M.2.1 M.2.2.1 M.2.2.2 ∈ gg_W) (b : Cond.initialized M.1.cls ∈ gg_W) (c : M.1.cls ≠ "java/lang/invoke/MethodHandle" ∧ M.1.cls ≠ "java/lang/invoke/VarHandle" ∧ (parseMethodDescriptor M.1.desc).map (fun d => d.parameters.length) = some n) (e : M.2.2.1 ≤ 40) (f : Cond.static M.1 ∈ gg_W) (g : Cond.methodLink own i M.1 ∈ gg_W ∨ ∃ host, Cond.methodLinkNest own i M.1 host ∈ nn_W) : sk_cl own i M n false := ⟨a, b, c, e, by rw [if_neg (by decide)]; exact f, g⟩
abbrev MX0_init : sk_m := (yX0_init, cX0_init, 1, none)
theorem aX0_init : Cond.code MX0_init.1 MX0_init.2.1 MX0_init.2.2.1 MX0_init.2.2.2 ∈ gg_W := gg_at 124 (by decide +kernel)
abbrev MX0_turnInto : sk_m := (yX0_turnInto, cX0_turnInto, 2, none)
theorem aX0_turnInto : Cond.code MX0_turnInto.1 MX0_turnInto.2.1 MX0_turnInto.2.2.1 MX0_turnInto.2.2.2 ∈ gg_W := gg_at 344 (by decide +kernel)
abbrev MX0_takeFrom : sk_m := (yX0_takeFrom, cX0_takeFrom, 2, none)
theorem aX0_takeFrom : Cond.code MX0_takeFrom.1 MX0_takeFrom.2.1 MX0_takeFrom.2.2.1 MX0_takeFrom.2.2.2 ∈ gg_W := gg_at 772 (by decide +kernel)
abbrev MX0_isOneOf : sk_m := (yX0_isOneOf, cX0_isOneOf, 4, some .boolean)
theorem aX0_isOneOf : Cond.code MX0_isOneOf.1 MX0_isOneOf.2.1 MX0_isOneOf.2.2.1 MX0_isOneOf.2.2.2 ∈ gg_W := gg_at 395 (by decide +kernel)
abbrev MX0_hauls : sk_m := (yX0_hauls, cX0_hauls, 5, some .int)
theorem aX0_hauls : Cond.code MX0_hauls.1 MX0_hauls.2.1 MX0_hauls.2.2.1 MX0_hauls.2.2.2 ∈ gg_W := gg_at 367 (by decide +kernel)
abbrev MX0_eats : sk_m := (yX0_eats, cX0_eats, 2, some .int)
theorem aX0_eats : Cond.code MX0_eats.1 MX0_eats.2.1 MX0_eats.2.2.1 MX0_eats.2.2.2 ∈ gg_W := gg_at 359 (by decide +kernel)
abbrev MX1_init : sk_m := (yX1_init, cX1_init, 1, none)
theorem aX1_init : Cond.code MX1_init.1 MX1_init.2.1 MX1_init.2.2.1 MX1_init.2.2.2 ∈ gg_W := gg_at 146 (by decide +kernel)
abbrev MX1_take : sk_m := (yX1_take, cX1_take, 3, none)
theorem aX1_take : Cond.code MX1_take.1 MX1_take.2.1 MX1_take.2.2.1 MX1_take.2.2.2 ∈ gg_W := gg_at 539 (by decide +kernel)
abbrev MX1_takeFrom : sk_m := (yX1_takeFrom, cX1_takeFrom, 2, none)
theorem aX1_takeFrom : Cond.code MX1_takeFrom.1 MX1_takeFrom.2.1 MX1_takeFrom.2.2.1 MX1_takeFrom.2.2.2 ∈ gg_W := gg_at 776 (by decide +kernel)
abbrev MX1_gives : sk_m := (yX1_gives, cX1_gives, 7, some .int)
theorem aX1_gives : Cond.code MX1_gives.1 MX1_gives.2.1 MX1_gives.2.2.1 MX1_gives.2.2.2 ∈ gg_W := gg_at 371 (by decide +kernel)
abbrev MX1_joined : sk_m := (yX1_joined, cX1_joined, 3, some .int)
theorem aX1_joined : Cond.code MX1_joined.1 MX1_joined.2.1 MX1_joined.2.2.1 MX1_joined.2.2.2 ∈ gg_W := gg_at 383 (by decide +kernel)
abbrev MX2_init : sk_m := (yX2_init, cX2_init, 2, none)
theorem aX2_init : Cond.code MX2_init.1 MX2_init.2.1 MX2_init.2.2.1 MX2_init.2.2.2 ∈ gg_W := gg_at 112 (by decide +kernel)
abbrev MX2_takeFrom : sk_m := (yX2_takeFrom, cX2_takeFrom, 3, none)
theorem aX2_takeFrom : Cond.code MX2_takeFrom.1 MX2_takeFrom.2.1 MX2_takeFrom.2.2.1 MX2_takeFrom.2.2.2 ∈ gg_W := gg_at 767 (by decide +kernel)
abbrev MX2_landed : sk_m := (yX2_landed, cX2_landed, 7, some .int)
theorem aX2_landed : Cond.code MX2_landed.1 MX2_landed.2.1 MX2_landed.2.2.1 MX2_landed.2.2.2 ∈ gg_W := gg_at 363 (by decide +kernel)
abbrev MX2_caught : sk_m := (yX2_caught, cX2_caught, 7, some .int)
theorem aX2_caught : Cond.code MX2_caught.1 MX2_caught.2.1 MX2_caught.2.2.1 MX2_caught.2.2.2 ∈ gg_W := gg_at 563 (by decide +kernel)
abbrev MX2_caughtNow : sk_m := (yX2_caughtNow, cX2_caughtNow, 2, some .int)
theorem aX2_caughtNow : Cond.code MX2_caughtNow.1 MX2_caughtNow.2.1 MX2_caughtNow.2.2.1 MX2_caughtNow.2.2.2 ∈ gg_W := gg_at 595 (by decide +kernel)
abbrev MX2_coins : sk_m := (yX2_coins, cX2_coins, 3, some .int)
theorem aX2_coins : Cond.code MX2_coins.1 MX2_coins.2.1 MX2_coins.2.2.1 MX2_coins.2.2.2 ∈ gg_W := gg_at 426 (by decide +kernel)
abbrev MX2_promise : sk_m := (yX2_promise, cX2_promise, 4, some .int)
theorem aX2_promise : Cond.code MX2_promise.1 MX2_promise.2.1 MX2_promise.2.2.1 MX2_promise.2.2.2 ∈ gg_W := gg_at 422 (by decide +kernel)
abbrev MX2_settle : sk_m := (yX2_settle, cX2_settle, 4, some .int)
theorem aX2_settle : Cond.code MX2_settle.1 MX2_settle.2.1 MX2_settle.2.2.1 MX2_settle.2.2.2 ∈ gg_W := gg_at 559 (by decide +kernel)
abbrev MX2_dayByDraws : sk_m := (yX2_dayByDraws, cX2_dayByDraws, 3, some .int)
theorem aX2_dayByDraws : Cond.code MX2_dayByDraws.1 MX2_dayByDraws.2.1 MX2_dayByDraws.2.2.1 MX2_dayByDraws.2.2.2 ∈ gg_W := gg_at 576 (by decide +kernel)
abbrev MX2_draw : sk_m := (yX2_draw, cX2_draw, 1, some .int)
theorem aX2_draw : Cond.code MX2_draw.1 MX2_draw.2.1 MX2_draw.2.2.1 MX2_draw.2.2.2 ∈ gg_W := gg_at 580 (by decide +kernel)
abbrev MX3_init : sk_m := (yX3_init, cX3_init, 1, none)
theorem aX3_init : Cond.code MX3_init.1 MX3_init.2.1 MX3_init.2.2.1 MX3_init.2.2.2 ∈ gg_W := gg_at 232 (by decide +kernel)
abbrev MX3_faultIn : sk_m := (yX3_faultIn, cX3_faultIn, 4, some .int)
theorem aX3_faultIn : Cond.code MX3_faultIn.1 MX3_faultIn.2.1 MX3_faultIn.2.2.1 MX3_faultIn.2.2.2 ∈ gg_W := gg_at 443 (by decide +kernel)
abbrev MX3_readLevel : sk_m := (yX3_readLevel, cX3_readLevel, 6, some .boolean)
theorem aX3_readLevel : Cond.code MX3_readLevel.1 MX3_readLevel.2.1 MX3_readLevel.2.2.1 MX3_readLevel.2.2.2 ∈ gg_W := gg_at 452 (by decide +kernel)
abbrev MX3_readItem : sk_m := (yX3_readItem, cX3_readItem, 4, some .boolean)
theorem aX3_readItem : Cond.code MX3_readItem.1 MX3_readItem.2.1 MX3_readItem.2.2.1 MX3_readItem.2.2.2 ∈ gg_W := gg_at 456 (by decide +kernel)
abbrev MX3_readDenied : sk_m := (yX3_readDenied, cX3_readDenied, 2, some .boolean)
theorem aX3_readDenied : Cond.code MX3_readDenied.1 MX3_readDenied.2.1 MX3_readDenied.2.2.1 MX3_readDenied.2.2.2 ∈ gg_W := gg_at 528 (by decide +kernel)
abbrev MX3_readBracketed : sk_m := (yX3_readBracketed, cX3_readBracketed, 2, some .boolean)
theorem aX3_readBracketed : Cond.code MX3_readBracketed.1 MX3_readBracketed.2.1 MX3_readBracketed.2.2.1 MX3_readBracketed.2.2.2 ∈ gg_W := gg_at 532 (by decide +kernel)
abbrev MX3_readNumber : sk_m := (yX3_readNumber, cX3_readNumber, 3, some .int)
theorem aX3_readNumber : Cond.code MX3_readNumber.1 MX3_readNumber.2.1 MX3_readNumber.2.2.1 MX3_readNumber.2.2.2 ∈ gg_W := gg_at 467 (by decide +kernel)
abbrev MX3_next : sk_m := (yX3_next, cX3_next, 1, some .int)
theorem aX3_next : Cond.code MX3_next.1 MX3_next.2.1 MX3_next.2.2.1 MX3_next.2.2.2 ∈ gg_W := gg_at 460 (by decide +kernel)
abbrev MX3_write : sk_m := (yX3_write, cX3_write, 2, none)
theorem aX3_write : Cond.code MX3_write.1 MX3_write.2.1 MX3_write.2.2.1 MX3_write.2.2.2 ∈ gg_W := gg_at 471 (by decide +kernel)
abbrev MX3_isDigit : sk_m := (yX3_isDigit, cX3_isDigit, 1, some .boolean)
theorem aX3_isDigit : Cond.code MX3_isDigit.1 MX3_isDigit.2.1 MX3_isDigit.2.2.1 MX3_isDigit.2.2.2 ∈ gg_W := gg_at 463 (by decide +kernel)
abbrev MX3_nameOf : sk_m := (yX3_nameOf, cX3_nameOf, 4, some .int)
theorem aX3_nameOf : Cond.code MX3_nameOf.1 MX3_nameOf.2.1 MX3_nameOf.2.2.1 MX3_nameOf.2.2.2 ∈ gg_W := gg_at 475 (by decide +kernel)
abbrev MX3_levelOf : sk_m := (yX3_levelOf, cX3_levelOf, 1, some .int)
theorem aX3_levelOf : Cond.code MX3_levelOf.1 MX3_levelOf.2.1 MX3_levelOf.2.2.1 MX3_levelOf.2.2.2 ∈ gg_W := gg_at 535 (by decide +kernel)
abbrev MX4_init : sk_m := (yX4_init, cX4_init, 1, none)
theorem aX4_init : Cond.code MX4_init.1 MX4_init.2.1 MX4_init.2.2.1 MX4_init.2.2.2 ∈ gg_W := gg_at 288 (by decide +kernel)
abbrev MX4_lay : sk_m := (yX4_lay, cX4_lay, 3, none)
theorem aX4_lay : Cond.code MX4_lay.1 MX4_lay.2.1 MX4_lay.2.2.1 MX4_lay.2.2.2 ∈ gg_W := gg_at 732 (by decide +kernel)
abbrev MX4_isMissing : sk_m := (yX4_isMissing, cX4_isMissing, 1, some .boolean)
theorem aX4_isMissing : Cond.code MX4_isMissing.1 MX4_isMissing.2.1 MX4_isMissing.2.2.1 MX4_isMissing.2.2.2 ∈ gg_W := gg_at 686 (by decide +kernel)
abbrev MX4_has : sk_m := (yX4_has, cX4_has, 3, some .boolean)
theorem aX4_has : Cond.code MX4_has.1 MX4_has.2.1 MX4_has.2.2.1 MX4_has.2.2.2 ∈ gg_W := gg_at 750 (by decide +kernel)
abbrev MX4_lowestBits : sk_m := (yX4_lowestBits, cX4_lowestBits, 2, some .int)
theorem aX4_lowestBits : Cond.code MX4_lowestBits.1 MX4_lowestBits.2.1 MX4_lowestBits.2.2.1 MX4_lowestBits.2.2.2 ∈ gg_W := gg_at 741 (by decide +kernel)
abbrev MX5_safest : sk_m := (yX5_safest, cX5_safest, 3, some .int)
theorem aX5_safest : Cond.code MX5_safest.1 MX5_safest.2.1 MX5_safest.2.2.1 MX5_safest.2.2.2 ∈ gg_W := gg_at 602 (by decide +kernel)
abbrev MX5_isSafe : sk_m := (yX5_isSafe, cX5_isSafe, 4, some .boolean)
theorem aX5_isSafe : Cond.code MX5_isSafe.1 MX5_isSafe.2.1 MX5_isSafe.2.2.1 MX5_isSafe.2.2.2 ∈ gg_W := gg_at 605 (by decide +kernel)
abbrev MX5_bestToSell : sk_m := (yX5_bestToSell, cX5_bestToSell, 6, some .int)
theorem aX5_bestToSell : Cond.code MX5_bestToSell.1 MX5_bestToSell.2.1 MX5_bestToSell.2.2.1 MX5_bestToSell.2.2.2 ∈ gg_W := gg_at 613 (by decide +kernel)
abbrev MX5_gain : sk_m := (yX5_gain, cX5_gain, 6, some .int)
theorem aX5_gain : Cond.code MX5_gain.1 MX5_gain.2.1 MX5_gain.2.2.1 MX5_gain.2.2.2 ∈ gg_W := gg_at 616 (by decide +kernel)
abbrev MX5_agreesWithItself : sk_m := (yX5_agreesWithItself, cX5_agreesWithItself, 3, some .boolean)
theorem aX5_agreesWithItself : Cond.code MX5_agreesWithItself.1 MX5_agreesWithItself.2.1 MX5_agreesWithItself.2.2.1 MX5_agreesWithItself.2.2.2 ∈ gg_W := gg_at 629 (by decide +kernel)
abbrev MX5_howManyAgree : sk_m := (yX5_howManyAgree, cX5_howManyAgree, 4, some .int)
theorem aX5_howManyAgree : Cond.code MX5_howManyAgree.1 MX5_howManyAgree.2.1 MX5_howManyAgree.2.2.1 MX5_howManyAgree.2.2.2 ∈ gg_W := gg_at 626 (by decide +kernel)
abbrev MX5_leastThatAgrees : sk_m := (yX5_leastThatAgrees, cX5_leastThatAgrees, 3, some .int)
theorem aX5_leastThatAgrees : Cond.code MX5_leastThatAgrees.1 MX5_leastThatAgrees.2.1 MX5_leastThatAgrees.2.2.1 MX5_leastThatAgrees.2.2.2 ∈ gg_W := gg_at 632 (by decide +kernel)
abbrev MX5_fewestBoats : sk_m := (yX5_fewestBoats, cX5_fewestBoats, 4, some .int)
theorem aX5_fewestBoats : Cond.code MX5_fewestBoats.1 MX5_fewestBoats.2.1 MX5_fewestBoats.2.2.1 MX5_fewestBoats.2.2.2 ∈ gg_W := gg_at 640 (by decide +kernel)
abbrev MX5_isEnough : sk_m := (yX5_isEnough, cX5_isEnough, 5, some .boolean)
theorem aX5_isEnough : Cond.code MX5_isEnough.1 MX5_isEnough.2.1 MX5_isEnough.2.2.1 MX5_isEnough.2.2.2 ∈ gg_W := gg_at 649 (by decide +kernel)
abbrev MX5_daysUntil : sk_m := (yX5_daysUntil, cX5_daysUntil, 4, some .int)
theorem aX5_daysUntil : Cond.code MX5_daysUntil.1 MX5_daysUntil.2.1 MX5_daysUntil.2.2.1 MX5_daysUntil.2.2.2 ∈ gg_W := gg_at 658 (by decide +kernel)
abbrev MX5_seasThatDo : sk_m := (yX5_seasThatDo, cX5_seasThatDo, 5, some .int)
theorem aX5_seasThatDo : Cond.code MX5_seasThatDo.1 MX5_seasThatDo.2.1 MX5_seasThatDo.2.2.1 MX5_seasThatDo.2.2.2 ∈ gg_W := gg_at 665 (by decide +kernel)
abbrev MX5_caughtInAllSeas : sk_m := (yX5_caughtInAllSeas, cX5_caughtInAllSeas, 4, some .int)
theorem aX5_caughtInAllSeas : Cond.code MX5_caughtInAllSeas.1 MX5_caughtInAllSeas.2.1 MX5_caughtInAllSeas.2.2.1 MX5_caughtInAllSeas.2.2.2 ∈ gg_W := gg_at 675 (by decide +kernel)
abbrev MX5_seasThatFit : sk_m := (yX5_seasThatFit, cX5_seasThatFit, 4, some .int)
theorem aX5_seasThatFit : Cond.code MX5_seasThatFit.1 MX5_seasThatFit.2.1 MX5_seasThatFit.2.2.1 MX5_seasThatFit.2.2.2 ∈ gg_W := gg_at 689 (by decide +kernel)
abbrev MX5_isSoBy : sk_m := (yX5_isSoBy, cX5_isSoBy, 4, some .boolean)
theorem aX5_isSoBy : Cond.code MX5_isSoBy.1 MX5_isSoBy.2.1 MX5_isSoBy.2.2.1 MX5_isSoBy.2.2.2 ∈ gg_W := gg_at 692 (by decide +kernel)
abbrev MX5_partOfTenths : sk_m := (yX5_partOfTenths, cX5_partOfTenths, 4, some .int)
theorem aX5_partOfTenths : Cond.code MX5_partOfTenths.1 MX5_partOfTenths.2.1 MX5_partOfTenths.2.2.1 MX5_partOfTenths.2.2.2 ∈ gg_W := gg_at 668 (by decide +kernel)
abbrev MX6_init : sk_m := (yX6_init, cX6_init, 1, none)
theorem aX6_init : Cond.code MX6_init.1 MX6_init.2.1 MX6_init.2.2.1 MX6_init.2.2.2 ∈ gg_W := gg_at 259 (by decide +kernel)
abbrev MX6_hear : sk_m := (yX6_hear, cX6_hear, 5, some .int)
theorem aX6_hear : Cond.code MX6_hear.1 MX6_hear.2.1 MX6_hear.2.2.1 MX6_hear.2.2.2 ∈ gg_W := gg_at 704 (by decide +kernel)
abbrev MX6_speak : sk_m := (yX6_speak, cX6_speak, 7, some .int)
theorem aX6_speak : Cond.code MX6_speak.1 MX6_speak.2.1 MX6_speak.2.2.1 MX6_speak.2.2.2 ∈ gg_W := gg_at 708 (by decide +kernel)
abbrev MX6_say : sk_m := (yX6_say, cX6_say, 5, some .int)
theorem aX6_say : Cond.code MX6_say.1 MX6_say.2.1 MX6_say.2.2.1 MX6_say.2.2.2 ∈ gg_W := gg_at 715 (by decide +kernel)
abbrev MX6_part : sk_m := (yX6_part, cX6_part, 3, some .int)
theorem aX6_part : Cond.code MX6_part.1 MX6_part.2.1 MX6_part.2.2.1 MX6_part.2.2.2 ∈ gg_W := gg_at 719 (by decide +kernel)
abbrev MX7_init : sk_m := (yX7_init, cX7_init, 2, none)
theorem aX7_init : Cond.code MX7_init.1 MX7_init.2.1 MX7_init.2.2.1 MX7_init.2.2.2 ∈ gg_W := gg_at 104 (by decide +kernel)
abbrev MX7_boat : sk_m := (yX7_boat, cX7_boat, 3, some .int)
theorem aX7_boat : Cond.code MX7_boat.1 MX7_boat.2.1 MX7_boat.2.2.1 MX7_boat.2.2.2 ∈ gg_W := gg_at 330 (by decide +kernel)
abbrev MX7_boatIs : sk_m := (yX7_boatIs, cX7_boatIs, 5, some .int)
theorem aX7_boatIs : Cond.code MX7_boatIs.1 MX7_boatIs.2.1 MX7_boatIs.2.2.1 MX7_boatIs.2.2.2 ∈ gg_W := gg_at 348 (by decide +kernel)
abbrev MX7_become : sk_m := (yX7_become, cX7_become, 4, some .int)
theorem aX7_become : Cond.code MX7_become.1 MX7_become.2.1 MX7_become.2.2.1 MX7_become.2.2.2 ∈ gg_W := gg_at 387 (by decide +kernel)
abbrev MX7_as : sk_m := (yX7_as, cX7_as, 3, some .int)
theorem aX7_as : Cond.code MX7_as.1 MX7_as.2.1 MX7_as.2.2.1 MX7_as.2.2.2 ∈ gg_W := gg_at 391 (by decide +kernel)
abbrev MX7_lose : sk_m := (yX7_lose, cX7_lose, 4, some .int)
theorem aX7_lose : Cond.code MX7_lose.1 MX7_lose.2.1 MX7_lose.2.2.1 MX7_lose.2.2.2 ∈ gg_W := gg_at 402 (by decide +kernel)
abbrev MX7_rises : sk_m := (yX7_rises, cX7_rises, 3, some .int)
theorem aX7_rises : Cond.code MX7_rises.1 MX7_rises.2.1 MX7_rises.2.2.1 MX7_rises.2.2.2 ∈ gg_W := gg_at 406 (by decide +kernel)
abbrev MX7_price : sk_m := (yX7_price, cX7_price, 4, some .int)
theorem aX7_price : Cond.code MX7_price.1 MX7_price.2.1 MX7_price.2.2.1 MX7_price.2.2.2 ∈ gg_W := gg_at 410 (by decide +kernel)
abbrev MX7_sell : sk_m := (yX7_sell, cX7_sell, 3, some .int)
theorem aX7_sell : Cond.code MX7_sell.1 MX7_sell.2.1 MX7_sell.2.2.1 MX7_sell.2.2.2 ∈ gg_W := gg_at 417 (by decide +kernel)
abbrev MX7_feed : sk_m := (yX7_feed, cX7_feed, 5, some .int)
theorem aX7_feed : Cond.code MX7_feed.1 MX7_feed.2.1 MX7_feed.2.2.1 MX7_feed.2.2.2 ∈ gg_W := gg_at 432 (by decide +kernel)
abbrev MX7_text : sk_m := (yX7_text, cX7_text, 3, some .int)
theorem aX7_text : Cond.code MX7_text.1 MX7_text.2.1 MX7_text.2.2.1 MX7_text.2.2.2 ∈ gg_W := gg_at 436 (by decide +kernel)
abbrev MX7_untell : sk_m := (yX7_untell, cX7_untell, 3, some .int)
theorem aX7_untell : Cond.code MX7_untell.1 MX7_untell.2.1 MX7_untell.2.2.1 MX7_untell.2.2.2 ∈ gg_W := gg_at 546 (by decide +kernel)
abbrev MX7_law : sk_m := (yX7_law, cX7_law, 5, some .int)
theorem aX7_law : Cond.code MX7_law.1 MX7_law.2.1 MX7_law.2.2.1 MX7_law.2.2.2 ∈ gg_W := gg_at 550 (by decide +kernel)
abbrev MX7_tally : sk_m := (yX7_tally, cX7_tally, 1, some .int)
theorem aX7_tally : Cond.code MX7_tally.1 MX7_tally.2.1 MX7_tally.2.2.1 MX7_tally.2.2.2 ∈ gg_W := gg_at 555 (by decide +kernel)
abbrev MX7_loose : sk_m := (yX7_loose, cX7_loose, 4, some .int)
theorem aX7_loose : Cond.code MX7_loose.1 MX7_loose.2.1 MX7_loose.2.2.1 MX7_loose.2.2.2 ∈ gg_W := gg_at 572 (by decide +kernel)
abbrev MX7_seed : sk_m := (yX7_seed, cX7_seed, 3, some .int)
theorem aX7_seed : Cond.code MX7_seed.1 MX7_seed.2.1 MX7_seed.2.2.1 MX7_seed.2.2.2 ∈ gg_W := gg_at 587 (by decide +kernel)
abbrev MX7_catches : sk_m := (yX7_catches, cX7_catches, 2, some .int)
theorem aX7_catches : Cond.code MX7_catches.1 MX7_catches.2.1 MX7_catches.2.2.1 MX7_catches.2.2.2 ∈ gg_W := gg_at 591 (by decide +kernel)
abbrev MX7_safe : sk_m := (yX7_safe, cX7_safe, 2, some .int)
theorem aX7_safe : Cond.code MX7_safe.1 MX7_safe.2.1 MX7_safe.2.2.1 MX7_safe.2.2.2 ∈ gg_W := gg_at 599 (by decide +kernel)
abbrev MX7_best : sk_m := (yX7_best, cX7_best, 4, some .int)
theorem aX7_best : Cond.code MX7_best.1 MX7_best.2.1 MX7_best.2.2.1 MX7_best.2.2.2 ∈ gg_W := gg_at 610 (by decide +kernel)
abbrev MX7_agrees : sk_m := (yX7_agrees, cX7_agrees, 4, some .int)
theorem aX7_agrees : Cond.code MX7_agrees.1 MX7_agrees.2.1 MX7_agrees.2.2.1 MX7_agrees.2.2.2 ∈ gg_W := gg_at 623 (by decide +kernel)
abbrev MX7_needs : sk_m := (yX7_needs, cX7_needs, 3, some .int)
theorem aX7_needs : Cond.code MX7_needs.1 MX7_needs.2.1 MX7_needs.2.2.1 MX7_needs.2.2.2 ∈ gg_W := gg_at 637 (by decide +kernel)
abbrev MX7_soonest : sk_m := (yX7_soonest, cX7_soonest, 4, some .int)
theorem aX7_soonest : Cond.code MX7_soonest.1 MX7_soonest.2.1 MX7_soonest.2.2.1 MX7_soonest.2.2.2 ∈ gg_W := gg_at 655 (by decide +kernel)
abbrev MX7_odds : sk_m := (yX7_odds, cX7_odds, 4, some .int)
theorem aX7_odds : Cond.code MX7_odds.1 MX7_odds.2.1 MX7_odds.2.2.1 MX7_odds.2.2.2 ∈ gg_W := gg_at 662 (by decide +kernel)
abbrev MX7_mean : sk_m := (yX7_mean, cX7_mean, 3, some .int)
theorem aX7_mean : Cond.code MX7_mean.1 MX7_mean.2.1 MX7_mean.2.2.1 MX7_mean.2.2.2 ∈ gg_W := gg_at 672 (by decide +kernel)
abbrev MX7_fits : sk_m := (yX7_fits, cX7_fits, 4, some .int)
theorem aX7_fits : Cond.code MX7_fits.1 MX7_fits.2.1 MX7_fits.2.2.1 MX7_fits.2.2.2 ∈ gg_W := gg_at 679 (by decide +kernel)
abbrev MX7_voice : sk_m := (yX7_voice, cX7_voice, 5, some .int)
theorem aX7_voice : Cond.code MX7_voice.1 MX7_voice.2.1 MX7_voice.2.2.1 MX7_voice.2.2.2 ∈ gg_W := gg_at 700 (by decide +kernel)
abbrev MX7_body : sk_m := (yX7_body, cX7_body, 2, some .int)
theorem aX7_body : Cond.code MX7_body.1 MX7_body.2.1 MX7_body.2.2.1 MX7_body.2.2.2 ∈ gg_W := gg_at 724 (by decide +kernel)
abbrev MX7_sheet : sk_m := (yX7_sheet, cX7_sheet, 4, some .int)
theorem aX7_sheet : Cond.code MX7_sheet.1 MX7_sheet.2.1 MX7_sheet.2.2.1 MX7_sheet.2.2.2 ∈ gg_W := gg_at 728 (by decide +kernel)
abbrev MX7_put : sk_m := (yX7_put, cX7_put, 5, some .int)
theorem aX7_put : Cond.code MX7_put.1 MX7_put.2.1 MX7_put.2.2.1 MX7_put.2.2.2 ∈ gg_W := gg_at 737 (by decide +kernel)
abbrev MX7_move : sk_m := (yX7_move, cX7_move, 8, some .int)
theorem aX7_move : Cond.code MX7_move.1 MX7_move.2.1 MX7_move.2.2.1 MX7_move.2.2.2 ∈ gg_W := gg_at 746 (by decide +kernel)
abbrev MX7_prices : sk_m := (yX7_prices, cX7_prices, 5, some .int)
theorem aX7_prices : Cond.code MX7_prices.1 MX7_prices.2.1 MX7_prices.2.2.1 MX7_prices.2.2.2 ∈ gg_W := gg_at 755 (by decide +kernel)
abbrev MX7_judge : sk_m := (yX7_judge, cX7_judge, 5, some .int)
theorem aX7_judge : Cond.code MX7_judge.1 MX7_judge.2.1 MX7_judge.2.2.1 MX7_judge.2.2.2 ∈ gg_W := gg_at 759 (by decide +kernel)
abbrev MX7_image : sk_m := (yX7_image, cX7_image, 1, some .int)
theorem aX7_image : Cond.code MX7_image.1 MX7_image.2.1 MX7_image.2.2.1 MX7_image.2.2.2 ∈ gg_W := gg_at 763 (by decide +kernel)
abbrev MX7_restore : sk_m := (yX7_restore, cX7_restore, 1, some .int)
theorem aX7_restore : Cond.code MX7_restore.1 MX7_restore.2.1 MX7_restore.2.2.1 MX7_restore.2.2.2 ∈ gg_W := gg_at 781 (by decide +kernel)
abbrev MX7_tell : sk_m := (yX7_tell, cX7_tell, 2, some .int)
theorem aX7_tell : Cond.code MX7_tell.1 MX7_tell.2.1 MX7_tell.2.2.1 MX7_tell.2.2.2 ∈ gg_W := gg_at 785 (by decide +kernel)
abbrev MX7_check : sk_m := (yX7_check, cX7_check, 3, some .int)
theorem aX7_check : Cond.code MX7_check.1 MX7_check.2.1 MX7_check.2.2.1 MX7_check.2.2.2 ∈ gg_W := gg_at 789 (by decide +kernel)
abbrev MX7_count : sk_m := (yX7_count, cX7_count, 2, some .int)
theorem aX7_count : Cond.code MX7_count.1 MX7_count.2.1 MX7_count.2.2.1 MX7_count.2.2.2 ∈ gg_W := gg_at 793 (by decide +kernel)
abbrev MX7_told : sk_m := (yX7_told, cX7_told, 2, some .int)
theorem aX7_told : Cond.code MX7_told.1 MX7_told.2.1 MX7_told.2.2.1 MX7_told.2.2.2 ∈ gg_W := gg_at 797 (by decide +kernel)
abbrev MX7_refuse : sk_m := (yX7_refuse, cX7_refuse, 3, some .int)
theorem aX7_refuse : Cond.code MX7_refuse.1 MX7_refuse.2.1 MX7_refuse.2.2.1 MX7_refuse.2.2.2 ∈ gg_W := gg_at 338 (by decide +kernel)
abbrev MX7_isWithin : sk_m := (yX7_isWithin, cX7_isWithin, 2, some .boolean)
theorem aX7_isWithin : Cond.code MX7_isWithin.1 MX7_isWithin.2.1 MX7_isWithin.2.2.1 MX7_isWithin.2.2.2 ∈ gg_W := gg_at 355 (by decide +kernel)
abbrev MX7_isFish : sk_m := (yX7_isFish, cX7_isFish, 1, some .boolean)
theorem aX7_isFish : Cond.code MX7_isFish.1 MX7_isFish.2.1 MX7_isFish.2.2.1 MX7_isFish.2.2.2 ∈ gg_W := gg_at 413 (by decide +kernel)
abbrev MX7_isUse : sk_m := (yX7_isUse, cX7_isUse, 1, some .boolean)
theorem aX7_isUse : Cond.code MX7_isUse.1 MX7_isUse.2.1 MX7_isUse.2.2.1 MX7_isUse.2.2.2 ∈ gg_W := gg_at 439 (by decide +kernel)
abbrev MX7_isSheet : sk_m := (yX7_isSheet, cX7_isSheet, 1, some .boolean)
theorem aX7_isSheet : Cond.code MX7_isSheet.1 MX7_isSheet.2.1 MX7_isSheet.2.2.1 MX7_isSheet.2.2.2 ∈ gg_W := gg_at 682 (by decide +kernel)
abbrev MX7_isKindWithNumber : sk_m := (yX7_isKindWithNumber, cX7_isKindWithNumber, 1, some .boolean)
theorem aX7_isKindWithNumber : Cond.code MX7_isKindWithNumber.1 MX7_isKindWithNumber.2.1 MX7_isKindWithNumber.2.2.1 MX7_isKindWithNumber.2.2.2 ∈ gg_W := gg_at 333 (by decide +kernel)
abbrev MX7_isBoat : sk_m := (yX7_isBoat, cX7_isBoat, 2, some .boolean)
theorem aX7_isBoat : Cond.code MX7_isBoat.1 MX7_isBoat.2.1 MX7_isBoat.2.2.1 MX7_isBoat.2.2.2 ∈ gg_W := gg_at 352 (by decide +kernel)
abbrev MX7_held : sk_m := (yX7_held, cX7_held, 3, some .int)
theorem aX7_held : Cond.code MX7_held.1 MX7_held.2.1 MX7_held.2.2.1 MX7_held.2.2.2 ∈ gg_W := gg_at 374 (by decide +kernel)
abbrev MX8_init : sk_m := (yX8_init, cX8_init, 2, none)
theorem aX8_init : Cond.code MX8_init.1 MX8_init.2.1 MX8_init.2.2.1 MX8_init.2.2.2 ∈ gg_W := gg_at 802 (by decide +kernel)
abbrev MX8_error : sk_m := (yX8_error, cX8_error, 2, some .int)
theorem aX8_error : Cond.code MX8_error.1 MX8_error.2.1 MX8_error.2.2.1 MX8_error.2.2.2 ∈ gg_W := gg_at 879 (by decide +kernel)
abbrev MX8_in : sk_m := (yX8_in, cX8_in, 3, some .boolean)
theorem aX8_in : Cond.code MX8_in.1 MX8_in.2.1 MX8_in.2.2.1 MX8_in.2.2.2 ∈ gg_W := gg_at 874 (by decide +kernel)
abbrev MX8_held : sk_m := (yX8_held, cX8_held, 3, some .int)
theorem aX8_held : Cond.code MX8_held.1 MX8_held.2.1 MX8_held.2.2.1 MX8_held.2.2.2 ∈ gg_W := gg_at 919 (by decide +kernel)
abbrev MX8_copyAll : sk_m := (yX8_copyAll, cX8_copyAll, 3, none)
theorem aX8_copyAll : Cond.code MX8_copyAll.1 MX8_copyAll.2.1 MX8_copyAll.2.2.1 MX8_copyAll.2.2.2 ∈ gg_W := gg_at 1214 (by decide +kernel)
abbrev MX8_bits : sk_m := (yX8_bits, cX8_bits, 3, some .int)
theorem aX8_bits : Cond.code MX8_bits.1 MX8_bits.2.1 MX8_bits.2.2.1 MX8_bits.2.2.2 ∈ gg_W := gg_at 1096 (by decide +kernel)
abbrev MX8_isBoat : sk_m := (yX8_isBoat, cX8_isBoat, 2, some .boolean)
theorem aX8_isBoat : Cond.code MX8_isBoat.1 MX8_isBoat.2.1 MX8_isBoat.2.2.1 MX8_isBoat.2.2.2 ∈ gg_W := gg_at 889 (by decide +kernel)
abbrev MX8_isFish : sk_m := (yX8_isFish, cX8_isFish, 1, some .boolean)
theorem aX8_isFish : Cond.code MX8_isFish.1 MX8_isFish.2.1 MX8_isFish.2.2.1 MX8_isFish.2.2.2 ∈ gg_W := gg_at 947 (by decide +kernel)
abbrev MX8_becomes : sk_m := (yX8_becomes, cX8_becomes, 4, some .int)
theorem aX8_becomes : Cond.code MX8_becomes.1 MX8_becomes.2.1 MX8_becomes.2.2.1 MX8_becomes.2.2.2 ∈ gg_W := gg_at 927 (by decide +kernel)
abbrev MX8_of : sk_m := (yX8_of, cX8_of, 3, some .int)
theorem aX8_of : Cond.code MX8_of.1 MX8_of.2.1 MX8_of.2.2.1 MX8_of.2.2.2 ∈ gg_W := gg_at 893 (by decide +kernel)
abbrev MX8_haulsOf : sk_m := (yX8_haulsOf, cX8_haulsOf, 5, some .int)
theorem aX8_haulsOf : Cond.code MX8_haulsOf.1 MX8_haulsOf.2.1 MX8_haulsOf.2.2.1 MX8_haulsOf.2.2.2 ∈ gg_W := gg_at 905 (by decide +kernel)
abbrev MX8_eatsOf : sk_m := (yX8_eatsOf, cX8_eatsOf, 2, some .int)
theorem aX8_eatsOf : Cond.code MX8_eatsOf.1 MX8_eatsOf.2.1 MX8_eatsOf.2.2.1 MX8_eatsOf.2.2.2 ∈ gg_W := gg_at 897 (by decide +kernel)
abbrev MX8_landsOf : sk_m := (yX8_landsOf, cX8_landsOf, 4, some .int)
theorem aX8_landsOf : Cond.code MX8_landsOf.1 MX8_landsOf.2.1 MX8_landsOf.2.2.1 MX8_landsOf.2.2.2 ∈ gg_W := gg_at 901 (by decide +kernel)
abbrev MX8_catchBy : sk_m := (yX8_catchBy, cX8_catchBy, 5, some .int)
theorem aX8_catchBy : Cond.code MX8_catchBy.1 MX8_catchBy.2.1 MX8_catchBy.2.2.1 MX8_catchBy.2.2.2 ∈ gg_W := gg_at 1039 (by decide +kernel)
abbrev MX8_catchOf : sk_m := (yX8_catchOf, cX8_catchOf, 2, some .int)
theorem aX8_catchOf : Cond.code MX8_catchOf.1 MX8_catchOf.2.1 MX8_catchOf.2.2.1 MX8_catchOf.2.2.2 ∈ gg_W := gg_at 1068 (by decide +kernel)
abbrev MX8_shortBy : sk_m := (yX8_shortBy, cX8_shortBy, 4, some .int)
theorem aX8_shortBy : Cond.code MX8_shortBy.1 MX8_shortBy.2.1 MX8_shortBy.2.2.1 MX8_shortBy.2.2.2 ∈ gg_W := gg_at 1035 (by decide +kernel)
abbrev MX8_coinsFor : sk_m := (yX8_coinsFor, cX8_coinsFor, 3, some .int)
theorem aX8_coinsFor : Cond.code MX8_coinsFor.1 MX8_coinsFor.2.1 MX8_coinsFor.2.2.1 MX8_coinsFor.2.2.2 ∈ gg_W := gg_at 960 (by decide +kernel)
abbrev MX8_isKm : sk_m := (yX8_isKm, cX8_isKm, 1, some .boolean)
theorem aX8_isKm : Cond.code MX8_isKm.1 MX8_isKm.2.1 MX8_isKm.2.2.1 MX8_isKm.2.2.2 ∈ gg_W := gg_at 871 (by decide +kernel)
abbrev MX8_boat : sk_m := (yX8_boat, cX8_boat, 3, some .int)
theorem aX8_boat : Cond.code MX8_boat.1 MX8_boat.2.1 MX8_boat.2.2.1 MX8_boat.2.2.2 ∈ gg_W := gg_at 868 (by decide +kernel)
abbrev MX8_boatIs : sk_m := (yX8_boatIs, cX8_boatIs, 3, some .int)
theorem aX8_boatIs : Cond.code MX8_boatIs.1 MX8_boatIs.2.1 MX8_boatIs.2.2.1 MX8_boatIs.2.2.2 ∈ gg_W := gg_at 885 (by decide +kernel)
abbrev MX8_become : sk_m := (yX8_become, cX8_become, 3, some .int)
theorem aX8_become : Cond.code MX8_become.1 MX8_become.2.1 MX8_become.2.2.1 MX8_become.2.2.2 ∈ gg_W := gg_at 923 (by decide +kernel)
abbrev MX8_as : sk_m := (yX8_as, cX8_as, 5, some .int)
theorem aX8_as : Cond.code MX8_as.1 MX8_as.2.1 MX8_as.2.2.1 MX8_as.2.2.2 ∈ gg_W := gg_at 931 (by decide +kernel)
abbrev MX8_lose : sk_m := (yX8_lose, cX8_lose, 3, some .int)
theorem aX8_lose : Cond.code MX8_lose.1 MX8_lose.2.1 MX8_lose.2.2.1 MX8_lose.2.2.2 ∈ gg_W := gg_at 936 (by decide +kernel)
abbrev MX8_rises : sk_m := (yX8_rises, cX8_rises, 2, some .int)
theorem aX8_rises : Cond.code MX8_rises.1 MX8_rises.2.1 MX8_rises.2.2.1 MX8_rises.2.2.2 ∈ gg_W := gg_at 940 (by decide +kernel)
abbrev MX8_price : sk_m := (yX8_price, cX8_price, 3, some .int)
theorem aX8_price : Cond.code MX8_price.1 MX8_price.2.1 MX8_price.2.2.1 MX8_price.2.2.2 ∈ gg_W := gg_at 944 (by decide +kernel)
abbrev MX8_sells : sk_m := (yX8_sells, cX8_sells, 4, some .int)
theorem aX8_sells : Cond.code MX8_sells.1 MX8_sells.2.1 MX8_sells.2.2.1 MX8_sells.2.2.2 ∈ gg_W := gg_at 956 (by decide +kernel)
abbrev MX8_sell : sk_m := (yX8_sell, cX8_sell, 3, some .int)
theorem aX8_sell : Cond.code MX8_sell.1 MX8_sell.2.1 MX8_sell.2.2.1 MX8_sell.2.2.2 ∈ gg_W := gg_at 951 (by decide +kernel)
abbrev MX8_feed : sk_m := (yX8_feed, cX8_feed, 5, some .int)
theorem aX8_feed : Cond.code MX8_feed.1 MX8_feed.2.1 MX8_feed.2.2.1 MX8_feed.2.2.2 ∈ gg_W := gg_at 966 (by decide +kernel)
abbrev MX8_look : sk_m := (yX8_look, cX8_look, 1, some .int)
theorem aX8_look : Cond.code MX8_look.1 MX8_look.2.1 MX8_look.2.2.1 MX8_look.2.2.2 ∈ gg_W := gg_at 999 (by decide +kernel)
abbrev MX8_lays : sk_m := (yX8_lays, cX8_lays, 3, none)
theorem aX8_lays : Cond.code MX8_lays.1 MX8_lays.2.1 MX8_lays.2.2.1 MX8_lays.2.2.2 ∈ gg_W := gg_at 1007 (by decide +kernel)
abbrev MX8_nameOf : sk_m := (yX8_nameOf, cX8_nameOf, 2, some .int)
theorem aX8_nameOf : Cond.code MX8_nameOf.1 MX8_nameOf.2.1 MX8_nameOf.2.2.1 MX8_nameOf.2.2.2 ∈ gg_W := gg_at 1003 (by decide +kernel)
abbrev MX8_number : sk_m := (yX8_number, cX8_number, 3, none)
theorem aX8_number : Cond.code MX8_number.1 MX8_number.2.1 MX8_number.2.2.1 MX8_number.2.2.2 ∈ gg_W := gg_at 1015 (by decide +kernel)
abbrev MX8_opens : sk_m := (yX8_opens, cX8_opens, 2, none)
theorem aX8_opens : Cond.code MX8_opens.1 MX8_opens.2.1 MX8_opens.2.2.1 MX8_opens.2.2.2 ∈ gg_W := gg_at 1011 (by decide +kernel)
abbrev MX8_one : sk_m := (yX8_one, cX8_one, 3, none)
theorem aX8_one : Cond.code MX8_one.1 MX8_one.2.1 MX8_one.2.2.1 MX8_one.2.2.2 ∈ gg_W := gg_at 995 (by decide +kernel)
abbrev MX8_times : sk_m := (yX8_times, cX8_times, 2, none)
theorem aX8_times : Cond.code MX8_times.1 MX8_times.2.1 MX8_times.2.2.1 MX8_times.2.2.2 ∈ gg_W := gg_at 991 (by decide +kernel)
abbrev MX8_sum : sk_m := (yX8_sum, cX8_sum, 2, none)
theorem aX8_sum : Cond.code MX8_sum.1 MX8_sum.2.1 MX8_sum.2.2.1 MX8_sum.2.2.2 ∈ gg_W := gg_at 987 (by decide +kernel)
abbrev MX8_compares : sk_m := (yX8_compares, cX8_compares, 2, none)
theorem aX8_compares : Cond.code MX8_compares.1 MX8_compares.2.1 MX8_compares.2.2.1 MX8_compares.2.2.2 ∈ gg_W := gg_at 983 (by decide +kernel)
abbrev MX8_all : sk_m := (yX8_all, cX8_all, 1, none)
theorem aX8_all : Cond.code MX8_all.1 MX8_all.2.1 MX8_all.2.2.1 MX8_all.2.2.2 ∈ gg_W := gg_at 979 (by decide +kernel)
abbrev MX8_any : sk_m := (yX8_any, cX8_any, 1, none)
theorem aX8_any : Cond.code MX8_any.1 MX8_any.2.1 MX8_any.2.2.1 MX8_any.2.2.2 ∈ gg_W := gg_at 975 (by decide +kernel)
abbrev MX8_text : sk_m := (yX8_text, cX8_text, 4, some .int)
theorem aX8_text : Cond.code MX8_text.1 MX8_text.2.1 MX8_text.2.2.1 MX8_text.2.2.2 ∈ gg_W := gg_at 971 (by decide +kernel)
abbrev MX8_untell : sk_m := (yX8_untell, cX8_untell, 2, some .int)
theorem aX8_untell : Cond.code MX8_untell.1 MX8_untell.2.1 MX8_untell.2.2.1 MX8_untell.2.2.2 ∈ gg_W := gg_at 1019 (by decide +kernel)
abbrev MX8_twoOf : sk_m := (yX8_twoOf, cX8_twoOf, 3, some .int)
theorem aX8_twoOf : Cond.code MX8_twoOf.1 MX8_twoOf.2.1 MX8_twoOf.2.2.1 MX8_twoOf.2.2.2 ∈ gg_W := gg_at 916 (by decide +kernel)
abbrev MX8_works : sk_m := (yX8_works, cX8_works, 5, some .int)
theorem aX8_works : Cond.code MX8_works.1 MX8_works.2.1 MX8_works.2.2.1 MX8_works.2.2.2 ∈ gg_W := gg_at 913 (by decide +kernel)
abbrev MX8_gives : sk_m := (yX8_gives, cX8_gives, 6, some .int)
theorem aX8_gives : Cond.code MX8_gives.1 MX8_gives.2.1 MX8_gives.2.2.1 MX8_gives.2.2.2 ∈ gg_W := gg_at 909 (by decide +kernel)
abbrev MX8_law : sk_m := (yX8_law, cX8_law, 5, some .int)
theorem aX8_law : Cond.code MX8_law.1 MX8_law.2.1 MX8_law.2.2.1 MX8_law.2.2.2 ∈ gg_W := gg_at 1023 (by decide +kernel)
abbrev MX8_pays : sk_m := (yX8_pays, cX8_pays, 2, none)
theorem aX8_pays : Cond.code MX8_pays.1 MX8_pays.2.1 MX8_pays.2.2.1 MX8_pays.2.2.2 ∈ gg_W := gg_at 1043 (by decide +kernel)
abbrev MX8_tallies : sk_m := (yX8_tallies, cX8_tallies, 4, some .int)
theorem aX8_tallies : Cond.code MX8_tallies.1 MX8_tallies.2.1 MX8_tallies.2.2.1 MX8_tallies.2.2.2 ∈ gg_W := gg_at 1031 (by decide +kernel)
abbrev MX8_tally : sk_m := (yX8_tally, cX8_tally, 1, some .int)
theorem aX8_tally : Cond.code MX8_tally.1 MX8_tally.2.1 MX8_tally.2.2.1 MX8_tally.2.2.2 ∈ gg_W := gg_at 1027 (by decide +kernel)
abbrev MX8_draw : sk_m := (yX8_draw, cX8_draw, 1, some .int)
theorem aX8_draw : Cond.code MX8_draw.1 MX8_draw.2.1 MX8_draw.2.2.1 MX8_draw.2.2.2 ∈ gg_W := gg_at 1055 (by decide +kernel)
abbrev MX8_drawn : sk_m := (yX8_drawn, cX8_drawn, 4, some .int)
theorem aX8_drawn : Cond.code MX8_drawn.1 MX8_drawn.2.1 MX8_drawn.2.2.1 MX8_drawn.2.2.2 ∈ gg_W := gg_at 1051 (by decide +kernel)
abbrev MX8_loose : sk_m := (yX8_loose, cX8_loose, 4, some .int)
theorem aX8_loose : Cond.code MX8_loose.1 MX8_loose.2.1 MX8_loose.2.2.1 MX8_loose.2.2.2 ∈ gg_W := gg_at 1047 (by decide +kernel)
abbrev MX8_seed : sk_m := (yX8_seed, cX8_seed, 2, some .int)
theorem aX8_seed : Cond.code MX8_seed.1 MX8_seed.2.1 MX8_seed.2.2.1 MX8_seed.2.2.2 ∈ gg_W := gg_at 1060 (by decide +kernel)
abbrev MX8_catches : sk_m := (yX8_catches, cX8_catches, 2, some .int)
theorem aX8_catches : Cond.code MX8_catches.1 MX8_catches.2.1 MX8_catches.2.2.1 MX8_catches.2.2.2 ∈ gg_W := gg_at 1064 (by decide +kernel)
abbrev MX8_enough : sk_m := (yX8_enough, cX8_enough, 6, some .int)
theorem aX8_enough : Cond.code MX8_enough.1 MX8_enough.2.1 MX8_enough.2.2.1 MX8_enough.2.2.2 ∈ gg_W := gg_at 1076 (by decide +kernel)
abbrev MX8_safe : sk_m := (yX8_safe, cX8_safe, 3, some .int)
theorem aX8_safe : Cond.code MX8_safe.1 MX8_safe.2.1 MX8_safe.2.2.1 MX8_safe.2.2.2 ∈ gg_W := gg_at 1072 (by decide +kernel)
abbrev MX8_shortest : sk_m := (yX8_shortest, cX8_shortest, 6, some .int)
theorem aX8_shortest : Cond.code MX8_shortest.1 MX8_shortest.2.1 MX8_shortest.2.2.1 MX8_shortest.2.2.2 ∈ gg_W := gg_at 1084 (by decide +kernel)
abbrev MX8_best : sk_m := (yX8_best, cX8_best, 9, some .int)
theorem aX8_best : Cond.code MX8_best.1 MX8_best.2.1 MX8_best.2.2.1 MX8_best.2.2.2 ∈ gg_W := gg_at 1080 (by decide +kernel)
abbrev MX8_agrees : sk_m := (yX8_agrees, cX8_agrees, 7, some .int)
theorem aX8_agrees : Cond.code MX8_agrees.1 MX8_agrees.2.1 MX8_agrees.2.2.1 MX8_agrees.2.2.2 ∈ gg_W := gg_at 1088 (by decide +kernel)
abbrev MX8_isEnough : sk_m := (yX8_isEnough, cX8_isEnough, 6, some .boolean)
theorem aX8_isEnough : Cond.code MX8_isEnough.1 MX8_isEnough.2.1 MX8_isEnough.2.2.1 MX8_isEnough.2.2.2 ∈ gg_W := gg_at 1100 (by decide +kernel)
abbrev MX8_needs : sk_m := (yX8_needs, cX8_needs, 5, some .int)
theorem aX8_needs : Cond.code MX8_needs.1 MX8_needs.2.1 MX8_needs.2.2.1 MX8_needs.2.2.2 ∈ gg_W := gg_at 1093 (by decide +kernel)
abbrev MX8_soonest : sk_m := (yX8_soonest, cX8_soonest, 5, some .int)
theorem aX8_soonest : Cond.code MX8_soonest.1 MX8_soonest.2.1 MX8_soonest.2.2.1 MX8_soonest.2.2.2 ∈ gg_W := gg_at 1104 (by decide +kernel)
abbrev MX8_partOf : sk_m := (yX8_partOf, cX8_partOf, 6, some .int)
theorem aX8_partOf : Cond.code MX8_partOf.1 MX8_partOf.2.1 MX8_partOf.2.2.1 MX8_partOf.2.2.2 ∈ gg_W := gg_at 1111 (by decide +kernel)
abbrev MX8_odds : sk_m := (yX8_odds, cX8_odds, 4, some .int)
theorem aX8_odds : Cond.code MX8_odds.1 MX8_odds.2.1 MX8_odds.2.2.1 MX8_odds.2.2.2 ∈ gg_W := gg_at 1108 (by decide +kernel)
abbrev MX8_mean : sk_m := (yX8_mean, cX8_mean, 6, some .int)
theorem aX8_mean : Cond.code MX8_mean.1 MX8_mean.2.1 MX8_mean.2.2.1 MX8_mean.2.2.2 ∈ gg_W := gg_at 1115 (by decide +kernel)
abbrev MX8_rightOf : sk_m := (yX8_rightOf, cX8_rightOf, 3, some .int)
theorem aX8_rightOf : Cond.code MX8_rightOf.1 MX8_rightOf.2.1 MX8_rightOf.2.2.1 MX8_rightOf.2.2.2 ∈ gg_W := gg_at 1126 (by decide +kernel)
abbrev MX8_fits : sk_m := (yX8_fits, cX8_fits, 8, some .int)
theorem aX8_fits : Cond.code MX8_fits.1 MX8_fits.2.1 MX8_fits.2.2.1 MX8_fits.2.2.2 ∈ gg_W := gg_at 1119 (by decide +kernel)
abbrev MX8_begins : sk_m := (yX8_begins, cX8_begins, 2, none)
theorem aX8_begins : Cond.code MX8_begins.1 MX8_begins.2.1 MX8_begins.2.2.1 MX8_begins.2.2.2 ∈ gg_W := gg_at 1142 (by decide +kernel)
abbrev MX8_plainCalls : sk_m := (yX8_plainCalls, cX8_plainCalls, 3, some .int)
theorem aX8_plainCalls : Cond.code MX8_plainCalls.1 MX8_plainCalls.2.1 MX8_plainCalls.2.2.1 MX8_plainCalls.2.2.2 ∈ gg_W := gg_at 1146 (by decide +kernel)
abbrev MX8_smackCalls : sk_m := (yX8_smackCalls, cX8_smackCalls, 3, some .int)
theorem aX8_smackCalls : Cond.code MX8_smackCalls.1 MX8_smackCalls.2.1 MX8_smackCalls.2.2.1 MX8_smackCalls.2.2.2 ∈ gg_W := gg_at 1138 (by decide +kernel)
abbrev MX8_calls : sk_m := (yX8_calls, cX8_calls, 3, some .int)
theorem aX8_calls : Cond.code MX8_calls.1 MX8_calls.2.1 MX8_calls.2.2.1 MX8_calls.2.2.2 ∈ gg_W := gg_at 1134 (by decide +kernel)
abbrev MX8_plainHauls : sk_m := (yX8_plainHauls, cX8_plainHauls, 3, some .int)
theorem aX8_plainHauls : Cond.code MX8_plainHauls.1 MX8_plainHauls.2.1 MX8_plainHauls.2.2.1 MX8_plainHauls.2.2.2 ∈ gg_W := gg_at 1158 (by decide +kernel)
abbrev MX8_skiffHauls : sk_m := (yX8_skiffHauls, cX8_skiffHauls, 3, some .int)
theorem aX8_skiffHauls : Cond.code MX8_skiffHauls.1 MX8_skiffHauls.2.1 MX8_skiffHauls.2.2.1 MX8_skiffHauls.2.2.2 ∈ gg_W := gg_at 1154 (by decide +kernel)
abbrev MX8_hauls : sk_m := (yX8_hauls, cX8_hauls, 3, some .int)
theorem aX8_hauls : Cond.code MX8_hauls.1 MX8_hauls.2.1 MX8_hauls.2.2.1 MX8_hauls.2.2.2 ∈ gg_W := gg_at 1150 (by decide +kernel)
abbrev MX8_plainLets : sk_m := (yX8_plainLets, cX8_plainLets, 3, some .int)
theorem aX8_plainLets : Cond.code MX8_plainLets.1 MX8_plainLets.2.1 MX8_plainLets.2.2.1 MX8_plainLets.2.2.2 ∈ gg_W := gg_at 1166 (by decide +kernel)
abbrev MX8_letsBy : sk_m := (yX8_letsBy, cX8_letsBy, 3, some .int)
theorem aX8_letsBy : Cond.code MX8_letsBy.1 MX8_letsBy.2.1 MX8_letsBy.2.2.1 MX8_letsBy.2.2.2 ∈ gg_W := gg_at 1162 (by decide +kernel)
abbrev MX8_plainParts : sk_m := (yX8_plainParts, cX8_plainParts, 4, some .int)
theorem aX8_plainParts : Cond.code MX8_plainParts.1 MX8_plainParts.2.1 MX8_plainParts.2.2.1 MX8_plainParts.2.2.2 ∈ gg_W := gg_at 1174 (by decide +kernel)
abbrev MX8_partsBy : sk_m := (yX8_partsBy, cX8_partsBy, 4, some .int)
theorem aX8_partsBy : Cond.code MX8_partsBy.1 MX8_partsBy.2.1 MX8_partsBy.2.2.1 MX8_partsBy.2.2.2 ∈ gg_W := gg_at 1170 (by decide +kernel)
abbrev MX8_voice : sk_m := (yX8_voice, cX8_voice, 5, some .int)
theorem aX8_voice : Cond.code MX8_voice.1 MX8_voice.2.1 MX8_voice.2.2.1 MX8_voice.2.2.2 ∈ gg_W := gg_at 1130 (by decide +kernel)
abbrev MX8_body : sk_m := (yX8_body, cX8_body, 2, some .int)
theorem aX8_body : Cond.code MX8_body.1 MX8_body.2.1 MX8_body.2.2.1 MX8_body.2.2.2 ∈ gg_W := gg_at 1179 (by decide +kernel)
abbrev MX8_isSheet : sk_m := (yX8_isSheet, cX8_isSheet, 1, some .boolean)
theorem aX8_isSheet : Cond.code MX8_isSheet.1 MX8_isSheet.2.1 MX8_isSheet.2.2.1 MX8_isSheet.2.2.2 ∈ gg_W := gg_at 1122 (by decide +kernel)
abbrev MX8_sheet : sk_m := (yX8_sheet, cX8_sheet, 5, some .int)
theorem aX8_sheet : Cond.code MX8_sheet.1 MX8_sheet.2.1 MX8_sheet.2.2.1 MX8_sheet.2.2.2 ∈ gg_W := gg_at 1183 (by decide +kernel)
abbrev MX8_notThere : sk_m := (yX8_notThere, cX8_notThere, 2, some .int)
theorem aX8_notThere : Cond.code MX8_notThere.1 MX8_notThere.2.1 MX8_notThere.2.2.1 MX8_notThere.2.2.2 ∈ gg_W := gg_at 1191 (by decide +kernel)
abbrev MX8_put : sk_m := (yX8_put, cX8_put, 5, some .int)
theorem aX8_put : Cond.code MX8_put.1 MX8_put.2.1 MX8_put.2.2.1 MX8_put.2.2.2 ∈ gg_W := gg_at 1187 (by decide +kernel)
abbrev MX8_notMoved : sk_m := (yX8_notMoved, cX8_notMoved, 7, some .int)
theorem aX8_notMoved : Cond.code MX8_notMoved.1 MX8_notMoved.2.1 MX8_notMoved.2.2.1 MX8_notMoved.2.2.2 ∈ gg_W := gg_at 1199 (by decide +kernel)
abbrev MX8_move : sk_m := (yX8_move, cX8_move, 9, some .int)
theorem aX8_move : Cond.code MX8_move.1 MX8_move.2.1 MX8_move.2.2.1 MX8_move.2.2.2 ∈ gg_W := gg_at 1195 (by decide +kernel)
abbrev MX8_prices : sk_m := (yX8_prices, cX8_prices, 4, some .int)
theorem aX8_prices : Cond.code MX8_prices.1 MX8_prices.2.1 MX8_prices.2.2.1 MX8_prices.2.2.2 ∈ gg_W := gg_at 1203 (by decide +kernel)
abbrev MX8_judge : sk_m := (yX8_judge, cX8_judge, 3, some .int)
theorem aX8_judge : Cond.code MX8_judge.1 MX8_judge.2.1 MX8_judge.2.2.1 MX8_judge.2.2.2 ∈ gg_W := gg_at 1207 (by decide +kernel)
abbrev MX8_image : sk_m := (yX8_image, cX8_image, 1, some .int)
theorem aX8_image : Cond.code MX8_image.1 MX8_image.2.1 MX8_image.2.2.1 MX8_image.2.2.2 ∈ gg_W := gg_at 1211 (by decide +kernel)
abbrev MX8_restore : sk_m := (yX8_restore, cX8_restore, 1, some .int)
theorem aX8_restore : Cond.code MX8_restore.1 MX8_restore.2.1 MX8_restore.2.2.1 MX8_restore.2.2.2 ∈ gg_W := gg_at 1218 (by decide +kernel)
abbrev MX8_tell : sk_m := (yX8_tell, cX8_tell, 2, some .int)
theorem aX8_tell : Cond.code MX8_tell.1 MX8_tell.2.1 MX8_tell.2.2.1 MX8_tell.2.2.2 ∈ gg_W := gg_at 1222 (by decide +kernel)
abbrev MX8_check : sk_m := (yX8_check, cX8_check, 3, some .int)
theorem aX8_check : Cond.code MX8_check.1 MX8_check.2.1 MX8_check.2.2.1 MX8_check.2.2.2 ∈ gg_W := gg_at 1226 (by decide +kernel)
abbrev MX8_count : sk_m := (yX8_count, cX8_count, 2, some .int)
theorem aX8_count : Cond.code MX8_count.1 MX8_count.2.1 MX8_count.2.2.1 MX8_count.2.2.2 ∈ gg_W := gg_at 1230 (by decide +kernel)
abbrev MX8_told : sk_m := (yX8_told, cX8_told, 2, some .int)
theorem aX8_told : Cond.code MX8_told.1 MX8_told.2.1 MX8_told.2.2.1 MX8_told.2.2.2 ∈ gg_W := gg_at 1234 (by decide +kernel)
abbrev MJ6_numberOfTrailingZeros_0f7a4 : sk_m := (yJ6_numberOfTrailingZeros_0f7a4, cJ6_numberOfTrailingZeros_0f7a4, 2, some .int)
theorem aJ6_numberOfTrailingZeros_0f7a4 : Cond.code MJ6_numberOfTrailingZeros_0f7a4.1 MJ6_numberOfTrailingZeros_0f7a4.2.1 MJ6_numberOfTrailingZeros_0f7a4.2.2.1 MJ6_numberOfTrailingZeros_0f7a4.2.2.2 ∈ gg_W := gg_at 695 (by decide +kernel)
abbrev MJ6_bitCount_0f7a4 : sk_m := (yJ6_bitCount_0f7a4, cJ6_bitCount_0f7a4, 1, some .int)
theorem aJ6_bitCount_0f7a4 : Cond.code MJ6_bitCount_0f7a4.1 MJ6_bitCount_0f7a4.2.1 MJ6_bitCount_0f7a4.2.2.1 MJ6_bitCount_0f7a4.2.2.2 ∈ gg_W := gg_at 643 (by decide +kernel)
abbrev MJ9_max_7cf53 : sk_m := (yJ9_max_7cf53, cJ9_max_7cf53, 2, some .int)
theorem aJ9_max_7cf53 : Cond.code MJ9_max_7cf53.1 MJ9_max_7cf53.2.1 MJ9_max_7cf53.2.2.1 MJ9_max_7cf53.2.2.2 ∈ gg_W := gg_at 380 (by decide +kernel)
abbrev MJ9_min_7cf53 : sk_m := (yJ9_min_7cf53, cJ9_min_7cf53, 2, some .int)
theorem aJ9_min_7cf53 : Cond.code MJ9_min_7cf53.1 MJ9_min_7cf53.2.1 MJ9_min_7cf53.2.2.1 MJ9_min_7cf53.2.2.2 ∈ gg_W := gg_at 377 (by decide +kernel)
abbrev MJ0_length_8abf5 : sk_m := (yJ0_length_8abf5, cJ0_length_8abf5, 1, some .int)
theorem aJ0_length_8abf5 : Cond.code MJ0_length_8abf5.1 MJ0_length_8abf5.2.1 MJ0_length_8abf5.2.2.1 MJ0_length_8abf5.2.2.2 ∈ gg_W := gg_at 480 (by decide +kernel)
abbrev MJ0_charAt_5068e : sk_m := (yJ0_charAt_5068e, cJ0_charAt_5068e, 2, some .char)
theorem aJ0_charAt_5068e : Cond.code MJ0_charAt_5068e.1 MJ0_charAt_5068e.2.1 MJ0_charAt_5068e.2.2.1 MJ0_charAt_5068e.2.2.2 ∈ gg_W := gg_at 490 (by decide +kernel)
abbrev MJ0_coder_7d493 : sk_m := (yJ0_coder_7d493, cJ0_coder_7d493, 1, some .byte)
theorem aJ0_coder_7d493 : Cond.code MJ0_coder_7d493.1 MJ0_coder_7d493.2.1 MJ0_coder_7d493.2.2.1 MJ0_coder_7d493.2.2.2 ∈ gg_W := gg_at 484 (by decide +kernel)
abbrev MJ0_isLatin1_aae02 : sk_m := (yJ0_isLatin1_aae02, cJ0_isLatin1_aae02, 1, some .boolean)
theorem aJ0_isLatin1_aae02 : Cond.code MJ0_isLatin1_aae02.1 MJ0_isLatin1_aae02.2.1 MJ0_isLatin1_aae02.2.2.1 MJ0_isLatin1_aae02.2.2.2 ∈ gg_W := gg_at 494 (by decide +kernel)
abbrev MJ0_checkIndex_df160 : sk_m := (yJ0_checkIndex_df160, cJ0_checkIndex_df160, 2, none)
theorem aJ0_checkIndex_df160 : Cond.code MJ0_checkIndex_df160.1 MJ0_checkIndex_df160.2.1 MJ0_checkIndex_df160.2.2.1 MJ0_checkIndex_df160.2.2.2 ∈ gg_W := gg_at 500 (by decide +kernel)
abbrev MJ1_charAt_3b067 : sk_m := (yJ1_charAt_3b067, cJ1_charAt_3b067, 2, some .char)
theorem aJ1_charAt_3b067 : Cond.code MJ1_charAt_3b067.1 MJ1_charAt_3b067.2.1 MJ1_charAt_3b067.2.2.1 MJ1_charAt_3b067.2.2.2 ∈ gg_W := gg_at 497 (by decide +kernel)
abbrev MJ2_getChar_3b067 : sk_m := (yJ2_getChar_3b067, cJ2_getChar_3b067, 2, some .char)
theorem aJ2_getChar_3b067 : Cond.code MJ2_getChar_3b067.1 MJ2_getChar_3b067.2.1 MJ2_getChar_3b067.2.2.1 MJ2_getChar_3b067.2.2.2 ∈ gg_W := gg_at 518 (by decide +kernel)
abbrev MJ2_length_9d52b : sk_m := (yJ2_length_9d52b, cJ2_length_9d52b, 1, some .int)
theorem aJ2_length_9d52b : Cond.code MJ2_length_9d52b.1 MJ2_length_9d52b.2.1 MJ2_length_9d52b.2.2.1 MJ2_length_9d52b.2.2.2 ∈ gg_W := gg_at 514 (by decide +kernel)
abbrev MJ2_charAt_3b067 : sk_m := (yJ2_charAt_3b067, cJ2_charAt_3b067, 2, some .char)
theorem aJ2_charAt_3b067 : Cond.code MJ2_charAt_3b067.1 MJ2_charAt_3b067.2.1 MJ2_charAt_3b067.2.2.1 MJ2_charAt_3b067.2.2.2 ∈ gg_W := gg_at 508 (by decide +kernel)
abbrev MJ2_checkIndex_2214a : sk_m := (yJ2_checkIndex_2214a, cJ2_checkIndex_2214a, 2, none)
theorem aJ2_checkIndex_2214a : Cond.code MJ2_checkIndex_2214a.1 MJ2_checkIndex_2214a.2.1 MJ2_checkIndex_2214a.2.2.1 MJ2_checkIndex_2214a.2.2.2 ∈ gg_W := gg_at 511 (by decide +kernel)
abbrev MJ7_fill_53178 : sk_m := (yJ7_fill_53178, cJ7_fill_53178, 4, none)
theorem aJ7_fill_53178 : Cond.code MJ7_fill_53178.1 MJ7_fill_53178.2.1 MJ7_fill_53178.2.2.1 MJ7_fill_53178.2.2.2 ∈ gg_W := gg_at 120 (by decide +kernel)
abbrev MJ3_checkIndex_8e157 : sk_m := (yJ3_checkIndex_8e157, cJ3_checkIndex_8e157, 3, some .int)
theorem aJ3_checkIndex_8e157 : Cond.code MJ3_checkIndex_8e157.1 MJ3_checkIndex_8e157.2.1 MJ3_checkIndex_8e157.2.2.1 MJ3_checkIndex_8e157.2.2.2 ∈ gg_W := gg_at 505 (by decide +kernel)
theorem iniRL : Cond.initialized RL ∈ gg_W := gg_at 82 (by decide +kernel)
theorem iniRX7 : Cond.initialized RX7 ∈ gg_W := gg_at 83 (by decide +kernel)
theorem iniRX2 : Cond.initialized RX2 ∈ gg_W := gg_at 84 (by decide +kernel)
theorem iniRJ7 : Cond.initialized RJ7 ∈ gg_W := gg_at 85 (by decide +kernel)
theorem iniRX0 : Cond.initialized RX0 ∈ gg_W := gg_at 86 (by decide +kernel)
theorem iniRX1 : Cond.initialized RX1 ∈ gg_W := gg_at 87 (by decide +kernel)
theorem iniRX3 : Cond.initialized RX3 ∈ gg_W := gg_at 88 (by decide +kernel)
theorem iniRX6 : Cond.initialized RX6 ∈ gg_W := gg_at 89 (by decide +kernel)
theorem iniRX4 : Cond.initialized RX4 ∈ gg_W := gg_at 90 (by decide +kernel)
theorem iniRX8 : Cond.initialized RX8 ∈ gg_W := gg_at 91 (by decide +kernel)
theorem iniRJ9 : Cond.initialized RJ9 ∈ gg_W := gg_at 92 (by decide +kernel)
theorem iniRJ10 : Cond.initialized RJ10 ∈ gg_W := gg_at 93 (by decide +kernel)
theorem iniRJ0 : Cond.initialized RJ0 ∈ gg_W := gg_at 94 (by decide +kernel)
theorem iniRJ1 : Cond.initialized RJ1 ∈ gg_W := gg_at 95 (by decide +kernel)
theorem iniRJ3 : Cond.initialized RJ3 ∈ gg_W := gg_at 96 (by decide +kernel)
theorem iniRJ2 : Cond.initialized RJ2 ∈ gg_W := gg_at 97 (by decide +kernel)
theorem iniRX5 : Cond.initialized RX5 ∈ gg_W := gg_at 98 (by decide +kernel)
theorem iniRJ6 : Cond.initialized RJ6 ∈ gg_W := gg_at 99 (by decide +kernel)
theorem dsX0_init : MX0_init.1.cls ≠ "java/lang/invoke/MethodHandle" ∧ MX0_init.1.cls ≠ "java/lang/invoke/VarHandle" ∧ (parseMethodDescriptor MX0_init.1.desc).map (fun d => d.parameters.length) = some 0 := by decide +kernel
theorem dsX0_turnInto : MX0_turnInto.1.cls ≠ "java/lang/invoke/MethodHandle" ∧ MX0_turnInto.1.cls ≠ "java/lang/invoke/VarHandle" ∧ (parseMethodDescriptor MX0_turnInto.1.desc).map (fun d => d.parameters.length) = some 1 := by decide +kernel
theorem viX0_turnInto : Cond.instanceMethod MX0_turnInto.1 ∈ gg_W := gg_at 343 (by decide +kernel)
theorem vsX0_turnInto : Cond.selects MX0_turnInto.1.cls MX0_turnInto.1 MX0_turnInto.1 ∈ gg_W := gg_at 1 (by decide +kernel)
theorem dsX0_takeFrom : MX0_takeFrom.1.cls ≠ "java/lang/invoke/MethodHandle" ∧ MX0_takeFrom.1.cls ≠ "java/lang/invoke/VarHandle" ∧ (parseMethodDescriptor MX0_takeFrom.1.desc).map (fun d => d.parameters.length) = some 1 := by decide +kernel
theorem viX0_takeFrom : Cond.instanceMethod MX0_takeFrom.1 ∈ gg_W := gg_at 771 (by decide +kernel)
theorem vsX0_takeFrom : Cond.selects MX0_takeFrom.1.cls MX0_takeFrom.1 MX0_takeFrom.1 ∈ gg_W := gg_at 34 (by decide +kernel)
theorem dsX0_isOneOf : MX0_isOneOf.1.cls ≠ "java/lang/invoke/MethodHandle" ∧ MX0_isOneOf.1.cls ≠ "java/lang/invoke/VarHandle" ∧ (parseMethodDescriptor MX0_isOneOf.1.desc).map (fun d => d.parameters.length) = some 1 := by decide +kernel
theorem viX0_isOneOf : Cond.instanceMethod MX0_isOneOf.1 ∈ gg_W := gg_at 394 (by decide +kernel)
theorem vsX0_isOneOf : Cond.selects MX0_isOneOf.1.cls MX0_isOneOf.1 MX0_isOneOf.1 ∈ gg_W := gg_at 7 (by decide +kernel)
theorem dsX0_hauls : MX0_hauls.1.cls ≠ "java/lang/invoke/MethodHandle" ∧ MX0_hauls.1.cls ≠ "java/lang/invoke/VarHandle" ∧ (parseMethodDescriptor MX0_hauls.1.desc).map (fun d => d.parameters.length) = some 3 := by decide +kernel
theorem viX0_hauls : Cond.instanceMethod MX0_hauls.1 ∈ gg_W := gg_at 366 (by decide +kernel)
theorem vsX0_hauls : Cond.selects MX0_hauls.1.cls MX0_hauls.1 MX0_hauls.1 ∈ gg_W := gg_at 5 (by decide +kernel)
theorem dsX0_eats : MX0_eats.1.cls ≠ "java/lang/invoke/MethodHandle" ∧ MX0_eats.1.cls ≠ "java/lang/invoke/VarHandle" ∧ (parseMethodDescriptor MX0_eats.1.desc).map (fun d => d.parameters.length) = some 1 := by decide +kernel
theorem viX0_eats : Cond.instanceMethod MX0_eats.1 ∈ gg_W := gg_at 358 (by decide +kernel)
theorem vsX0_eats : Cond.selects MX0_eats.1.cls MX0_eats.1 MX0_eats.1 ∈ gg_W := gg_at 3 (by decide +kernel)
theorem dsX1_init : MX1_init.1.cls ≠ "java/lang/invoke/MethodHandle" ∧ MX1_init.1.cls ≠ "java/lang/invoke/VarHandle" ∧ (parseMethodDescriptor MX1_init.1.desc).map (fun d => d.parameters.length) = some 0 := by decide +kernel
theorem dsX1_take : MX1_take.1.cls ≠ "java/lang/invoke/MethodHandle" ∧ MX1_take.1.cls ≠ "java/lang/invoke/VarHandle" ∧ (parseMethodDescriptor MX1_take.1.desc).map (fun d => d.parameters.length) = some 2 := by decide +kernel
theorem viX1_take : Cond.instanceMethod MX1_take.1 ∈ gg_W := gg_at 538 (by decide +kernel)
theorem vsX1_take : Cond.selects MX1_take.1.cls MX1_take.1 MX1_take.1 ∈ gg_W := gg_at 19 (by decide +kernel)
theorem dsX1_takeFrom : MX1_takeFrom.1.cls ≠ "java/lang/invoke/MethodHandle" ∧ MX1_takeFrom.1.cls ≠ "java/lang/invoke/VarHandle" ∧ (parseMethodDescriptor MX1_takeFrom.1.desc).map (fun d => d.parameters.length) = some 1 := by decide +kernel
theorem viX1_takeFrom : Cond.instanceMethod MX1_takeFrom.1 ∈ gg_W := gg_at 775 (by decide +kernel)
theorem vsX1_takeFrom : Cond.selects MX1_takeFrom.1.cls MX1_takeFrom.1 MX1_takeFrom.1 ∈ gg_W := gg_at 35 (by decide +kernel)
theorem dsX1_gives : MX1_gives.1.cls ≠ "java/lang/invoke/MethodHandle" ∧ MX1_gives.1.cls ≠ "java/lang/invoke/VarHandle" ∧ (parseMethodDescriptor MX1_gives.1.desc).map (fun d => d.parameters.length) = some 3 := by decide +kernel
theorem viX1_gives : Cond.instanceMethod MX1_gives.1 ∈ gg_W := gg_at 370 (by decide +kernel)
theorem vsX1_gives : Cond.selects MX1_gives.1.cls MX1_gives.1 MX1_gives.1 ∈ gg_W := gg_at 6 (by decide +kernel)
theorem dsX1_joined : MX1_joined.1.cls ≠ "java/lang/invoke/MethodHandle" ∧ MX1_joined.1.cls ≠ "java/lang/invoke/VarHandle" ∧ (parseMethodDescriptor MX1_joined.1.desc).map (fun d => d.parameters.length) = some 3 := by decide +kernel
theorem stX1_joined : Cond.static MX1_joined.1 ∈ gg_W := gg_at 382 (by decide +kernel)
theorem dsX2_init : MX2_init.1.cls ≠ "java/lang/invoke/MethodHandle" ∧ MX2_init.1.cls ≠ "java/lang/invoke/VarHandle" ∧ (parseMethodDescriptor MX2_init.1.desc).map (fun d => d.parameters.length) = some 0 := by decide +kernel
theorem dsX2_takeFrom : MX2_takeFrom.1.cls ≠ "java/lang/invoke/MethodHandle" ∧ MX2_takeFrom.1.cls ≠ "java/lang/invoke/VarHandle" ∧ (parseMethodDescriptor MX2_takeFrom.1.desc).map (fun d => d.parameters.length) = some 1 := by decide +kernel
theorem viX2_takeFrom : Cond.instanceMethod MX2_takeFrom.1 ∈ gg_W := gg_at 766 (by decide +kernel)
theorem vsX2_takeFrom : Cond.selects MX2_takeFrom.1.cls MX2_takeFrom.1 MX2_takeFrom.1 ∈ gg_W := gg_at 33 (by decide +kernel)
theorem dsX2_landed : MX2_landed.1.cls ≠ "java/lang/invoke/MethodHandle" ∧ MX2_landed.1.cls ≠ "java/lang/invoke/VarHandle" ∧ (parseMethodDescriptor MX2_landed.1.desc).map (fun d => d.parameters.length) = some 5 := by decide +kernel
theorem viX2_landed : Cond.instanceMethod MX2_landed.1 ∈ gg_W := gg_at 362 (by decide +kernel)
theorem vsX2_landed : Cond.selects MX2_landed.1.cls MX2_landed.1 MX2_landed.1 ∈ gg_W := gg_at 4 (by decide +kernel)
theorem dsX2_caught : MX2_caught.1.cls ≠ "java/lang/invoke/MethodHandle" ∧ MX2_caught.1.cls ≠ "java/lang/invoke/VarHandle" ∧ (parseMethodDescriptor MX2_caught.1.desc).map (fun d => d.parameters.length) = some 4 := by decide +kernel
theorem viX2_caught : Cond.instanceMethod MX2_caught.1 ∈ gg_W := gg_at 562 (by decide +kernel)
theorem vsX2_caught : Cond.selects MX2_caught.1.cls MX2_caught.1 MX2_caught.1 ∈ gg_W := gg_at 21 (by decide +kernel)
theorem dsX2_caughtNow : MX2_caughtNow.1.cls ≠ "java/lang/invoke/MethodHandle" ∧ MX2_caughtNow.1.cls ≠ "java/lang/invoke/VarHandle" ∧ (parseMethodDescriptor MX2_caughtNow.1.desc).map (fun d => d.parameters.length) = some 1 := by decide +kernel
theorem viX2_caughtNow : Cond.instanceMethod MX2_caughtNow.1 ∈ gg_W := gg_at 594 (by decide +kernel)
theorem vsX2_caughtNow : Cond.selects MX2_caughtNow.1.cls MX2_caughtNow.1 MX2_caughtNow.1 ∈ gg_W := gg_at 24 (by decide +kernel)
theorem dsX2_coins : MX2_coins.1.cls ≠ "java/lang/invoke/MethodHandle" ∧ MX2_coins.1.cls ≠ "java/lang/invoke/VarHandle" ∧ (parseMethodDescriptor MX2_coins.1.desc).map (fun d => d.parameters.length) = some 2 := by decide +kernel
theorem viX2_coins : Cond.instanceMethod MX2_coins.1 ∈ gg_W := gg_at 425 (by decide +kernel)
theorem vsX2_coins : Cond.selects MX2_coins.1.cls MX2_coins.1 MX2_coins.1 ∈ gg_W := gg_at 9 (by decide +kernel)
theorem dsX2_promise : MX2_promise.1.cls ≠ "java/lang/invoke/MethodHandle" ∧ MX2_promise.1.cls ≠ "java/lang/invoke/VarHandle" ∧ (parseMethodDescriptor MX2_promise.1.desc).map (fun d => d.parameters.length) = some 2 := by decide +kernel
theorem viX2_promise : Cond.instanceMethod MX2_promise.1 ∈ gg_W := gg_at 421 (by decide +kernel)
theorem vsX2_promise : Cond.selects MX2_promise.1.cls MX2_promise.1 MX2_promise.1 ∈ gg_W := gg_at 8 (by decide +kernel)
theorem dsX2_settle : MX2_settle.1.cls ≠ "java/lang/invoke/MethodHandle" ∧ MX2_settle.1.cls ≠ "java/lang/invoke/VarHandle" ∧ (parseMethodDescriptor MX2_settle.1.desc).map (fun d => d.parameters.length) = some 0 := by decide +kernel
theorem viX2_settle : Cond.instanceMethod MX2_settle.1 ∈ gg_W := gg_at 558 (by decide +kernel)
theorem vsX2_settle : Cond.selects MX2_settle.1.cls MX2_settle.1 MX2_settle.1 ∈ gg_W := gg_at 20 (by decide +kernel)
theorem dsX2_dayByDraws : MX2_dayByDraws.1.cls ≠ "java/lang/invoke/MethodHandle" ∧ MX2_dayByDraws.1.cls ≠ "java/lang/invoke/VarHandle" ∧ (parseMethodDescriptor MX2_dayByDraws.1.desc).map (fun d => d.parameters.length) = some 0 := by decide +kernel
theorem viX2_dayByDraws : Cond.instanceMethod MX2_dayByDraws.1 ∈ gg_W := gg_at 575 (by decide +kernel)
theorem vsX2_dayByDraws : Cond.selects MX2_dayByDraws.1.cls MX2_dayByDraws.1 MX2_dayByDraws.1 ∈ gg_W := gg_at 22 (by decide +kernel)
theorem dsX2_draw : MX2_draw.1.cls ≠ "java/lang/invoke/MethodHandle" ∧ MX2_draw.1.cls ≠ "java/lang/invoke/VarHandle" ∧ (parseMethodDescriptor MX2_draw.1.desc).map (fun d => d.parameters.length) = some 0 := by decide +kernel
theorem viX2_draw : Cond.instanceMethod MX2_draw.1 ∈ gg_W := gg_at 579 (by decide +kernel)
theorem vsX2_draw : Cond.selects MX2_draw.1.cls MX2_draw.1 MX2_draw.1 ∈ gg_W := gg_at 23 (by decide +kernel)
theorem dsX3_init : MX3_init.1.cls ≠ "java/lang/invoke/MethodHandle" ∧ MX3_init.1.cls ≠ "java/lang/invoke/VarHandle" ∧ (parseMethodDescriptor MX3_init.1.desc).map (fun d => d.parameters.length) = some 0 := by decide +kernel
theorem dsX3_faultIn : MX3_faultIn.1.cls ≠ "java/lang/invoke/MethodHandle" ∧ MX3_faultIn.1.cls ≠ "java/lang/invoke/VarHandle" ∧ (parseMethodDescriptor MX3_faultIn.1.desc).map (fun d => d.parameters.length) = some 3 := by decide +kernel
theorem viX3_faultIn : Cond.instanceMethod MX3_faultIn.1 ∈ gg_W := gg_at 442 (by decide +kernel)
theorem vsX3_faultIn : Cond.selects MX3_faultIn.1.cls MX3_faultIn.1 MX3_faultIn.1 ∈ gg_W := gg_at 10 (by decide +kernel)
theorem dsX3_readLevel : MX3_readLevel.1.cls ≠ "java/lang/invoke/MethodHandle" ∧ MX3_readLevel.1.cls ≠ "java/lang/invoke/VarHandle" ∧ (parseMethodDescriptor MX3_readLevel.1.desc).map (fun d => d.parameters.length) = some 2 := by decide +kernel
theorem viX3_readLevel : Cond.instanceMethod MX3_readLevel.1 ∈ gg_W := gg_at 451 (by decide +kernel)
theorem vsX3_readLevel : Cond.selects MX3_readLevel.1.cls MX3_readLevel.1 MX3_readLevel.1 ∈ gg_W := gg_at 11 (by decide +kernel)
theorem dsX3_readItem : MX3_readItem.1.cls ≠ "java/lang/invoke/MethodHandle" ∧ MX3_readItem.1.cls ≠ "java/lang/invoke/VarHandle" ∧ (parseMethodDescriptor MX3_readItem.1.desc).map (fun d => d.parameters.length) = some 1 := by decide +kernel
theorem viX3_readItem : Cond.instanceMethod MX3_readItem.1 ∈ gg_W := gg_at 455 (by decide +kernel)
theorem vsX3_readItem : Cond.selects MX3_readItem.1.cls MX3_readItem.1 MX3_readItem.1 ∈ gg_W := gg_at 12 (by decide +kernel)
theorem dsX3_readDenied : MX3_readDenied.1.cls ≠ "java/lang/invoke/MethodHandle" ∧ MX3_readDenied.1.cls ≠ "java/lang/invoke/VarHandle" ∧ (parseMethodDescriptor MX3_readDenied.1.desc).map (fun d => d.parameters.length) = some 1 := by decide +kernel
theorem viX3_readDenied : Cond.instanceMethod MX3_readDenied.1 ∈ gg_W := gg_at 527 (by decide +kernel)
theorem vsX3_readDenied : Cond.selects MX3_readDenied.1.cls MX3_readDenied.1 MX3_readDenied.1 ∈ gg_W := gg_at 17 (by decide +kernel)
theorem dsX3_readBracketed : MX3_readBracketed.1.cls ≠ "java/lang/invoke/MethodHandle" ∧ MX3_readBracketed.1.cls ≠ "java/lang/invoke/VarHandle" ∧ (parseMethodDescriptor MX3_readBracketed.1.desc).map (fun d => d.parameters.length) = some 1 := by decide +kernel
theorem viX3_readBracketed : Cond.instanceMethod MX3_readBracketed.1 ∈ gg_W := gg_at 531 (by decide +kernel)
theorem vsX3_readBracketed : Cond.selects MX3_readBracketed.1.cls MX3_readBracketed.1 MX3_readBracketed.1 ∈ gg_W := gg_at 18 (by decide +kernel)
theorem dsX3_readNumber : MX3_readNumber.1.cls ≠ "java/lang/invoke/MethodHandle" ∧ MX3_readNumber.1.cls ≠ "java/lang/invoke/VarHandle" ∧ (parseMethodDescriptor MX3_readNumber.1.desc).map (fun d => d.parameters.length) = some 0 := by decide +kernel
theorem viX3_readNumber : Cond.instanceMethod MX3_readNumber.1 ∈ gg_W := gg_at 466 (by decide +kernel)
theorem vsX3_readNumber : Cond.selects MX3_readNumber.1.cls MX3_readNumber.1 MX3_readNumber.1 ∈ gg_W := gg_at 14 (by decide +kernel)
theorem dsX3_next : MX3_next.1.cls ≠ "java/lang/invoke/MethodHandle" ∧ MX3_next.1.cls ≠ "java/lang/invoke/VarHandle" ∧ (parseMethodDescriptor MX3_next.1.desc).map (fun d => d.parameters.length) = some 0 := by decide +kernel
theorem viX3_next : Cond.instanceMethod MX3_next.1 ∈ gg_W := gg_at 459 (by decide +kernel)
theorem vsX3_next : Cond.selects MX3_next.1.cls MX3_next.1 MX3_next.1 ∈ gg_W := gg_at 13 (by decide +kernel)
theorem dsX3_write : MX3_write.1.cls ≠ "java/lang/invoke/MethodHandle" ∧ MX3_write.1.cls ≠ "java/lang/invoke/VarHandle" ∧ (parseMethodDescriptor MX3_write.1.desc).map (fun d => d.parameters.length) = some 1 := by decide +kernel
theorem viX3_write : Cond.instanceMethod MX3_write.1 ∈ gg_W := gg_at 470 (by decide +kernel)
theorem vsX3_write : Cond.selects MX3_write.1.cls MX3_write.1 MX3_write.1 ∈ gg_W := gg_at 15 (by decide +kernel)
theorem dsX3_isDigit : MX3_isDigit.1.cls ≠ "java/lang/invoke/MethodHandle" ∧ MX3_isDigit.1.cls ≠ "java/lang/invoke/VarHandle" ∧ (parseMethodDescriptor MX3_isDigit.1.desc).map (fun d => d.parameters.length) = some 1 := by decide +kernel
theorem stX3_isDigit : Cond.static MX3_isDigit.1 ∈ gg_W := gg_at 462 (by decide +kernel)
theorem dsX3_nameOf : MX3_nameOf.1.cls ≠ "java/lang/invoke/MethodHandle" ∧ MX3_nameOf.1.cls ≠ "java/lang/invoke/VarHandle" ∧ (parseMethodDescriptor MX3_nameOf.1.desc).map (fun d => d.parameters.length) = some 1 := by decide +kernel
theorem viX3_nameOf : Cond.instanceMethod MX3_nameOf.1 ∈ gg_W := gg_at 474 (by decide +kernel)
theorem vsX3_nameOf : Cond.selects MX3_nameOf.1.cls MX3_nameOf.1 MX3_nameOf.1 ∈ gg_W := gg_at 16 (by decide +kernel)
theorem dsX3_levelOf : MX3_levelOf.1.cls ≠ "java/lang/invoke/MethodHandle" ∧ MX3_levelOf.1.cls ≠ "java/lang/invoke/VarHandle" ∧ (parseMethodDescriptor MX3_levelOf.1.desc).map (fun d => d.parameters.length) = some 1 := by decide +kernel
theorem stX3_levelOf : Cond.static MX3_levelOf.1 ∈ gg_W := gg_at 534 (by decide +kernel)
theorem dsX4_init : MX4_init.1.cls ≠ "java/lang/invoke/MethodHandle" ∧ MX4_init.1.cls ≠ "java/lang/invoke/VarHandle" ∧ (parseMethodDescriptor MX4_init.1.desc).map (fun d => d.parameters.length) = some 0 := by decide +kernel
theorem dsX4_lay : MX4_lay.1.cls ≠ "java/lang/invoke/MethodHandle" ∧ MX4_lay.1.cls ≠ "java/lang/invoke/VarHandle" ∧ (parseMethodDescriptor MX4_lay.1.desc).map (fun d => d.parameters.length) = some 2 := by decide +kernel
theorem viX4_lay : Cond.instanceMethod MX4_lay.1 ∈ gg_W := gg_at 731 (by decide +kernel)
theorem vsX4_lay : Cond.selects MX4_lay.1.cls MX4_lay.1 MX4_lay.1 ∈ gg_W := gg_at 30 (by decide +kernel)
theorem dsX4_isMissing : MX4_isMissing.1.cls ≠ "java/lang/invoke/MethodHandle" ∧ MX4_isMissing.1.cls ≠ "java/lang/invoke/VarHandle" ∧ (parseMethodDescriptor MX4_isMissing.1.desc).map (fun d => d.parameters.length) = some 0 := by decide +kernel
theorem viX4_isMissing : Cond.instanceMethod MX4_isMissing.1 ∈ gg_W := gg_at 685 (by decide +kernel)
theorem vsX4_isMissing : Cond.selects MX4_isMissing.1.cls MX4_isMissing.1 MX4_isMissing.1 ∈ gg_W := gg_at 25 (by decide +kernel)
theorem dsX4_has : MX4_has.1.cls ≠ "java/lang/invoke/MethodHandle" ∧ MX4_has.1.cls ≠ "java/lang/invoke/VarHandle" ∧ (parseMethodDescriptor MX4_has.1.desc).map (fun d => d.parameters.length) = some 2 := by decide +kernel
theorem viX4_has : Cond.instanceMethod MX4_has.1 ∈ gg_W := gg_at 749 (by decide +kernel)
theorem vsX4_has : Cond.selects MX4_has.1.cls MX4_has.1 MX4_has.1 ∈ gg_W := gg_at 32 (by decide +kernel)
theorem dsX4_lowestBits : MX4_lowestBits.1.cls ≠ "java/lang/invoke/MethodHandle" ∧ MX4_lowestBits.1.cls ≠ "java/lang/invoke/VarHandle" ∧ (parseMethodDescriptor MX4_lowestBits.1.desc).map (fun d => d.parameters.length) = some 1 := by decide +kernel
theorem viX4_lowestBits : Cond.instanceMethod MX4_lowestBits.1 ∈ gg_W := gg_at 740 (by decide +kernel)
theorem vsX4_lowestBits : Cond.selects MX4_lowestBits.1.cls MX4_lowestBits.1 MX4_lowestBits.1 ∈ gg_W := gg_at 31 (by decide +kernel)
theorem dsX5_safest : MX5_safest.1.cls ≠ "java/lang/invoke/MethodHandle" ∧ MX5_safest.1.cls ≠ "java/lang/invoke/VarHandle" ∧ (parseMethodDescriptor MX5_safest.1.desc).map (fun d => d.parameters.length) = some 2 := by decide +kernel
theorem stX5_safest : Cond.static MX5_safest.1 ∈ gg_W := gg_at 601 (by decide +kernel)
theorem dsX5_isSafe : MX5_isSafe.1.cls ≠ "java/lang/invoke/MethodHandle" ∧ MX5_isSafe.1.cls ≠ "java/lang/invoke/VarHandle" ∧ (parseMethodDescriptor MX5_isSafe.1.desc).map (fun d => d.parameters.length) = some 3 := by decide +kernel
theorem stX5_isSafe : Cond.static MX5_isSafe.1 ∈ gg_W := gg_at 604 (by decide +kernel)
theorem dsX5_bestToSell : MX5_bestToSell.1.cls ≠ "java/lang/invoke/MethodHandle" ∧ MX5_bestToSell.1.cls ≠ "java/lang/invoke/VarHandle" ∧ (parseMethodDescriptor MX5_bestToSell.1.desc).map (fun d => d.parameters.length) = some 2 := by decide +kernel
theorem stX5_bestToSell : Cond.static MX5_bestToSell.1 ∈ gg_W := gg_at 612 (by decide +kernel)
theorem dsX5_gain : MX5_gain.1.cls ≠ "java/lang/invoke/MethodHandle" ∧ MX5_gain.1.cls ≠ "java/lang/invoke/VarHandle" ∧ (parseMethodDescriptor MX5_gain.1.desc).map (fun d => d.parameters.length) = some 3 := by decide +kernel
theorem stX5_gain : Cond.static MX5_gain.1 ∈ gg_W := gg_at 615 (by decide +kernel)
theorem dsX5_agreesWithItself : MX5_agreesWithItself.1.cls ≠ "java/lang/invoke/MethodHandle" ∧ MX5_agreesWithItself.1.cls ≠ "java/lang/invoke/VarHandle" ∧ (parseMethodDescriptor MX5_agreesWithItself.1.desc).map (fun d => d.parameters.length) = some 3 := by decide +kernel
theorem stX5_agreesWithItself : Cond.static MX5_agreesWithItself.1 ∈ gg_W := gg_at 628 (by decide +kernel)
theorem dsX5_howManyAgree : MX5_howManyAgree.1.cls ≠ "java/lang/invoke/MethodHandle" ∧ MX5_howManyAgree.1.cls ≠ "java/lang/invoke/VarHandle" ∧ (parseMethodDescriptor MX5_howManyAgree.1.desc).map (fun d => d.parameters.length) = some 2 := by decide +kernel
theorem stX5_howManyAgree : Cond.static MX5_howManyAgree.1 ∈ gg_W := gg_at 625 (by decide +kernel)
theorem dsX5_leastThatAgrees : MX5_leastThatAgrees.1.cls ≠ "java/lang/invoke/MethodHandle" ∧ MX5_leastThatAgrees.1.cls ≠ "java/lang/invoke/VarHandle" ∧ (parseMethodDescriptor MX5_leastThatAgrees.1.desc).map (fun d => d.parameters.length) = some 2 := by decide +kernel
theorem stX5_leastThatAgrees : Cond.static MX5_leastThatAgrees.1 ∈ gg_W := gg_at 631 (by decide +kernel)
theorem dsX5_fewestBoats : MX5_fewestBoats.1.cls ≠ "java/lang/invoke/MethodHandle" ∧ MX5_fewestBoats.1.cls ≠ "java/lang/invoke/VarHandle" ∧ (parseMethodDescriptor MX5_fewestBoats.1.desc).map (fun d => d.parameters.length) = some 1 := by decide +kernel
theorem stX5_fewestBoats : Cond.static MX5_fewestBoats.1 ∈ gg_W := gg_at 639 (by decide +kernel)
theorem dsX5_isEnough : MX5_isEnough.1.cls ≠ "java/lang/invoke/MethodHandle" ∧ MX5_isEnough.1.cls ≠ "java/lang/invoke/VarHandle" ∧ (parseMethodDescriptor MX5_isEnough.1.desc).map (fun d => d.parameters.length) = some 2 := by decide +kernel
theorem stX5_isEnough : Cond.static MX5_isEnough.1 ∈ gg_W := gg_at 648 (by decide +kernel)
theorem dsX5_daysUntil : MX5_daysUntil.1.cls ≠ "java/lang/invoke/MethodHandle" ∧ MX5_daysUntil.1.cls ≠ "java/lang/invoke/VarHandle" ∧ (parseMethodDescriptor MX5_daysUntil.1.desc).map (fun d => d.parameters.length) = some 3 := by decide +kernel
theorem stX5_daysUntil : Cond.static MX5_daysUntil.1 ∈ gg_W := gg_at 657 (by decide +kernel)
theorem dsX5_seasThatDo : MX5_seasThatDo.1.cls ≠ "java/lang/invoke/MethodHandle" ∧ MX5_seasThatDo.1.cls ≠ "java/lang/invoke/VarHandle" ∧ (parseMethodDescriptor MX5_seasThatDo.1.desc).map (fun d => d.parameters.length) = some 3 := by decide +kernel
theorem stX5_seasThatDo : Cond.static MX5_seasThatDo.1 ∈ gg_W := gg_at 664 (by decide +kernel)
theorem dsX5_caughtInAllSeas : MX5_caughtInAllSeas.1.cls ≠ "java/lang/invoke/MethodHandle" ∧ MX5_caughtInAllSeas.1.cls ≠ "java/lang/invoke/VarHandle" ∧ (parseMethodDescriptor MX5_caughtInAllSeas.1.desc).map (fun d => d.parameters.length) = some 2 := by decide +kernel
theorem stX5_caughtInAllSeas : Cond.static MX5_caughtInAllSeas.1 ∈ gg_W := gg_at 674 (by decide +kernel)
theorem dsX5_seasThatFit : MX5_seasThatFit.1.cls ≠ "java/lang/invoke/MethodHandle" ∧ MX5_seasThatFit.1.cls ≠ "java/lang/invoke/VarHandle" ∧ (parseMethodDescriptor MX5_seasThatFit.1.desc).map (fun d => d.parameters.length) = some 2 := by decide +kernel
theorem stX5_seasThatFit : Cond.static MX5_seasThatFit.1 ∈ gg_W := gg_at 688 (by decide +kernel)
theorem dsX5_isSoBy : MX5_isSoBy.1.cls ≠ "java/lang/invoke/MethodHandle" ∧ MX5_isSoBy.1.cls ≠ "java/lang/invoke/VarHandle" ∧ (parseMethodDescriptor MX5_isSoBy.1.desc).map (fun d => d.parameters.length) = some 3 := by decide +kernel
theorem stX5_isSoBy : Cond.static MX5_isSoBy.1 ∈ gg_W := gg_at 691 (by decide +kernel)
theorem dsX5_partOfTenths : MX5_partOfTenths.1.cls ≠ "java/lang/invoke/MethodHandle" ∧ MX5_partOfTenths.1.cls ≠ "java/lang/invoke/VarHandle" ∧ (parseMethodDescriptor MX5_partOfTenths.1.desc).map (fun d => d.parameters.length) = some 2 := by decide +kernel
theorem stX5_partOfTenths : Cond.static MX5_partOfTenths.1 ∈ gg_W := gg_at 667 (by decide +kernel)
theorem dsX6_init : MX6_init.1.cls ≠ "java/lang/invoke/MethodHandle" ∧ MX6_init.1.cls ≠ "java/lang/invoke/VarHandle" ∧ (parseMethodDescriptor MX6_init.1.desc).map (fun d => d.parameters.length) = some 0 := by decide +kernel
theorem dsX6_hear : MX6_hear.1.cls ≠ "java/lang/invoke/MethodHandle" ∧ MX6_hear.1.cls ≠ "java/lang/invoke/VarHandle" ∧ (parseMethodDescriptor MX6_hear.1.desc).map (fun d => d.parameters.length) = some 4 := by decide +kernel
theorem viX6_hear : Cond.instanceMethod MX6_hear.1 ∈ gg_W := gg_at 703 (by decide +kernel)
theorem vsX6_hear : Cond.selects MX6_hear.1.cls MX6_hear.1 MX6_hear.1 ∈ gg_W := gg_at 26 (by decide +kernel)
theorem dsX6_speak : MX6_speak.1.cls ≠ "java/lang/invoke/MethodHandle" ∧ MX6_speak.1.cls ≠ "java/lang/invoke/VarHandle" ∧ (parseMethodDescriptor MX6_speak.1.desc).map (fun d => d.parameters.length) = some 4 := by decide +kernel
theorem viX6_speak : Cond.instanceMethod MX6_speak.1 ∈ gg_W := gg_at 707 (by decide +kernel)
theorem vsX6_speak : Cond.selects MX6_speak.1.cls MX6_speak.1 MX6_speak.1 ∈ gg_W := gg_at 27 (by decide +kernel)
theorem dsX6_say : MX6_say.1.cls ≠ "java/lang/invoke/MethodHandle" ∧ MX6_say.1.cls ≠ "java/lang/invoke/VarHandle" ∧ (parseMethodDescriptor MX6_say.1.desc).map (fun d => d.parameters.length) = some 4 := by decide +kernel
theorem viX6_say : Cond.instanceMethod MX6_say.1 ∈ gg_W := gg_at 714 (by decide +kernel)
theorem vsX6_say : Cond.selects MX6_say.1.cls MX6_say.1 MX6_say.1 ∈ gg_W := gg_at 28 (by decide +kernel)
theorem dsX6_part : MX6_part.1.cls ≠ "java/lang/invoke/MethodHandle" ∧ MX6_part.1.cls ≠ "java/lang/invoke/VarHandle" ∧ (parseMethodDescriptor MX6_part.1.desc).map (fun d => d.parameters.length) = some 1 := by decide +kernel
theorem viX6_part : Cond.instanceMethod MX6_part.1 ∈ gg_W := gg_at 718 (by decide +kernel)
theorem vsX6_part : Cond.selects MX6_part.1.cls MX6_part.1 MX6_part.1 ∈ gg_W := gg_at 29 (by decide +kernel)
theorem dsX7_init : MX7_init.1.cls ≠ "java/lang/invoke/MethodHandle" ∧ MX7_init.1.cls ≠ "java/lang/invoke/VarHandle" ∧ (parseMethodDescriptor MX7_init.1.desc).map (fun d => d.parameters.length) = some 0 := by decide +kernel
theorem dsX7_boat : MX7_boat.1.cls ≠ "java/lang/invoke/MethodHandle" ∧ MX7_boat.1.cls ≠ "java/lang/invoke/VarHandle" ∧ (parseMethodDescriptor MX7_boat.1.desc).map (fun d => d.parameters.length) = some 1 := by decide +kernel
theorem viX7_boat : Cond.instanceMethod MX7_boat.1 ∈ gg_W := gg_at 328 (by decide +kernel)
theorem vsX7_boat : Cond.selects MX7_boat.1.cls MX7_boat.1 MX7_boat.1 ∈ gg_W := gg_at 329 (by decide +kernel)
theorem dsX7_boatIs : MX7_boatIs.1.cls ≠ "java/lang/invoke/MethodHandle" ∧ MX7_boatIs.1.cls ≠ "java/lang/invoke/VarHandle" ∧ (parseMethodDescriptor MX7_boatIs.1.desc).map (fun d => d.parameters.length) = some 2 := by decide +kernel
theorem viX7_boatIs : Cond.instanceMethod MX7_boatIs.1 ∈ gg_W := gg_at 346 (by decide +kernel)
theorem vsX7_boatIs : Cond.selects MX7_boatIs.1.cls MX7_boatIs.1 MX7_boatIs.1 ∈ gg_W := gg_at 347 (by decide +kernel)
theorem dsX7_become : MX7_become.1.cls ≠ "java/lang/invoke/MethodHandle" ∧ MX7_become.1.cls ≠ "java/lang/invoke/VarHandle" ∧ (parseMethodDescriptor MX7_become.1.desc).map (fun d => d.parameters.length) = some 2 := by decide +kernel
theorem viX7_become : Cond.instanceMethod MX7_become.1 ∈ gg_W := gg_at 385 (by decide +kernel)
theorem vsX7_become : Cond.selects MX7_become.1.cls MX7_become.1 MX7_become.1 ∈ gg_W := gg_at 386 (by decide +kernel)
theorem dsX7_as : MX7_as.1.cls ≠ "java/lang/invoke/MethodHandle" ∧ MX7_as.1.cls ≠ "java/lang/invoke/VarHandle" ∧ (parseMethodDescriptor MX7_as.1.desc).map (fun d => d.parameters.length) = some 2 := by decide +kernel
theorem viX7_as : Cond.instanceMethod MX7_as.1 ∈ gg_W := gg_at 389 (by decide +kernel)
theorem vsX7_as : Cond.selects MX7_as.1.cls MX7_as.1 MX7_as.1 ∈ gg_W := gg_at 390 (by decide +kernel)
theorem dsX7_lose : MX7_lose.1.cls ≠ "java/lang/invoke/MethodHandle" ∧ MX7_lose.1.cls ≠ "java/lang/invoke/VarHandle" ∧ (parseMethodDescriptor MX7_lose.1.desc).map (fun d => d.parameters.length) = some 2 := by decide +kernel
theorem viX7_lose : Cond.instanceMethod MX7_lose.1 ∈ gg_W := gg_at 400 (by decide +kernel)
theorem vsX7_lose : Cond.selects MX7_lose.1.cls MX7_lose.1 MX7_lose.1 ∈ gg_W := gg_at 401 (by decide +kernel)
theorem dsX7_rises : MX7_rises.1.cls ≠ "java/lang/invoke/MethodHandle" ∧ MX7_rises.1.cls ≠ "java/lang/invoke/VarHandle" ∧ (parseMethodDescriptor MX7_rises.1.desc).map (fun d => d.parameters.length) = some 1 := by decide +kernel
theorem viX7_rises : Cond.instanceMethod MX7_rises.1 ∈ gg_W := gg_at 404 (by decide +kernel)
theorem vsX7_rises : Cond.selects MX7_rises.1.cls MX7_rises.1 MX7_rises.1 ∈ gg_W := gg_at 405 (by decide +kernel)
theorem dsX7_price : MX7_price.1.cls ≠ "java/lang/invoke/MethodHandle" ∧ MX7_price.1.cls ≠ "java/lang/invoke/VarHandle" ∧ (parseMethodDescriptor MX7_price.1.desc).map (fun d => d.parameters.length) = some 2 := by decide +kernel
theorem viX7_price : Cond.instanceMethod MX7_price.1 ∈ gg_W := gg_at 408 (by decide +kernel)
theorem vsX7_price : Cond.selects MX7_price.1.cls MX7_price.1 MX7_price.1 ∈ gg_W := gg_at 409 (by decide +kernel)
theorem dsX7_sell : MX7_sell.1.cls ≠ "java/lang/invoke/MethodHandle" ∧ MX7_sell.1.cls ≠ "java/lang/invoke/VarHandle" ∧ (parseMethodDescriptor MX7_sell.1.desc).map (fun d => d.parameters.length) = some 2 := by decide +kernel
theorem viX7_sell : Cond.instanceMethod MX7_sell.1 ∈ gg_W := gg_at 415 (by decide +kernel)
theorem vsX7_sell : Cond.selects MX7_sell.1.cls MX7_sell.1 MX7_sell.1 ∈ gg_W := gg_at 416 (by decide +kernel)
theorem dsX7_feed : MX7_feed.1.cls ≠ "java/lang/invoke/MethodHandle" ∧ MX7_feed.1.cls ≠ "java/lang/invoke/VarHandle" ∧ (parseMethodDescriptor MX7_feed.1.desc).map (fun d => d.parameters.length) = some 2 := by decide +kernel
theorem viX7_feed : Cond.instanceMethod MX7_feed.1 ∈ gg_W := gg_at 430 (by decide +kernel)
theorem vsX7_feed : Cond.selects MX7_feed.1.cls MX7_feed.1 MX7_feed.1 ∈ gg_W := gg_at 431 (by decide +kernel)
theorem dsX7_text : MX7_text.1.cls ≠ "java/lang/invoke/MethodHandle" ∧ MX7_text.1.cls ≠ "java/lang/invoke/VarHandle" ∧ (parseMethodDescriptor MX7_text.1.desc).map (fun d => d.parameters.length) = some 1 := by decide +kernel
theorem viX7_text : Cond.instanceMethod MX7_text.1 ∈ gg_W := gg_at 434 (by decide +kernel)
theorem vsX7_text : Cond.selects MX7_text.1.cls MX7_text.1 MX7_text.1 ∈ gg_W := gg_at 435 (by decide +kernel)
theorem dsX7_untell : MX7_untell.1.cls ≠ "java/lang/invoke/MethodHandle" ∧ MX7_untell.1.cls ≠ "java/lang/invoke/VarHandle" ∧ (parseMethodDescriptor MX7_untell.1.desc).map (fun d => d.parameters.length) = some 1 := by decide +kernel
theorem viX7_untell : Cond.instanceMethod MX7_untell.1 ∈ gg_W := gg_at 544 (by decide +kernel)
theorem vsX7_untell : Cond.selects MX7_untell.1.cls MX7_untell.1 MX7_untell.1 ∈ gg_W := gg_at 545 (by decide +kernel)
theorem dsX7_law : MX7_law.1.cls ≠ "java/lang/invoke/MethodHandle" ∧ MX7_law.1.cls ≠ "java/lang/invoke/VarHandle" ∧ (parseMethodDescriptor MX7_law.1.desc).map (fun d => d.parameters.length) = some 4 := by decide +kernel
theorem viX7_law : Cond.instanceMethod MX7_law.1 ∈ gg_W := gg_at 548 (by decide +kernel)
theorem vsX7_law : Cond.selects MX7_law.1.cls MX7_law.1 MX7_law.1 ∈ gg_W := gg_at 549 (by decide +kernel)
theorem dsX7_tally : MX7_tally.1.cls ≠ "java/lang/invoke/MethodHandle" ∧ MX7_tally.1.cls ≠ "java/lang/invoke/VarHandle" ∧ (parseMethodDescriptor MX7_tally.1.desc).map (fun d => d.parameters.length) = some 0 := by decide +kernel
theorem viX7_tally : Cond.instanceMethod MX7_tally.1 ∈ gg_W := gg_at 553 (by decide +kernel)
theorem vsX7_tally : Cond.selects MX7_tally.1.cls MX7_tally.1 MX7_tally.1 ∈ gg_W := gg_at 554 (by decide +kernel)
theorem dsX7_loose : MX7_loose.1.cls ≠ "java/lang/invoke/MethodHandle" ∧ MX7_loose.1.cls ≠ "java/lang/invoke/VarHandle" ∧ (parseMethodDescriptor MX7_loose.1.desc).map (fun d => d.parameters.length) = some 1 := by decide +kernel
theorem viX7_loose : Cond.instanceMethod MX7_loose.1 ∈ gg_W := gg_at 570 (by decide +kernel)
theorem vsX7_loose : Cond.selects MX7_loose.1.cls MX7_loose.1 MX7_loose.1 ∈ gg_W := gg_at 571 (by decide +kernel)
theorem dsX7_seed : MX7_seed.1.cls ≠ "java/lang/invoke/MethodHandle" ∧ MX7_seed.1.cls ≠ "java/lang/invoke/VarHandle" ∧ (parseMethodDescriptor MX7_seed.1.desc).map (fun d => d.parameters.length) = some 1 := by decide +kernel
theorem viX7_seed : Cond.instanceMethod MX7_seed.1 ∈ gg_W := gg_at 585 (by decide +kernel)
theorem vsX7_seed : Cond.selects MX7_seed.1.cls MX7_seed.1 MX7_seed.1 ∈ gg_W := gg_at 586 (by decide +kernel)
theorem dsX7_catches : MX7_catches.1.cls ≠ "java/lang/invoke/MethodHandle" ∧ MX7_catches.1.cls ≠ "java/lang/invoke/VarHandle" ∧ (parseMethodDescriptor MX7_catches.1.desc).map (fun d => d.parameters.length) = some 1 := by decide +kernel
theorem viX7_catches : Cond.instanceMethod MX7_catches.1 ∈ gg_W := gg_at 589 (by decide +kernel)
theorem vsX7_catches : Cond.selects MX7_catches.1.cls MX7_catches.1 MX7_catches.1 ∈ gg_W := gg_at 590 (by decide +kernel)
theorem dsX7_safe : MX7_safe.1.cls ≠ "java/lang/invoke/MethodHandle" ∧ MX7_safe.1.cls ≠ "java/lang/invoke/VarHandle" ∧ (parseMethodDescriptor MX7_safe.1.desc).map (fun d => d.parameters.length) = some 1 := by decide +kernel
theorem viX7_safe : Cond.instanceMethod MX7_safe.1 ∈ gg_W := gg_at 597 (by decide +kernel)
theorem vsX7_safe : Cond.selects MX7_safe.1.cls MX7_safe.1 MX7_safe.1 ∈ gg_W := gg_at 598 (by decide +kernel)
theorem dsX7_best : MX7_best.1.cls ≠ "java/lang/invoke/MethodHandle" ∧ MX7_best.1.cls ≠ "java/lang/invoke/VarHandle" ∧ (parseMethodDescriptor MX7_best.1.desc).map (fun d => d.parameters.length) = some 2 := by decide +kernel
theorem viX7_best : Cond.instanceMethod MX7_best.1 ∈ gg_W := gg_at 608 (by decide +kernel)
theorem vsX7_best : Cond.selects MX7_best.1.cls MX7_best.1 MX7_best.1 ∈ gg_W := gg_at 609 (by decide +kernel)
theorem dsX7_agrees : MX7_agrees.1.cls ≠ "java/lang/invoke/MethodHandle" ∧ MX7_agrees.1.cls ≠ "java/lang/invoke/VarHandle" ∧ (parseMethodDescriptor MX7_agrees.1.desc).map (fun d => d.parameters.length) = some 2 := by decide +kernel
theorem viX7_agrees : Cond.instanceMethod MX7_agrees.1 ∈ gg_W := gg_at 621 (by decide +kernel)
theorem vsX7_agrees : Cond.selects MX7_agrees.1.cls MX7_agrees.1 MX7_agrees.1 ∈ gg_W := gg_at 622 (by decide +kernel)
theorem dsX7_needs : MX7_needs.1.cls ≠ "java/lang/invoke/MethodHandle" ∧ MX7_needs.1.cls ≠ "java/lang/invoke/VarHandle" ∧ (parseMethodDescriptor MX7_needs.1.desc).map (fun d => d.parameters.length) = some 1 := by decide +kernel
theorem viX7_needs : Cond.instanceMethod MX7_needs.1 ∈ gg_W := gg_at 635 (by decide +kernel)
theorem vsX7_needs : Cond.selects MX7_needs.1.cls MX7_needs.1 MX7_needs.1 ∈ gg_W := gg_at 636 (by decide +kernel)
theorem dsX7_soonest : MX7_soonest.1.cls ≠ "java/lang/invoke/MethodHandle" ∧ MX7_soonest.1.cls ≠ "java/lang/invoke/VarHandle" ∧ (parseMethodDescriptor MX7_soonest.1.desc).map (fun d => d.parameters.length) = some 2 := by decide +kernel
theorem viX7_soonest : Cond.instanceMethod MX7_soonest.1 ∈ gg_W := gg_at 653 (by decide +kernel)
theorem vsX7_soonest : Cond.selects MX7_soonest.1.cls MX7_soonest.1 MX7_soonest.1 ∈ gg_W := gg_at 654 (by decide +kernel)
theorem dsX7_odds : MX7_odds.1.cls ≠ "java/lang/invoke/MethodHandle" ∧ MX7_odds.1.cls ≠ "java/lang/invoke/VarHandle" ∧ (parseMethodDescriptor MX7_odds.1.desc).map (fun d => d.parameters.length) = some 3 := by decide +kernel
theorem viX7_odds : Cond.instanceMethod MX7_odds.1 ∈ gg_W := gg_at 660 (by decide +kernel)
theorem vsX7_odds : Cond.selects MX7_odds.1.cls MX7_odds.1 MX7_odds.1 ∈ gg_W := gg_at 661 (by decide +kernel)
theorem dsX7_mean : MX7_mean.1.cls ≠ "java/lang/invoke/MethodHandle" ∧ MX7_mean.1.cls ≠ "java/lang/invoke/VarHandle" ∧ (parseMethodDescriptor MX7_mean.1.desc).map (fun d => d.parameters.length) = some 2 := by decide +kernel
theorem viX7_mean : Cond.instanceMethod MX7_mean.1 ∈ gg_W := gg_at 670 (by decide +kernel)
theorem vsX7_mean : Cond.selects MX7_mean.1.cls MX7_mean.1 MX7_mean.1 ∈ gg_W := gg_at 671 (by decide +kernel)
theorem dsX7_fits : MX7_fits.1.cls ≠ "java/lang/invoke/MethodHandle" ∧ MX7_fits.1.cls ≠ "java/lang/invoke/VarHandle" ∧ (parseMethodDescriptor MX7_fits.1.desc).map (fun d => d.parameters.length) = some 2 := by decide +kernel
theorem viX7_fits : Cond.instanceMethod MX7_fits.1 ∈ gg_W := gg_at 677 (by decide +kernel)
theorem vsX7_fits : Cond.selects MX7_fits.1.cls MX7_fits.1 MX7_fits.1 ∈ gg_W := gg_at 678 (by decide +kernel)
theorem dsX7_voice : MX7_voice.1.cls ≠ "java/lang/invoke/MethodHandle" ∧ MX7_voice.1.cls ≠ "java/lang/invoke/VarHandle" ∧ (parseMethodDescriptor MX7_voice.1.desc).map (fun d => d.parameters.length) = some 3 := by decide +kernel
theorem viX7_voice : Cond.instanceMethod MX7_voice.1 ∈ gg_W := gg_at 698 (by decide +kernel)
theorem vsX7_voice : Cond.selects MX7_voice.1.cls MX7_voice.1 MX7_voice.1 ∈ gg_W := gg_at 699 (by decide +kernel)
theorem dsX7_body : MX7_body.1.cls ≠ "java/lang/invoke/MethodHandle" ∧ MX7_body.1.cls ≠ "java/lang/invoke/VarHandle" ∧ (parseMethodDescriptor MX7_body.1.desc).map (fun d => d.parameters.length) = some 1 := by decide +kernel
theorem viX7_body : Cond.instanceMethod MX7_body.1 ∈ gg_W := gg_at 722 (by decide +kernel)
theorem vsX7_body : Cond.selects MX7_body.1.cls MX7_body.1 MX7_body.1 ∈ gg_W := gg_at 723 (by decide +kernel)
theorem dsX7_sheet : MX7_sheet.1.cls ≠ "java/lang/invoke/MethodHandle" ∧ MX7_sheet.1.cls ≠ "java/lang/invoke/VarHandle" ∧ (parseMethodDescriptor MX7_sheet.1.desc).map (fun d => d.parameters.length) = some 3 := by decide +kernel
theorem viX7_sheet : Cond.instanceMethod MX7_sheet.1 ∈ gg_W := gg_at 726 (by decide +kernel)
theorem vsX7_sheet : Cond.selects MX7_sheet.1.cls MX7_sheet.1 MX7_sheet.1 ∈ gg_W := gg_at 727 (by decide +kernel)
theorem dsX7_put : MX7_put.1.cls ≠ "java/lang/invoke/MethodHandle" ∧ MX7_put.1.cls ≠ "java/lang/invoke/VarHandle" ∧ (parseMethodDescriptor MX7_put.1.desc).map (fun d => d.parameters.length) = some 3 := by decide +kernel
theorem viX7_put : Cond.instanceMethod MX7_put.1 ∈ gg_W := gg_at 735 (by decide +kernel)
theorem vsX7_put : Cond.selects MX7_put.1.cls MX7_put.1 MX7_put.1 ∈ gg_W := gg_at 736 (by decide +kernel)
theorem dsX7_move : MX7_move.1.cls ≠ "java/lang/invoke/MethodHandle" ∧ MX7_move.1.cls ≠ "java/lang/invoke/VarHandle" ∧ (parseMethodDescriptor MX7_move.1.desc).map (fun d => d.parameters.length) = some 5 := by decide +kernel
theorem viX7_move : Cond.instanceMethod MX7_move.1 ∈ gg_W := gg_at 744 (by decide +kernel)
theorem vsX7_move : Cond.selects MX7_move.1.cls MX7_move.1 MX7_move.1 ∈ gg_W := gg_at 745 (by decide +kernel)
theorem dsX7_prices : MX7_prices.1.cls ≠ "java/lang/invoke/MethodHandle" ∧ MX7_prices.1.cls ≠ "java/lang/invoke/VarHandle" ∧ (parseMethodDescriptor MX7_prices.1.desc).map (fun d => d.parameters.length) = some 1 := by decide +kernel
theorem viX7_prices : Cond.instanceMethod MX7_prices.1 ∈ gg_W := gg_at 753 (by decide +kernel)
theorem vsX7_prices : Cond.selects MX7_prices.1.cls MX7_prices.1 MX7_prices.1 ∈ gg_W := gg_at 754 (by decide +kernel)
theorem dsX7_judge : MX7_judge.1.cls ≠ "java/lang/invoke/MethodHandle" ∧ MX7_judge.1.cls ≠ "java/lang/invoke/VarHandle" ∧ (parseMethodDescriptor MX7_judge.1.desc).map (fun d => d.parameters.length) = some 1 := by decide +kernel
theorem viX7_judge : Cond.instanceMethod MX7_judge.1 ∈ gg_W := gg_at 757 (by decide +kernel)
theorem vsX7_judge : Cond.selects MX7_judge.1.cls MX7_judge.1 MX7_judge.1 ∈ gg_W := gg_at 758 (by decide +kernel)
theorem dsX7_image : MX7_image.1.cls ≠ "java/lang/invoke/MethodHandle" ∧ MX7_image.1.cls ≠ "java/lang/invoke/VarHandle" ∧ (parseMethodDescriptor MX7_image.1.desc).map (fun d => d.parameters.length) = some 0 := by decide +kernel
theorem viX7_image : Cond.instanceMethod MX7_image.1 ∈ gg_W := gg_at 761 (by decide +kernel)
theorem vsX7_image : Cond.selects MX7_image.1.cls MX7_image.1 MX7_image.1 ∈ gg_W := gg_at 762 (by decide +kernel)
theorem dsX7_restore : MX7_restore.1.cls ≠ "java/lang/invoke/MethodHandle" ∧ MX7_restore.1.cls ≠ "java/lang/invoke/VarHandle" ∧ (parseMethodDescriptor MX7_restore.1.desc).map (fun d => d.parameters.length) = some 0 := by decide +kernel
theorem viX7_restore : Cond.instanceMethod MX7_restore.1 ∈ gg_W := gg_at 779 (by decide +kernel)
theorem vsX7_restore : Cond.selects MX7_restore.1.cls MX7_restore.1 MX7_restore.1 ∈ gg_W := gg_at 780 (by decide +kernel)
theorem dsX7_tell : MX7_tell.1.cls ≠ "java/lang/invoke/MethodHandle" ∧ MX7_tell.1.cls ≠ "java/lang/invoke/VarHandle" ∧ (parseMethodDescriptor MX7_tell.1.desc).map (fun d => d.parameters.length) = some 1 := by decide +kernel
theorem viX7_tell : Cond.instanceMethod MX7_tell.1 ∈ gg_W := gg_at 783 (by decide +kernel)
theorem vsX7_tell : Cond.selects MX7_tell.1.cls MX7_tell.1 MX7_tell.1 ∈ gg_W := gg_at 784 (by decide +kernel)
theorem dsX7_check : MX7_check.1.cls ≠ "java/lang/invoke/MethodHandle" ∧ MX7_check.1.cls ≠ "java/lang/invoke/VarHandle" ∧ (parseMethodDescriptor MX7_check.1.desc).map (fun d => d.parameters.length) = some 0 := by decide +kernel
theorem viX7_check : Cond.instanceMethod MX7_check.1 ∈ gg_W := gg_at 787 (by decide +kernel)
theorem vsX7_check : Cond.selects MX7_check.1.cls MX7_check.1 MX7_check.1 ∈ gg_W := gg_at 788 (by decide +kernel)
theorem dsX7_count : MX7_count.1.cls ≠ "java/lang/invoke/MethodHandle" ∧ MX7_count.1.cls ≠ "java/lang/invoke/VarHandle" ∧ (parseMethodDescriptor MX7_count.1.desc).map (fun d => d.parameters.length) = some 1 := by decide +kernel
theorem viX7_count : Cond.instanceMethod MX7_count.1 ∈ gg_W := gg_at 791 (by decide +kernel)
theorem vsX7_count : Cond.selects MX7_count.1.cls MX7_count.1 MX7_count.1 ∈ gg_W := gg_at 792 (by decide +kernel)
theorem dsX7_told : MX7_told.1.cls ≠ "java/lang/invoke/MethodHandle" ∧ MX7_told.1.cls ≠ "java/lang/invoke/VarHandle" ∧ (parseMethodDescriptor MX7_told.1.desc).map (fun d => d.parameters.length) = some 1 := by decide +kernel
theorem viX7_told : Cond.instanceMethod MX7_told.1 ∈ gg_W := gg_at 795 (by decide +kernel)
theorem vsX7_told : Cond.selects MX7_told.1.cls MX7_told.1 MX7_told.1 ∈ gg_W := gg_at 796 (by decide +kernel)
theorem dsX7_refuse : MX7_refuse.1.cls ≠ "java/lang/invoke/MethodHandle" ∧ MX7_refuse.1.cls ≠ "java/lang/invoke/VarHandle" ∧ (parseMethodDescriptor MX7_refuse.1.desc).map (fun d => d.parameters.length) = some 1 := by decide +kernel
theorem viX7_refuse : Cond.instanceMethod MX7_refuse.1 ∈ gg_W := gg_at 337 (by decide +kernel)
theorem vsX7_refuse : Cond.selects MX7_refuse.1.cls MX7_refuse.1 MX7_refuse.1 ∈ gg_W := gg_at 0 (by decide +kernel)
theorem dsX7_isWithin : MX7_isWithin.1.cls ≠ "java/lang/invoke/MethodHandle" ∧ MX7_isWithin.1.cls ≠ "java/lang/invoke/VarHandle" ∧ (parseMethodDescriptor MX7_isWithin.1.desc).map (fun d => d.parameters.length) = some 2 := by decide +kernel
theorem stX7_isWithin : Cond.static MX7_isWithin.1 ∈ gg_W := gg_at 354 (by decide +kernel)
theorem dsX7_isFish : MX7_isFish.1.cls ≠ "java/lang/invoke/MethodHandle" ∧ MX7_isFish.1.cls ≠ "java/lang/invoke/VarHandle" ∧ (parseMethodDescriptor MX7_isFish.1.desc).map (fun d => d.parameters.length) = some 1 := by decide +kernel
theorem stX7_isFish : Cond.static MX7_isFish.1 ∈ gg_W := gg_at 412 (by decide +kernel)
theorem dsX7_isUse : MX7_isUse.1.cls ≠ "java/lang/invoke/MethodHandle" ∧ MX7_isUse.1.cls ≠ "java/lang/invoke/VarHandle" ∧ (parseMethodDescriptor MX7_isUse.1.desc).map (fun d => d.parameters.length) = some 1 := by decide +kernel
theorem stX7_isUse : Cond.static MX7_isUse.1 ∈ gg_W := gg_at 438 (by decide +kernel)
theorem dsX7_isSheet : MX7_isSheet.1.cls ≠ "java/lang/invoke/MethodHandle" ∧ MX7_isSheet.1.cls ≠ "java/lang/invoke/VarHandle" ∧ (parseMethodDescriptor MX7_isSheet.1.desc).map (fun d => d.parameters.length) = some 1 := by decide +kernel
theorem stX7_isSheet : Cond.static MX7_isSheet.1 ∈ gg_W := gg_at 681 (by decide +kernel)
theorem dsX7_isKindWithNumber : MX7_isKindWithNumber.1.cls ≠ "java/lang/invoke/MethodHandle" ∧ MX7_isKindWithNumber.1.cls ≠ "java/lang/invoke/VarHandle" ∧ (parseMethodDescriptor MX7_isKindWithNumber.1.desc).map (fun d => d.parameters.length) = some 1 := by decide +kernel
theorem stX7_isKindWithNumber : Cond.static MX7_isKindWithNumber.1 ∈ gg_W := gg_at 332 (by decide +kernel)
theorem dsX7_isBoat : MX7_isBoat.1.cls ≠ "java/lang/invoke/MethodHandle" ∧ MX7_isBoat.1.cls ≠ "java/lang/invoke/VarHandle" ∧ (parseMethodDescriptor MX7_isBoat.1.desc).map (fun d => d.parameters.length) = some 1 := by decide +kernel
theorem viX7_isBoat : Cond.instanceMethod MX7_isBoat.1 ∈ gg_W := gg_at 351 (by decide +kernel)
theorem vsX7_isBoat : Cond.selects MX7_isBoat.1.cls MX7_isBoat.1 MX7_isBoat.1 ∈ gg_W := gg_at 2 (by decide +kernel)
theorem dsX7_held : MX7_held.1.cls ≠ "java/lang/invoke/MethodHandle" ∧ MX7_held.1.cls ≠ "java/lang/invoke/VarHandle" ∧ (parseMethodDescriptor MX7_held.1.desc).map (fun d => d.parameters.length) = some 3 := by decide +kernel
theorem stX7_held : Cond.static MX7_held.1 ∈ gg_W := gg_at 373 (by decide +kernel)
theorem dsX8_init : MX8_init.1.cls ≠ "java/lang/invoke/MethodHandle" ∧ MX8_init.1.cls ≠ "java/lang/invoke/VarHandle" ∧ (parseMethodDescriptor MX8_init.1.desc).map (fun d => d.parameters.length) = some 0 := by decide +kernel
theorem dsX8_error : MX8_error.1.cls ≠ "java/lang/invoke/MethodHandle" ∧ MX8_error.1.cls ≠ "java/lang/invoke/VarHandle" ∧ (parseMethodDescriptor MX8_error.1.desc).map (fun d => d.parameters.length) = some 1 := by decide +kernel
theorem viX8_error : Cond.instanceMethod MX8_error.1 ∈ gg_W := gg_at 878 (by decide +kernel)
theorem vsX8_error : Cond.selects MX8_error.1.cls MX8_error.1 MX8_error.1 ∈ gg_W := gg_at 36 (by decide +kernel)
theorem dsX8_in : MX8_in.1.cls ≠ "java/lang/invoke/MethodHandle" ∧ MX8_in.1.cls ≠ "java/lang/invoke/VarHandle" ∧ (parseMethodDescriptor MX8_in.1.desc).map (fun d => d.parameters.length) = some 3 := by decide +kernel
theorem stX8_in : Cond.static MX8_in.1 ∈ gg_W := gg_at 873 (by decide +kernel)
theorem dsX8_held : MX8_held.1.cls ≠ "java/lang/invoke/MethodHandle" ∧ MX8_held.1.cls ≠ "java/lang/invoke/VarHandle" ∧ (parseMethodDescriptor MX8_held.1.desc).map (fun d => d.parameters.length) = some 3 := by decide +kernel
theorem stX8_held : Cond.static MX8_held.1 ∈ gg_W := gg_at 918 (by decide +kernel)
theorem dsX8_copyAll : MX8_copyAll.1.cls ≠ "java/lang/invoke/MethodHandle" ∧ MX8_copyAll.1.cls ≠ "java/lang/invoke/VarHandle" ∧ (parseMethodDescriptor MX8_copyAll.1.desc).map (fun d => d.parameters.length) = some 2 := by decide +kernel
theorem stX8_copyAll : Cond.static MX8_copyAll.1 ∈ gg_W := gg_at 1213 (by decide +kernel)
theorem dsX8_bits : MX8_bits.1.cls ≠ "java/lang/invoke/MethodHandle" ∧ MX8_bits.1.cls ≠ "java/lang/invoke/VarHandle" ∧ (parseMethodDescriptor MX8_bits.1.desc).map (fun d => d.parameters.length) = some 1 := by decide +kernel
theorem stX8_bits : Cond.static MX8_bits.1 ∈ gg_W := gg_at 1095 (by decide +kernel)
theorem dsX8_isBoat : MX8_isBoat.1.cls ≠ "java/lang/invoke/MethodHandle" ∧ MX8_isBoat.1.cls ≠ "java/lang/invoke/VarHandle" ∧ (parseMethodDescriptor MX8_isBoat.1.desc).map (fun d => d.parameters.length) = some 1 := by decide +kernel
theorem viX8_isBoat : Cond.instanceMethod MX8_isBoat.1 ∈ gg_W := gg_at 888 (by decide +kernel)
theorem vsX8_isBoat : Cond.selects MX8_isBoat.1.cls MX8_isBoat.1 MX8_isBoat.1 ∈ gg_W := gg_at 37 (by decide +kernel)
theorem dsX8_isFish : MX8_isFish.1.cls ≠ "java/lang/invoke/MethodHandle" ∧ MX8_isFish.1.cls ≠ "java/lang/invoke/VarHandle" ∧ (parseMethodDescriptor MX8_isFish.1.desc).map (fun d => d.parameters.length) = some 1 := by decide +kernel
theorem stX8_isFish : Cond.static MX8_isFish.1 ∈ gg_W := gg_at 946 (by decide +kernel)
theorem dsX8_becomes : MX8_becomes.1.cls ≠ "java/lang/invoke/MethodHandle" ∧ MX8_becomes.1.cls ≠ "java/lang/invoke/VarHandle" ∧ (parseMethodDescriptor MX8_becomes.1.desc).map (fun d => d.parameters.length) = some 2 := by decide +kernel
theorem viX8_becomes : Cond.instanceMethod MX8_becomes.1 ∈ gg_W := gg_at 926 (by decide +kernel)
theorem vsX8_becomes : Cond.selects MX8_becomes.1.cls MX8_becomes.1 MX8_becomes.1 ∈ gg_W := gg_at 44 (by decide +kernel)
theorem dsX8_of : MX8_of.1.cls ≠ "java/lang/invoke/MethodHandle" ∧ MX8_of.1.cls ≠ "java/lang/invoke/VarHandle" ∧ (parseMethodDescriptor MX8_of.1.desc).map (fun d => d.parameters.length) = some 2 := by decide +kernel
theorem viX8_of : Cond.instanceMethod MX8_of.1 ∈ gg_W := gg_at 892 (by decide +kernel)
theorem vsX8_of : Cond.selects MX8_of.1.cls MX8_of.1 MX8_of.1 ∈ gg_W := gg_at 38 (by decide +kernel)
theorem dsX8_haulsOf : MX8_haulsOf.1.cls ≠ "java/lang/invoke/MethodHandle" ∧ MX8_haulsOf.1.cls ≠ "java/lang/invoke/VarHandle" ∧ (parseMethodDescriptor MX8_haulsOf.1.desc).map (fun d => d.parameters.length) = some 2 := by decide +kernel
theorem viX8_haulsOf : Cond.instanceMethod MX8_haulsOf.1 ∈ gg_W := gg_at 904 (by decide +kernel)
theorem vsX8_haulsOf : Cond.selects MX8_haulsOf.1.cls MX8_haulsOf.1 MX8_haulsOf.1 ∈ gg_W := gg_at 41 (by decide +kernel)
theorem dsX8_eatsOf : MX8_eatsOf.1.cls ≠ "java/lang/invoke/MethodHandle" ∧ MX8_eatsOf.1.cls ≠ "java/lang/invoke/VarHandle" ∧ (parseMethodDescriptor MX8_eatsOf.1.desc).map (fun d => d.parameters.length) = some 1 := by decide +kernel
theorem viX8_eatsOf : Cond.instanceMethod MX8_eatsOf.1 ∈ gg_W := gg_at 896 (by decide +kernel)
theorem vsX8_eatsOf : Cond.selects MX8_eatsOf.1.cls MX8_eatsOf.1 MX8_eatsOf.1 ∈ gg_W := gg_at 39 (by decide +kernel)
theorem dsX8_landsOf : MX8_landsOf.1.cls ≠ "java/lang/invoke/MethodHandle" ∧ MX8_landsOf.1.cls ≠ "java/lang/invoke/VarHandle" ∧ (parseMethodDescriptor MX8_landsOf.1.desc).map (fun d => d.parameters.length) = some 3 := by decide +kernel
theorem viX8_landsOf : Cond.instanceMethod MX8_landsOf.1 ∈ gg_W := gg_at 900 (by decide +kernel)
theorem vsX8_landsOf : Cond.selects MX8_landsOf.1.cls MX8_landsOf.1 MX8_landsOf.1 ∈ gg_W := gg_at 40 (by decide +kernel)
theorem dsX8_catchBy : MX8_catchBy.1.cls ≠ "java/lang/invoke/MethodHandle" ∧ MX8_catchBy.1.cls ≠ "java/lang/invoke/VarHandle" ∧ (parseMethodDescriptor MX8_catchBy.1.desc).map (fun d => d.parameters.length) = some 2 := by decide +kernel
theorem viX8_catchBy : Cond.instanceMethod MX8_catchBy.1 ∈ gg_W := gg_at 1038 (by decide +kernel)
theorem vsX8_catchBy : Cond.selects MX8_catchBy.1.cls MX8_catchBy.1 MX8_catchBy.1 ∈ gg_W := gg_at 60 (by decide +kernel)
theorem dsX8_catchOf : MX8_catchOf.1.cls ≠ "java/lang/invoke/MethodHandle" ∧ MX8_catchOf.1.cls ≠ "java/lang/invoke/VarHandle" ∧ (parseMethodDescriptor MX8_catchOf.1.desc).map (fun d => d.parameters.length) = some 1 := by decide +kernel
theorem viX8_catchOf : Cond.instanceMethod MX8_catchOf.1 ∈ gg_W := gg_at 1067 (by decide +kernel)
theorem vsX8_catchOf : Cond.selects MX8_catchOf.1.cls MX8_catchOf.1 MX8_catchOf.1 ∈ gg_W := gg_at 64 (by decide +kernel)
theorem dsX8_shortBy : MX8_shortBy.1.cls ≠ "java/lang/invoke/MethodHandle" ∧ MX8_shortBy.1.cls ≠ "java/lang/invoke/VarHandle" ∧ (parseMethodDescriptor MX8_shortBy.1.desc).map (fun d => d.parameters.length) = some 2 := by decide +kernel
theorem viX8_shortBy : Cond.instanceMethod MX8_shortBy.1 ∈ gg_W := gg_at 1034 (by decide +kernel)
theorem vsX8_shortBy : Cond.selects MX8_shortBy.1.cls MX8_shortBy.1 MX8_shortBy.1 ∈ gg_W := gg_at 59 (by decide +kernel)
theorem dsX8_coinsFor : MX8_coinsFor.1.cls ≠ "java/lang/invoke/MethodHandle" ∧ MX8_coinsFor.1.cls ≠ "java/lang/invoke/VarHandle" ∧ (parseMethodDescriptor MX8_coinsFor.1.desc).map (fun d => d.parameters.length) = some 2 := by decide +kernel
theorem viX8_coinsFor : Cond.instanceMethod MX8_coinsFor.1 ∈ gg_W := gg_at 959 (by decide +kernel)
theorem vsX8_coinsFor : Cond.selects MX8_coinsFor.1.cls MX8_coinsFor.1 MX8_coinsFor.1 ∈ gg_W := gg_at 46 (by decide +kernel)
theorem dsX8_isKm : MX8_isKm.1.cls ≠ "java/lang/invoke/MethodHandle" ∧ MX8_isKm.1.cls ≠ "java/lang/invoke/VarHandle" ∧ (parseMethodDescriptor MX8_isKm.1.desc).map (fun d => d.parameters.length) = some 1 := by decide +kernel
theorem stX8_isKm : Cond.static MX8_isKm.1 ∈ gg_W := gg_at 870 (by decide +kernel)
theorem dsX8_boat : MX8_boat.1.cls ≠ "java/lang/invoke/MethodHandle" ∧ MX8_boat.1.cls ≠ "java/lang/invoke/VarHandle" ∧ (parseMethodDescriptor MX8_boat.1.desc).map (fun d => d.parameters.length) = some 1 := by decide +kernel
theorem viX8_boat : Cond.instanceMethod MX8_boat.1 ∈ gg_W := gg_at 866 (by decide +kernel)
theorem vsX8_boat : Cond.selects MX8_boat.1.cls MX8_boat.1 MX8_boat.1 ∈ gg_W := gg_at 867 (by decide +kernel)
theorem dsX8_boatIs : MX8_boatIs.1.cls ≠ "java/lang/invoke/MethodHandle" ∧ MX8_boatIs.1.cls ≠ "java/lang/invoke/VarHandle" ∧ (parseMethodDescriptor MX8_boatIs.1.desc).map (fun d => d.parameters.length) = some 2 := by decide +kernel
theorem viX8_boatIs : Cond.instanceMethod MX8_boatIs.1 ∈ gg_W := gg_at 883 (by decide +kernel)
theorem vsX8_boatIs : Cond.selects MX8_boatIs.1.cls MX8_boatIs.1 MX8_boatIs.1 ∈ gg_W := gg_at 884 (by decide +kernel)
theorem dsX8_become : MX8_become.1.cls ≠ "java/lang/invoke/MethodHandle" ∧ MX8_become.1.cls ≠ "java/lang/invoke/VarHandle" ∧ (parseMethodDescriptor MX8_become.1.desc).map (fun d => d.parameters.length) = some 2 := by decide +kernel
theorem viX8_become : Cond.instanceMethod MX8_become.1 ∈ gg_W := gg_at 921 (by decide +kernel)
theorem vsX8_become : Cond.selects MX8_become.1.cls MX8_become.1 MX8_become.1 ∈ gg_W := gg_at 922 (by decide +kernel)
theorem dsX8_as : MX8_as.1.cls ≠ "java/lang/invoke/MethodHandle" ∧ MX8_as.1.cls ≠ "java/lang/invoke/VarHandle" ∧ (parseMethodDescriptor MX8_as.1.desc).map (fun d => d.parameters.length) = some 2 := by decide +kernel
theorem viX8_as : Cond.instanceMethod MX8_as.1 ∈ gg_W := gg_at 929 (by decide +kernel)
theorem vsX8_as : Cond.selects MX8_as.1.cls MX8_as.1 MX8_as.1 ∈ gg_W := gg_at 930 (by decide +kernel)
theorem dsX8_lose : MX8_lose.1.cls ≠ "java/lang/invoke/MethodHandle" ∧ MX8_lose.1.cls ≠ "java/lang/invoke/VarHandle" ∧ (parseMethodDescriptor MX8_lose.1.desc).map (fun d => d.parameters.length) = some 2 := by decide +kernel
theorem viX8_lose : Cond.instanceMethod MX8_lose.1 ∈ gg_W := gg_at 934 (by decide +kernel)
theorem vsX8_lose : Cond.selects MX8_lose.1.cls MX8_lose.1 MX8_lose.1 ∈ gg_W := gg_at 935 (by decide +kernel)
theorem dsX8_rises : MX8_rises.1.cls ≠ "java/lang/invoke/MethodHandle" ∧ MX8_rises.1.cls ≠ "java/lang/invoke/VarHandle" ∧ (parseMethodDescriptor MX8_rises.1.desc).map (fun d => d.parameters.length) = some 1 := by decide +kernel
theorem viX8_rises : Cond.instanceMethod MX8_rises.1 ∈ gg_W := gg_at 938 (by decide +kernel)
theorem vsX8_rises : Cond.selects MX8_rises.1.cls MX8_rises.1 MX8_rises.1 ∈ gg_W := gg_at 939 (by decide +kernel)
theorem dsX8_price : MX8_price.1.cls ≠ "java/lang/invoke/MethodHandle" ∧ MX8_price.1.cls ≠ "java/lang/invoke/VarHandle" ∧ (parseMethodDescriptor MX8_price.1.desc).map (fun d => d.parameters.length) = some 2 := by decide +kernel
theorem viX8_price : Cond.instanceMethod MX8_price.1 ∈ gg_W := gg_at 942 (by decide +kernel)
theorem vsX8_price : Cond.selects MX8_price.1.cls MX8_price.1 MX8_price.1 ∈ gg_W := gg_at 943 (by decide +kernel)
theorem dsX8_sells : MX8_sells.1.cls ≠ "java/lang/invoke/MethodHandle" ∧ MX8_sells.1.cls ≠ "java/lang/invoke/VarHandle" ∧ (parseMethodDescriptor MX8_sells.1.desc).map (fun d => d.parameters.length) = some 2 := by decide +kernel
theorem viX8_sells : Cond.instanceMethod MX8_sells.1 ∈ gg_W := gg_at 955 (by decide +kernel)
theorem vsX8_sells : Cond.selects MX8_sells.1.cls MX8_sells.1 MX8_sells.1 ∈ gg_W := gg_at 45 (by decide +kernel)
theorem dsX8_sell : MX8_sell.1.cls ≠ "java/lang/invoke/MethodHandle" ∧ MX8_sell.1.cls ≠ "java/lang/invoke/VarHandle" ∧ (parseMethodDescriptor MX8_sell.1.desc).map (fun d => d.parameters.length) = some 2 := by decide +kernel
theorem viX8_sell : Cond.instanceMethod MX8_sell.1 ∈ gg_W := gg_at 949 (by decide +kernel)
theorem vsX8_sell : Cond.selects MX8_sell.1.cls MX8_sell.1 MX8_sell.1 ∈ gg_W := gg_at 950 (by decide +kernel)
theorem dsX8_feed : MX8_feed.1.cls ≠ "java/lang/invoke/MethodHandle" ∧ MX8_feed.1.cls ≠ "java/lang/invoke/VarHandle" ∧ (parseMethodDescriptor MX8_feed.1.desc).map (fun d => d.parameters.length) = some 2 := by decide +kernel
theorem viX8_feed : Cond.instanceMethod MX8_feed.1 ∈ gg_W := gg_at 964 (by decide +kernel)
theorem vsX8_feed : Cond.selects MX8_feed.1.cls MX8_feed.1 MX8_feed.1 ∈ gg_W := gg_at 965 (by decide +kernel)
theorem dsX8_look : MX8_look.1.cls ≠ "java/lang/invoke/MethodHandle" ∧ MX8_look.1.cls ≠ "java/lang/invoke/VarHandle" ∧ (parseMethodDescriptor MX8_look.1.desc).map (fun d => d.parameters.length) = some 0 := by decide +kernel
theorem viX8_look : Cond.instanceMethod MX8_look.1 ∈ gg_W := gg_at 998 (by decide +kernel)
theorem vsX8_look : Cond.selects MX8_look.1.cls MX8_look.1 MX8_look.1 ∈ gg_W := gg_at 53 (by decide +kernel)
theorem dsX8_lays : MX8_lays.1.cls ≠ "java/lang/invoke/MethodHandle" ∧ MX8_lays.1.cls ≠ "java/lang/invoke/VarHandle" ∧ (parseMethodDescriptor MX8_lays.1.desc).map (fun d => d.parameters.length) = some 2 := by decide +kernel
theorem viX8_lays : Cond.instanceMethod MX8_lays.1 ∈ gg_W := gg_at 1006 (by decide +kernel)
theorem vsX8_lays : Cond.selects MX8_lays.1.cls MX8_lays.1 MX8_lays.1 ∈ gg_W := gg_at 55 (by decide +kernel)
theorem dsX8_nameOf : MX8_nameOf.1.cls ≠ "java/lang/invoke/MethodHandle" ∧ MX8_nameOf.1.cls ≠ "java/lang/invoke/VarHandle" ∧ (parseMethodDescriptor MX8_nameOf.1.desc).map (fun d => d.parameters.length) = some 1 := by decide +kernel
theorem viX8_nameOf : Cond.instanceMethod MX8_nameOf.1 ∈ gg_W := gg_at 1002 (by decide +kernel)
theorem vsX8_nameOf : Cond.selects MX8_nameOf.1.cls MX8_nameOf.1 MX8_nameOf.1 ∈ gg_W := gg_at 54 (by decide +kernel)
theorem dsX8_number : MX8_number.1.cls ≠ "java/lang/invoke/MethodHandle" ∧ MX8_number.1.cls ≠ "java/lang/invoke/VarHandle" ∧ (parseMethodDescriptor MX8_number.1.desc).map (fun d => d.parameters.length) = some 0 := by decide +kernel
theorem viX8_number : Cond.instanceMethod MX8_number.1 ∈ gg_W := gg_at 1014 (by decide +kernel)
theorem vsX8_number : Cond.selects MX8_number.1.cls MX8_number.1 MX8_number.1 ∈ gg_W := gg_at 57 (by decide +kernel)
theorem dsX8_opens : MX8_opens.1.cls ≠ "java/lang/invoke/MethodHandle" ∧ MX8_opens.1.cls ≠ "java/lang/invoke/VarHandle" ∧ (parseMethodDescriptor MX8_opens.1.desc).map (fun d => d.parameters.length) = some 1 := by decide +kernel
theorem viX8_opens : Cond.instanceMethod MX8_opens.1 ∈ gg_W := gg_at 1010 (by decide +kernel)
theorem vsX8_opens : Cond.selects MX8_opens.1.cls MX8_opens.1 MX8_opens.1 ∈ gg_W := gg_at 56 (by decide +kernel)
theorem dsX8_one : MX8_one.1.cls ≠ "java/lang/invoke/MethodHandle" ∧ MX8_one.1.cls ≠ "java/lang/invoke/VarHandle" ∧ (parseMethodDescriptor MX8_one.1.desc).map (fun d => d.parameters.length) = some 0 := by decide +kernel
theorem viX8_one : Cond.instanceMethod MX8_one.1 ∈ gg_W := gg_at 994 (by decide +kernel)
theorem vsX8_one : Cond.selects MX8_one.1.cls MX8_one.1 MX8_one.1 ∈ gg_W := gg_at 52 (by decide +kernel)
theorem dsX8_times : MX8_times.1.cls ≠ "java/lang/invoke/MethodHandle" ∧ MX8_times.1.cls ≠ "java/lang/invoke/VarHandle" ∧ (parseMethodDescriptor MX8_times.1.desc).map (fun d => d.parameters.length) = some 0 := by decide +kernel
theorem viX8_times : Cond.instanceMethod MX8_times.1 ∈ gg_W := gg_at 990 (by decide +kernel)
theorem vsX8_times : Cond.selects MX8_times.1.cls MX8_times.1 MX8_times.1 ∈ gg_W := gg_at 51 (by decide +kernel)
theorem dsX8_sum : MX8_sum.1.cls ≠ "java/lang/invoke/MethodHandle" ∧ MX8_sum.1.cls ≠ "java/lang/invoke/VarHandle" ∧ (parseMethodDescriptor MX8_sum.1.desc).map (fun d => d.parameters.length) = some 0 := by decide +kernel
theorem viX8_sum : Cond.instanceMethod MX8_sum.1 ∈ gg_W := gg_at 986 (by decide +kernel)
theorem vsX8_sum : Cond.selects MX8_sum.1.cls MX8_sum.1 MX8_sum.1 ∈ gg_W := gg_at 50 (by decide +kernel)
theorem dsX8_compares : MX8_compares.1.cls ≠ "java/lang/invoke/MethodHandle" ∧ MX8_compares.1.cls ≠ "java/lang/invoke/VarHandle" ∧ (parseMethodDescriptor MX8_compares.1.desc).map (fun d => d.parameters.length) = some 0 := by decide +kernel
theorem viX8_compares : Cond.instanceMethod MX8_compares.1 ∈ gg_W := gg_at 982 (by decide +kernel)
theorem vsX8_compares : Cond.selects MX8_compares.1.cls MX8_compares.1 MX8_compares.1 ∈ gg_W := gg_at 49 (by decide +kernel)
theorem dsX8_all : MX8_all.1.cls ≠ "java/lang/invoke/MethodHandle" ∧ MX8_all.1.cls ≠ "java/lang/invoke/VarHandle" ∧ (parseMethodDescriptor MX8_all.1.desc).map (fun d => d.parameters.length) = some 0 := by decide +kernel
theorem viX8_all : Cond.instanceMethod MX8_all.1 ∈ gg_W := gg_at 978 (by decide +kernel)
theorem vsX8_all : Cond.selects MX8_all.1.cls MX8_all.1 MX8_all.1 ∈ gg_W := gg_at 48 (by decide +kernel)
theorem dsX8_any : MX8_any.1.cls ≠ "java/lang/invoke/MethodHandle" ∧ MX8_any.1.cls ≠ "java/lang/invoke/VarHandle" ∧ (parseMethodDescriptor MX8_any.1.desc).map (fun d => d.parameters.length) = some 0 := by decide +kernel
theorem viX8_any : Cond.instanceMethod MX8_any.1 ∈ gg_W := gg_at 974 (by decide +kernel)
theorem vsX8_any : Cond.selects MX8_any.1.cls MX8_any.1 MX8_any.1 ∈ gg_W := gg_at 47 (by decide +kernel)
theorem dsX8_text : MX8_text.1.cls ≠ "java/lang/invoke/MethodHandle" ∧ MX8_text.1.cls ≠ "java/lang/invoke/VarHandle" ∧ (parseMethodDescriptor MX8_text.1.desc).map (fun d => d.parameters.length) = some 1 := by decide +kernel
theorem viX8_text : Cond.instanceMethod MX8_text.1 ∈ gg_W := gg_at 969 (by decide +kernel)
theorem vsX8_text : Cond.selects MX8_text.1.cls MX8_text.1 MX8_text.1 ∈ gg_W := gg_at 970 (by decide +kernel)
theorem dsX8_untell : MX8_untell.1.cls ≠ "java/lang/invoke/MethodHandle" ∧ MX8_untell.1.cls ≠ "java/lang/invoke/VarHandle" ∧ (parseMethodDescriptor MX8_untell.1.desc).map (fun d => d.parameters.length) = some 1 := by decide +kernel
theorem viX8_untell : Cond.instanceMethod MX8_untell.1 ∈ gg_W := gg_at 1017 (by decide +kernel)
theorem vsX8_untell : Cond.selects MX8_untell.1.cls MX8_untell.1 MX8_untell.1 ∈ gg_W := gg_at 1018 (by decide +kernel)
theorem dsX8_twoOf : MX8_twoOf.1.cls ≠ "java/lang/invoke/MethodHandle" ∧ MX8_twoOf.1.cls ≠ "java/lang/invoke/VarHandle" ∧ (parseMethodDescriptor MX8_twoOf.1.desc).map (fun d => d.parameters.length) = some 3 := by decide +kernel
theorem stX8_twoOf : Cond.static MX8_twoOf.1 ∈ gg_W := gg_at 915 (by decide +kernel)
theorem dsX8_works : MX8_works.1.cls ≠ "java/lang/invoke/MethodHandle" ∧ MX8_works.1.cls ≠ "java/lang/invoke/VarHandle" ∧ (parseMethodDescriptor MX8_works.1.desc).map (fun d => d.parameters.length) = some 1 := by decide +kernel
theorem viX8_works : Cond.instanceMethod MX8_works.1 ∈ gg_W := gg_at 912 (by decide +kernel)
theorem vsX8_works : Cond.selects MX8_works.1.cls MX8_works.1 MX8_works.1 ∈ gg_W := gg_at 43 (by decide +kernel)
theorem dsX8_gives : MX8_gives.1.cls ≠ "java/lang/invoke/MethodHandle" ∧ MX8_gives.1.cls ≠ "java/lang/invoke/VarHandle" ∧ (parseMethodDescriptor MX8_gives.1.desc).map (fun d => d.parameters.length) = some 4 := by decide +kernel
theorem viX8_gives : Cond.instanceMethod MX8_gives.1 ∈ gg_W := gg_at 908 (by decide +kernel)
theorem vsX8_gives : Cond.selects MX8_gives.1.cls MX8_gives.1 MX8_gives.1 ∈ gg_W := gg_at 42 (by decide +kernel)
theorem dsX8_law : MX8_law.1.cls ≠ "java/lang/invoke/MethodHandle" ∧ MX8_law.1.cls ≠ "java/lang/invoke/VarHandle" ∧ (parseMethodDescriptor MX8_law.1.desc).map (fun d => d.parameters.length) = some 4 := by decide +kernel
theorem viX8_law : Cond.instanceMethod MX8_law.1 ∈ gg_W := gg_at 1021 (by decide +kernel)
theorem vsX8_law : Cond.selects MX8_law.1.cls MX8_law.1 MX8_law.1 ∈ gg_W := gg_at 1022 (by decide +kernel)
theorem dsX8_pays : MX8_pays.1.cls ≠ "java/lang/invoke/MethodHandle" ∧ MX8_pays.1.cls ≠ "java/lang/invoke/VarHandle" ∧ (parseMethodDescriptor MX8_pays.1.desc).map (fun d => d.parameters.length) = some 1 := by decide +kernel
theorem viX8_pays : Cond.instanceMethod MX8_pays.1 ∈ gg_W := gg_at 1042 (by decide +kernel)
theorem vsX8_pays : Cond.selects MX8_pays.1.cls MX8_pays.1 MX8_pays.1 ∈ gg_W := gg_at 61 (by decide +kernel)
theorem dsX8_tallies : MX8_tallies.1.cls ≠ "java/lang/invoke/MethodHandle" ∧ MX8_tallies.1.cls ≠ "java/lang/invoke/VarHandle" ∧ (parseMethodDescriptor MX8_tallies.1.desc).map (fun d => d.parameters.length) = some 0 := by decide +kernel
theorem viX8_tallies : Cond.instanceMethod MX8_tallies.1 ∈ gg_W := gg_at 1030 (by decide +kernel)
theorem vsX8_tallies : Cond.selects MX8_tallies.1.cls MX8_tallies.1 MX8_tallies.1 ∈ gg_W := gg_at 58 (by decide +kernel)
theorem dsX8_tally : MX8_tally.1.cls ≠ "java/lang/invoke/MethodHandle" ∧ MX8_tally.1.cls ≠ "java/lang/invoke/VarHandle" ∧ (parseMethodDescriptor MX8_tally.1.desc).map (fun d => d.parameters.length) = some 0 := by decide +kernel
theorem viX8_tally : Cond.instanceMethod MX8_tally.1 ∈ gg_W := gg_at 1025 (by decide +kernel)
theorem vsX8_tally : Cond.selects MX8_tally.1.cls MX8_tally.1 MX8_tally.1 ∈ gg_W := gg_at 1026 (by decide +kernel)
theorem dsX8_draw : MX8_draw.1.cls ≠ "java/lang/invoke/MethodHandle" ∧ MX8_draw.1.cls ≠ "java/lang/invoke/VarHandle" ∧ (parseMethodDescriptor MX8_draw.1.desc).map (fun d => d.parameters.length) = some 0 := by decide +kernel
theorem viX8_draw : Cond.instanceMethod MX8_draw.1 ∈ gg_W := gg_at 1054 (by decide +kernel)
theorem vsX8_draw : Cond.selects MX8_draw.1.cls MX8_draw.1 MX8_draw.1 ∈ gg_W := gg_at 63 (by decide +kernel)
theorem dsX8_drawn : MX8_drawn.1.cls ≠ "java/lang/invoke/MethodHandle" ∧ MX8_drawn.1.cls ≠ "java/lang/invoke/VarHandle" ∧ (parseMethodDescriptor MX8_drawn.1.desc).map (fun d => d.parameters.length) = some 0 := by decide +kernel
theorem viX8_drawn : Cond.instanceMethod MX8_drawn.1 ∈ gg_W := gg_at 1050 (by decide +kernel)
theorem vsX8_drawn : Cond.selects MX8_drawn.1.cls MX8_drawn.1 MX8_drawn.1 ∈ gg_W := gg_at 62 (by decide +kernel)
theorem dsX8_loose : MX8_loose.1.cls ≠ "java/lang/invoke/MethodHandle" ∧ MX8_loose.1.cls ≠ "java/lang/invoke/VarHandle" ∧ (parseMethodDescriptor MX8_loose.1.desc).map (fun d => d.parameters.length) = some 1 := by decide +kernel
theorem viX8_loose : Cond.instanceMethod MX8_loose.1 ∈ gg_W := gg_at 1045 (by decide +kernel)
theorem vsX8_loose : Cond.selects MX8_loose.1.cls MX8_loose.1 MX8_loose.1 ∈ gg_W := gg_at 1046 (by decide +kernel)
theorem dsX8_seed : MX8_seed.1.cls ≠ "java/lang/invoke/MethodHandle" ∧ MX8_seed.1.cls ≠ "java/lang/invoke/VarHandle" ∧ (parseMethodDescriptor MX8_seed.1.desc).map (fun d => d.parameters.length) = some 1 := by decide +kernel
theorem viX8_seed : Cond.instanceMethod MX8_seed.1 ∈ gg_W := gg_at 1058 (by decide +kernel)
theorem vsX8_seed : Cond.selects MX8_seed.1.cls MX8_seed.1 MX8_seed.1 ∈ gg_W := gg_at 1059 (by decide +kernel)
theorem dsX8_catches : MX8_catches.1.cls ≠ "java/lang/invoke/MethodHandle" ∧ MX8_catches.1.cls ≠ "java/lang/invoke/VarHandle" ∧ (parseMethodDescriptor MX8_catches.1.desc).map (fun d => d.parameters.length) = some 1 := by decide +kernel
theorem viX8_catches : Cond.instanceMethod MX8_catches.1 ∈ gg_W := gg_at 1062 (by decide +kernel)
theorem vsX8_catches : Cond.selects MX8_catches.1.cls MX8_catches.1 MX8_catches.1 ∈ gg_W := gg_at 1063 (by decide +kernel)
theorem dsX8_enough : MX8_enough.1.cls ≠ "java/lang/invoke/MethodHandle" ∧ MX8_enough.1.cls ≠ "java/lang/invoke/VarHandle" ∧ (parseMethodDescriptor MX8_enough.1.desc).map (fun d => d.parameters.length) = some 2 := by decide +kernel
theorem viX8_enough : Cond.instanceMethod MX8_enough.1 ∈ gg_W := gg_at 1075 (by decide +kernel)
theorem vsX8_enough : Cond.selects MX8_enough.1.cls MX8_enough.1 MX8_enough.1 ∈ gg_W := gg_at 65 (by decide +kernel)
theorem dsX8_safe : MX8_safe.1.cls ≠ "java/lang/invoke/MethodHandle" ∧ MX8_safe.1.cls ≠ "java/lang/invoke/VarHandle" ∧ (parseMethodDescriptor MX8_safe.1.desc).map (fun d => d.parameters.length) = some 1 := by decide +kernel
theorem viX8_safe : Cond.instanceMethod MX8_safe.1 ∈ gg_W := gg_at 1070 (by decide +kernel)
theorem vsX8_safe : Cond.selects MX8_safe.1.cls MX8_safe.1 MX8_safe.1 ∈ gg_W := gg_at 1071 (by decide +kernel)
theorem dsX8_shortest : MX8_shortest.1.cls ≠ "java/lang/invoke/MethodHandle" ∧ MX8_shortest.1.cls ≠ "java/lang/invoke/VarHandle" ∧ (parseMethodDescriptor MX8_shortest.1.desc).map (fun d => d.parameters.length) = some 2 := by decide +kernel
theorem viX8_shortest : Cond.instanceMethod MX8_shortest.1 ∈ gg_W := gg_at 1083 (by decide +kernel)
theorem vsX8_shortest : Cond.selects MX8_shortest.1.cls MX8_shortest.1 MX8_shortest.1 ∈ gg_W := gg_at 66 (by decide +kernel)
theorem dsX8_best : MX8_best.1.cls ≠ "java/lang/invoke/MethodHandle" ∧ MX8_best.1.cls ≠ "java/lang/invoke/VarHandle" ∧ (parseMethodDescriptor MX8_best.1.desc).map (fun d => d.parameters.length) = some 2 := by decide +kernel
theorem viX8_best : Cond.instanceMethod MX8_best.1 ∈ gg_W := gg_at 1078 (by decide +kernel)
theorem vsX8_best : Cond.selects MX8_best.1.cls MX8_best.1 MX8_best.1 ∈ gg_W := gg_at 1079 (by decide +kernel)
theorem dsX8_agrees : MX8_agrees.1.cls ≠ "java/lang/invoke/MethodHandle" ∧ MX8_agrees.1.cls ≠ "java/lang/invoke/VarHandle" ∧ (parseMethodDescriptor MX8_agrees.1.desc).map (fun d => d.parameters.length) = some 2 := by decide +kernel
theorem viX8_agrees : Cond.instanceMethod MX8_agrees.1 ∈ gg_W := gg_at 1086 (by decide +kernel)
theorem vsX8_agrees : Cond.selects MX8_agrees.1.cls MX8_agrees.1 MX8_agrees.1 ∈ gg_W := gg_at 1087 (by decide +kernel)
theorem dsX8_isEnough : MX8_isEnough.1.cls ≠ "java/lang/invoke/MethodHandle" ∧ MX8_isEnough.1.cls ≠ "java/lang/invoke/VarHandle" ∧ (parseMethodDescriptor MX8_isEnough.1.desc).map (fun d => d.parameters.length) = some 1 := by decide +kernel
theorem viX8_isEnough : Cond.instanceMethod MX8_isEnough.1 ∈ gg_W := gg_at 1099 (by decide +kernel)
theorem vsX8_isEnough : Cond.selects MX8_isEnough.1.cls MX8_isEnough.1 MX8_isEnough.1 ∈ gg_W := gg_at 67 (by decide +kernel)
theorem dsX8_needs : MX8_needs.1.cls ≠ "java/lang/invoke/MethodHandle" ∧ MX8_needs.1.cls ≠ "java/lang/invoke/VarHandle" ∧ (parseMethodDescriptor MX8_needs.1.desc).map (fun d => d.parameters.length) = some 1 := by decide +kernel
theorem viX8_needs : Cond.instanceMethod MX8_needs.1 ∈ gg_W := gg_at 1091 (by decide +kernel)
theorem vsX8_needs : Cond.selects MX8_needs.1.cls MX8_needs.1 MX8_needs.1 ∈ gg_W := gg_at 1092 (by decide +kernel)
theorem dsX8_soonest : MX8_soonest.1.cls ≠ "java/lang/invoke/MethodHandle" ∧ MX8_soonest.1.cls ≠ "java/lang/invoke/VarHandle" ∧ (parseMethodDescriptor MX8_soonest.1.desc).map (fun d => d.parameters.length) = some 2 := by decide +kernel
theorem viX8_soonest : Cond.instanceMethod MX8_soonest.1 ∈ gg_W := gg_at 1102 (by decide +kernel)
theorem vsX8_soonest : Cond.selects MX8_soonest.1.cls MX8_soonest.1 MX8_soonest.1 ∈ gg_W := gg_at 1103 (by decide +kernel)
theorem dsX8_partOf : MX8_partOf.1.cls ≠ "java/lang/invoke/MethodHandle" ∧ MX8_partOf.1.cls ≠ "java/lang/invoke/VarHandle" ∧ (parseMethodDescriptor MX8_partOf.1.desc).map (fun d => d.parameters.length) = some 3 := by decide +kernel
theorem stX8_partOf : Cond.static MX8_partOf.1 ∈ gg_W := gg_at 1110 (by decide +kernel)
theorem dsX8_odds : MX8_odds.1.cls ≠ "java/lang/invoke/MethodHandle" ∧ MX8_odds.1.cls ≠ "java/lang/invoke/VarHandle" ∧ (parseMethodDescriptor MX8_odds.1.desc).map (fun d => d.parameters.length) = some 3 := by decide +kernel
theorem viX8_odds : Cond.instanceMethod MX8_odds.1 ∈ gg_W := gg_at 1106 (by decide +kernel)
theorem vsX8_odds : Cond.selects MX8_odds.1.cls MX8_odds.1 MX8_odds.1 ∈ gg_W := gg_at 1107 (by decide +kernel)
theorem dsX8_mean : MX8_mean.1.cls ≠ "java/lang/invoke/MethodHandle" ∧ MX8_mean.1.cls ≠ "java/lang/invoke/VarHandle" ∧ (parseMethodDescriptor MX8_mean.1.desc).map (fun d => d.parameters.length) = some 2 := by decide +kernel
theorem viX8_mean : Cond.instanceMethod MX8_mean.1 ∈ gg_W := gg_at 1113 (by decide +kernel)
theorem vsX8_mean : Cond.selects MX8_mean.1.cls MX8_mean.1 MX8_mean.1 ∈ gg_W := gg_at 1114 (by decide +kernel)
theorem dsX8_rightOf : MX8_rightOf.1.cls ≠ "java/lang/invoke/MethodHandle" ∧ MX8_rightOf.1.cls ≠ "java/lang/invoke/VarHandle" ∧ (parseMethodDescriptor MX8_rightOf.1.desc).map (fun d => d.parameters.length) = some 1 := by decide +kernel
theorem viX8_rightOf : Cond.instanceMethod MX8_rightOf.1 ∈ gg_W := gg_at 1125 (by decide +kernel)
theorem vsX8_rightOf : Cond.selects MX8_rightOf.1.cls MX8_rightOf.1 MX8_rightOf.1 ∈ gg_W := gg_at 68 (by decide +kernel)
theorem dsX8_fits : MX8_fits.1.cls ≠ "java/lang/invoke/MethodHandle" ∧ MX8_fits.1.cls ≠ "java/lang/invoke/VarHandle" ∧ (parseMethodDescriptor MX8_fits.1.desc).map (fun d => d.parameters.length) = some 2 := by decide +kernel
theorem viX8_fits : Cond.instanceMethod MX8_fits.1 ∈ gg_W := gg_at 1117 (by decide +kernel)
theorem vsX8_fits : Cond.selects MX8_fits.1.cls MX8_fits.1 MX8_fits.1 ∈ gg_W := gg_at 1118 (by decide +kernel)
theorem dsX8_begins : MX8_begins.1.cls ≠ "java/lang/invoke/MethodHandle" ∧ MX8_begins.1.cls ≠ "java/lang/invoke/VarHandle" ∧ (parseMethodDescriptor MX8_begins.1.desc).map (fun d => d.parameters.length) = some 1 := by decide +kernel
theorem viX8_begins : Cond.instanceMethod MX8_begins.1 ∈ gg_W := gg_at 1141 (by decide +kernel)
theorem vsX8_begins : Cond.selects MX8_begins.1.cls MX8_begins.1 MX8_begins.1 ∈ gg_W := gg_at 71 (by decide +kernel)
theorem dsX8_plainCalls : MX8_plainCalls.1.cls ≠ "java/lang/invoke/MethodHandle" ∧ MX8_plainCalls.1.cls ≠ "java/lang/invoke/VarHandle" ∧ (parseMethodDescriptor MX8_plainCalls.1.desc).map (fun d => d.parameters.length) = some 2 := by decide +kernel
theorem viX8_plainCalls : Cond.instanceMethod MX8_plainCalls.1 ∈ gg_W := gg_at 1145 (by decide +kernel)
theorem vsX8_plainCalls : Cond.selects MX8_plainCalls.1.cls MX8_plainCalls.1 MX8_plainCalls.1 ∈ gg_W := gg_at 72 (by decide +kernel)
theorem dsX8_smackCalls : MX8_smackCalls.1.cls ≠ "java/lang/invoke/MethodHandle" ∧ MX8_smackCalls.1.cls ≠ "java/lang/invoke/VarHandle" ∧ (parseMethodDescriptor MX8_smackCalls.1.desc).map (fun d => d.parameters.length) = some 2 := by decide +kernel
theorem viX8_smackCalls : Cond.instanceMethod MX8_smackCalls.1 ∈ gg_W := gg_at 1137 (by decide +kernel)
theorem vsX8_smackCalls : Cond.selects MX8_smackCalls.1.cls MX8_smackCalls.1 MX8_smackCalls.1 ∈ gg_W := gg_at 70 (by decide +kernel)
theorem dsX8_calls : MX8_calls.1.cls ≠ "java/lang/invoke/MethodHandle" ∧ MX8_calls.1.cls ≠ "java/lang/invoke/VarHandle" ∧ (parseMethodDescriptor MX8_calls.1.desc).map (fun d => d.parameters.length) = some 2 := by decide +kernel
theorem viX8_calls : Cond.instanceMethod MX8_calls.1 ∈ gg_W := gg_at 1133 (by decide +kernel)
theorem vsX8_calls : Cond.selects MX8_calls.1.cls MX8_calls.1 MX8_calls.1 ∈ gg_W := gg_at 69 (by decide +kernel)
theorem dsX8_plainHauls : MX8_plainHauls.1.cls ≠ "java/lang/invoke/MethodHandle" ∧ MX8_plainHauls.1.cls ≠ "java/lang/invoke/VarHandle" ∧ (parseMethodDescriptor MX8_plainHauls.1.desc).map (fun d => d.parameters.length) = some 2 := by decide +kernel
theorem viX8_plainHauls : Cond.instanceMethod MX8_plainHauls.1 ∈ gg_W := gg_at 1157 (by decide +kernel)
theorem vsX8_plainHauls : Cond.selects MX8_plainHauls.1.cls MX8_plainHauls.1 MX8_plainHauls.1 ∈ gg_W := gg_at 75 (by decide +kernel)
theorem dsX8_skiffHauls : MX8_skiffHauls.1.cls ≠ "java/lang/invoke/MethodHandle" ∧ MX8_skiffHauls.1.cls ≠ "java/lang/invoke/VarHandle" ∧ (parseMethodDescriptor MX8_skiffHauls.1.desc).map (fun d => d.parameters.length) = some 2 := by decide +kernel
theorem viX8_skiffHauls : Cond.instanceMethod MX8_skiffHauls.1 ∈ gg_W := gg_at 1153 (by decide +kernel)
theorem vsX8_skiffHauls : Cond.selects MX8_skiffHauls.1.cls MX8_skiffHauls.1 MX8_skiffHauls.1 ∈ gg_W := gg_at 74 (by decide +kernel)
theorem dsX8_hauls : MX8_hauls.1.cls ≠ "java/lang/invoke/MethodHandle" ∧ MX8_hauls.1.cls ≠ "java/lang/invoke/VarHandle" ∧ (parseMethodDescriptor MX8_hauls.1.desc).map (fun d => d.parameters.length) = some 2 := by decide +kernel
theorem viX8_hauls : Cond.instanceMethod MX8_hauls.1 ∈ gg_W := gg_at 1149 (by decide +kernel)
theorem vsX8_hauls : Cond.selects MX8_hauls.1.cls MX8_hauls.1 MX8_hauls.1 ∈ gg_W := gg_at 73 (by decide +kernel)
theorem dsX8_plainLets : MX8_plainLets.1.cls ≠ "java/lang/invoke/MethodHandle" ∧ MX8_plainLets.1.cls ≠ "java/lang/invoke/VarHandle" ∧ (parseMethodDescriptor MX8_plainLets.1.desc).map (fun d => d.parameters.length) = some 2 := by decide +kernel
theorem viX8_plainLets : Cond.instanceMethod MX8_plainLets.1 ∈ gg_W := gg_at 1165 (by decide +kernel)
theorem vsX8_plainLets : Cond.selects MX8_plainLets.1.cls MX8_plainLets.1 MX8_plainLets.1 ∈ gg_W := gg_at 77 (by decide +kernel)
theorem dsX8_letsBy : MX8_letsBy.1.cls ≠ "java/lang/invoke/MethodHandle" ∧ MX8_letsBy.1.cls ≠ "java/lang/invoke/VarHandle" ∧ (parseMethodDescriptor MX8_letsBy.1.desc).map (fun d => d.parameters.length) = some 2 := by decide +kernel
theorem viX8_letsBy : Cond.instanceMethod MX8_letsBy.1 ∈ gg_W := gg_at 1161 (by decide +kernel)
theorem vsX8_letsBy : Cond.selects MX8_letsBy.1.cls MX8_letsBy.1 MX8_letsBy.1 ∈ gg_W := gg_at 76 (by decide +kernel)
theorem dsX8_plainParts : MX8_plainParts.1.cls ≠ "java/lang/invoke/MethodHandle" ∧ MX8_plainParts.1.cls ≠ "java/lang/invoke/VarHandle" ∧ (parseMethodDescriptor MX8_plainParts.1.desc).map (fun d => d.parameters.length) = some 2 := by decide +kernel
theorem viX8_plainParts : Cond.instanceMethod MX8_plainParts.1 ∈ gg_W := gg_at 1173 (by decide +kernel)
theorem vsX8_plainParts : Cond.selects MX8_plainParts.1.cls MX8_plainParts.1 MX8_plainParts.1 ∈ gg_W := gg_at 79 (by decide +kernel)
theorem dsX8_partsBy : MX8_partsBy.1.cls ≠ "java/lang/invoke/MethodHandle" ∧ MX8_partsBy.1.cls ≠ "java/lang/invoke/VarHandle" ∧ (parseMethodDescriptor MX8_partsBy.1.desc).map (fun d => d.parameters.length) = some 2 := by decide +kernel
theorem viX8_partsBy : Cond.instanceMethod MX8_partsBy.1 ∈ gg_W := gg_at 1169 (by decide +kernel)
theorem vsX8_partsBy : Cond.selects MX8_partsBy.1.cls MX8_partsBy.1 MX8_partsBy.1 ∈ gg_W := gg_at 78 (by decide +kernel)
theorem dsX8_voice : MX8_voice.1.cls ≠ "java/lang/invoke/MethodHandle" ∧ MX8_voice.1.cls ≠ "java/lang/invoke/VarHandle" ∧ (parseMethodDescriptor MX8_voice.1.desc).map (fun d => d.parameters.length) = some 3 := by decide +kernel
theorem viX8_voice : Cond.instanceMethod MX8_voice.1 ∈ gg_W := gg_at 1128 (by decide +kernel)
theorem vsX8_voice : Cond.selects MX8_voice.1.cls MX8_voice.1 MX8_voice.1 ∈ gg_W := gg_at 1129 (by decide +kernel)
theorem dsX8_body : MX8_body.1.cls ≠ "java/lang/invoke/MethodHandle" ∧ MX8_body.1.cls ≠ "java/lang/invoke/VarHandle" ∧ (parseMethodDescriptor MX8_body.1.desc).map (fun d => d.parameters.length) = some 1 := by decide +kernel
theorem viX8_body : Cond.instanceMethod MX8_body.1 ∈ gg_W := gg_at 1177 (by decide +kernel)
theorem vsX8_body : Cond.selects MX8_body.1.cls MX8_body.1 MX8_body.1 ∈ gg_W := gg_at 1178 (by decide +kernel)
theorem dsX8_isSheet : MX8_isSheet.1.cls ≠ "java/lang/invoke/MethodHandle" ∧ MX8_isSheet.1.cls ≠ "java/lang/invoke/VarHandle" ∧ (parseMethodDescriptor MX8_isSheet.1.desc).map (fun d => d.parameters.length) = some 1 := by decide +kernel
theorem stX8_isSheet : Cond.static MX8_isSheet.1 ∈ gg_W := gg_at 1121 (by decide +kernel)
theorem dsX8_sheet : MX8_sheet.1.cls ≠ "java/lang/invoke/MethodHandle" ∧ MX8_sheet.1.cls ≠ "java/lang/invoke/VarHandle" ∧ (parseMethodDescriptor MX8_sheet.1.desc).map (fun d => d.parameters.length) = some 3 := by decide +kernel
theorem viX8_sheet : Cond.instanceMethod MX8_sheet.1 ∈ gg_W := gg_at 1181 (by decide +kernel)
theorem vsX8_sheet : Cond.selects MX8_sheet.1.cls MX8_sheet.1 MX8_sheet.1 ∈ gg_W := gg_at 1182 (by decide +kernel)
theorem dsX8_notThere : MX8_notThere.1.cls ≠ "java/lang/invoke/MethodHandle" ∧ MX8_notThere.1.cls ≠ "java/lang/invoke/VarHandle" ∧ (parseMethodDescriptor MX8_notThere.1.desc).map (fun d => d.parameters.length) = some 1 := by decide +kernel
theorem viX8_notThere : Cond.instanceMethod MX8_notThere.1 ∈ gg_W := gg_at 1190 (by decide +kernel)
theorem vsX8_notThere : Cond.selects MX8_notThere.1.cls MX8_notThere.1 MX8_notThere.1 ∈ gg_W := gg_at 80 (by decide +kernel)
theorem dsX8_put : MX8_put.1.cls ≠ "java/lang/invoke/MethodHandle" ∧ MX8_put.1.cls ≠ "java/lang/invoke/VarHandle" ∧ (parseMethodDescriptor MX8_put.1.desc).map (fun d => d.parameters.length) = some 3 := by decide +kernel
theorem viX8_put : Cond.instanceMethod MX8_put.1 ∈ gg_W := gg_at 1185 (by decide +kernel)
theorem vsX8_put : Cond.selects MX8_put.1.cls MX8_put.1 MX8_put.1 ∈ gg_W := gg_at 1186 (by decide +kernel)
theorem dsX8_notMoved : MX8_notMoved.1.cls ≠ "java/lang/invoke/MethodHandle" ∧ MX8_notMoved.1.cls ≠ "java/lang/invoke/VarHandle" ∧ (parseMethodDescriptor MX8_notMoved.1.desc).map (fun d => d.parameters.length) = some 5 := by decide +kernel
theorem viX8_notMoved : Cond.instanceMethod MX8_notMoved.1 ∈ gg_W := gg_at 1198 (by decide +kernel)
theorem vsX8_notMoved : Cond.selects MX8_notMoved.1.cls MX8_notMoved.1 MX8_notMoved.1 ∈ gg_W := gg_at 81 (by decide +kernel)
theorem dsX8_move : MX8_move.1.cls ≠ "java/lang/invoke/MethodHandle" ∧ MX8_move.1.cls ≠ "java/lang/invoke/VarHandle" ∧ (parseMethodDescriptor MX8_move.1.desc).map (fun d => d.parameters.length) = some 5 := by decide +kernel
theorem viX8_move : Cond.instanceMethod MX8_move.1 ∈ gg_W := gg_at 1193 (by decide +kernel)
theorem vsX8_move : Cond.selects MX8_move.1.cls MX8_move.1 MX8_move.1 ∈ gg_W := gg_at 1194 (by decide +kernel)
theorem dsX8_prices : MX8_prices.1.cls ≠ "java/lang/invoke/MethodHandle" ∧ MX8_prices.1.cls ≠ "java/lang/invoke/VarHandle" ∧ (parseMethodDescriptor MX8_prices.1.desc).map (fun d => d.parameters.length) = some 1 := by decide +kernel
theorem viX8_prices : Cond.instanceMethod MX8_prices.1 ∈ gg_W := gg_at 1201 (by decide +kernel)
theorem vsX8_prices : Cond.selects MX8_prices.1.cls MX8_prices.1 MX8_prices.1 ∈ gg_W := gg_at 1202 (by decide +kernel)
theorem dsX8_judge : MX8_judge.1.cls ≠ "java/lang/invoke/MethodHandle" ∧ MX8_judge.1.cls ≠ "java/lang/invoke/VarHandle" ∧ (parseMethodDescriptor MX8_judge.1.desc).map (fun d => d.parameters.length) = some 1 := by decide +kernel
theorem viX8_judge : Cond.instanceMethod MX8_judge.1 ∈ gg_W := gg_at 1205 (by decide +kernel)
theorem vsX8_judge : Cond.selects MX8_judge.1.cls MX8_judge.1 MX8_judge.1 ∈ gg_W := gg_at 1206 (by decide +kernel)
theorem dsX8_image : MX8_image.1.cls ≠ "java/lang/invoke/MethodHandle" ∧ MX8_image.1.cls ≠ "java/lang/invoke/VarHandle" ∧ (parseMethodDescriptor MX8_image.1.desc).map (fun d => d.parameters.length) = some 0 := by decide +kernel
theorem viX8_image : Cond.instanceMethod MX8_image.1 ∈ gg_W := gg_at 1209 (by decide +kernel)
theorem vsX8_image : Cond.selects MX8_image.1.cls MX8_image.1 MX8_image.1 ∈ gg_W := gg_at 1210 (by decide +kernel)
theorem dsX8_restore : MX8_restore.1.cls ≠ "java/lang/invoke/MethodHandle" ∧ MX8_restore.1.cls ≠ "java/lang/invoke/VarHandle" ∧ (parseMethodDescriptor MX8_restore.1.desc).map (fun d => d.parameters.length) = some 0 := by decide +kernel
theorem viX8_restore : Cond.instanceMethod MX8_restore.1 ∈ gg_W := gg_at 1216 (by decide +kernel)
theorem vsX8_restore : Cond.selects MX8_restore.1.cls MX8_restore.1 MX8_restore.1 ∈ gg_W := gg_at 1217 (by decide +kernel)
theorem dsX8_tell : MX8_tell.1.cls ≠ "java/lang/invoke/MethodHandle" ∧ MX8_tell.1.cls ≠ "java/lang/invoke/VarHandle" ∧ (parseMethodDescriptor MX8_tell.1.desc).map (fun d => d.parameters.length) = some 1 := by decide +kernel
theorem viX8_tell : Cond.instanceMethod MX8_tell.1 ∈ gg_W := gg_at 1220 (by decide +kernel)
theorem vsX8_tell : Cond.selects MX8_tell.1.cls MX8_tell.1 MX8_tell.1 ∈ gg_W := gg_at 1221 (by decide +kernel)
theorem dsX8_check : MX8_check.1.cls ≠ "java/lang/invoke/MethodHandle" ∧ MX8_check.1.cls ≠ "java/lang/invoke/VarHandle" ∧ (parseMethodDescriptor MX8_check.1.desc).map (fun d => d.parameters.length) = some 0 := by decide +kernel
theorem viX8_check : Cond.instanceMethod MX8_check.1 ∈ gg_W := gg_at 1224 (by decide +kernel)
theorem vsX8_check : Cond.selects MX8_check.1.cls MX8_check.1 MX8_check.1 ∈ gg_W := gg_at 1225 (by decide +kernel)
theorem dsX8_count : MX8_count.1.cls ≠ "java/lang/invoke/MethodHandle" ∧ MX8_count.1.cls ≠ "java/lang/invoke/VarHandle" ∧ (parseMethodDescriptor MX8_count.1.desc).map (fun d => d.parameters.length) = some 1 := by decide +kernel
theorem viX8_count : Cond.instanceMethod MX8_count.1 ∈ gg_W := gg_at 1228 (by decide +kernel)
theorem vsX8_count : Cond.selects MX8_count.1.cls MX8_count.1 MX8_count.1 ∈ gg_W := gg_at 1229 (by decide +kernel)
theorem dsX8_told : MX8_told.1.cls ≠ "java/lang/invoke/MethodHandle" ∧ MX8_told.1.cls ≠ "java/lang/invoke/VarHandle" ∧ (parseMethodDescriptor MX8_told.1.desc).map (fun d => d.parameters.length) = some 1 := by decide +kernel
theorem viX8_told : Cond.instanceMethod MX8_told.1 ∈ gg_W := gg_at 1232 (by decide +kernel)
theorem vsX8_told : Cond.selects MX8_told.1.cls MX8_told.1 MX8_told.1 ∈ gg_W := gg_at 1233 (by decide +kernel)
theorem dsJ6_numberOfTrailingZeros_0f7a4 : MJ6_numberOfTrailingZeros_0f7a4.1.cls ≠ "java/lang/invoke/MethodHandle" ∧ MJ6_numberOfTrailingZeros_0f7a4.1.cls ≠ "java/lang/invoke/VarHandle" ∧ (parseMethodDescriptor MJ6_numberOfTrailingZeros_0f7a4.1.desc).map (fun d => d.parameters.length) = some 1 := by decide +kernel
theorem stJ6_numberOfTrailingZeros_0f7a4 : Cond.static MJ6_numberOfTrailingZeros_0f7a4.1 ∈ gg_W := gg_at 694 (by decide +kernel)
theorem dsJ6_bitCount_0f7a4 : MJ6_bitCount_0f7a4.1.cls ≠ "java/lang/invoke/MethodHandle" ∧ MJ6_bitCount_0f7a4.1.cls ≠ "java/lang/invoke/VarHandle" ∧ (parseMethodDescriptor MJ6_bitCount_0f7a4.1.desc).map (fun d => d.parameters.length) = some 1 := by decide +kernel
theorem stJ6_bitCount_0f7a4 : Cond.static MJ6_bitCount_0f7a4.1 ∈ gg_W := gg_at 642 (by decide +kernel)
theorem dsJ9_max_7cf53 : MJ9_max_7cf53.1.cls ≠ "java/lang/invoke/MethodHandle" ∧ MJ9_max_7cf53.1.cls ≠ "java/lang/invoke/VarHandle" ∧ (parseMethodDescriptor MJ9_max_7cf53.1.desc).map (fun d => d.parameters.length) = some 2 := by decide +kernel
theorem stJ9_max_7cf53 : Cond.static MJ9_max_7cf53.1 ∈ gg_W := gg_at 379 (by decide +kernel)
theorem dsJ9_min_7cf53 : MJ9_min_7cf53.1.cls ≠ "java/lang/invoke/MethodHandle" ∧ MJ9_min_7cf53.1.cls ≠ "java/lang/invoke/VarHandle" ∧ (parseMethodDescriptor MJ9_min_7cf53.1.desc).map (fun d => d.parameters.length) = some 2 := by decide +kernel
theorem stJ9_min_7cf53 : Cond.static MJ9_min_7cf53.1 ∈ gg_W := gg_at 376 (by decide +kernel)
theorem dsJ0_length_8abf5 : MJ0_length_8abf5.1.cls ≠ "java/lang/invoke/MethodHandle" ∧ MJ0_length_8abf5.1.cls ≠ "java/lang/invoke/VarHandle" ∧ (parseMethodDescriptor MJ0_length_8abf5.1.desc).map (fun d => d.parameters.length) = some 0 := by decide +kernel
theorem viJ0_length_8abf5 : Cond.instanceMethod MJ0_length_8abf5.1 ∈ gg_W := gg_at 478 (by decide +kernel)
theorem vsJ0_length_8abf5 : Cond.selects MJ0_length_8abf5.1.cls MJ0_length_8abf5.1 MJ0_length_8abf5.1 ∈ gg_W := gg_at 479 (by decide +kernel)
theorem dsJ0_charAt_5068e : MJ0_charAt_5068e.1.cls ≠ "java/lang/invoke/MethodHandle" ∧ MJ0_charAt_5068e.1.cls ≠ "java/lang/invoke/VarHandle" ∧ (parseMethodDescriptor MJ0_charAt_5068e.1.desc).map (fun d => d.parameters.length) = some 1 := by decide +kernel
theorem viJ0_charAt_5068e : Cond.instanceMethod MJ0_charAt_5068e.1 ∈ gg_W := gg_at 488 (by decide +kernel)
theorem vsJ0_charAt_5068e : Cond.selects MJ0_charAt_5068e.1.cls MJ0_charAt_5068e.1 MJ0_charAt_5068e.1 ∈ gg_W := gg_at 489 (by decide +kernel)
theorem dsJ0_coder_7d493 : MJ0_coder_7d493.1.cls ≠ "java/lang/invoke/MethodHandle" ∧ MJ0_coder_7d493.1.cls ≠ "java/lang/invoke/VarHandle" ∧ (parseMethodDescriptor MJ0_coder_7d493.1.desc).map (fun d => d.parameters.length) = some 0 := by decide +kernel
theorem viJ0_coder_7d493 : Cond.instanceMethod MJ0_coder_7d493.1 ∈ gg_W := gg_at 482 (by decide +kernel)
theorem vsJ0_coder_7d493 : Cond.selects MJ0_coder_7d493.1.cls MJ0_coder_7d493.1 MJ0_coder_7d493.1 ∈ gg_W := gg_at 483 (by decide +kernel)
theorem dsJ0_isLatin1_aae02 : MJ0_isLatin1_aae02.1.cls ≠ "java/lang/invoke/MethodHandle" ∧ MJ0_isLatin1_aae02.1.cls ≠ "java/lang/invoke/VarHandle" ∧ (parseMethodDescriptor MJ0_isLatin1_aae02.1.desc).map (fun d => d.parameters.length) = some 0 := by decide +kernel
theorem viJ0_isLatin1_aae02 : Cond.instanceMethod MJ0_isLatin1_aae02.1 ∈ gg_W := gg_at 492 (by decide +kernel)
theorem vsJ0_isLatin1_aae02 : Cond.selects MJ0_isLatin1_aae02.1.cls MJ0_isLatin1_aae02.1 MJ0_isLatin1_aae02.1 ∈ gg_W := gg_at 493 (by decide +kernel)
theorem dsJ0_checkIndex_df160 : MJ0_checkIndex_df160.1.cls ≠ "java/lang/invoke/MethodHandle" ∧ MJ0_checkIndex_df160.1.cls ≠ "java/lang/invoke/VarHandle" ∧ (parseMethodDescriptor MJ0_checkIndex_df160.1.desc).map (fun d => d.parameters.length) = some 2 := by decide +kernel
theorem stJ0_checkIndex_df160 : Cond.static MJ0_checkIndex_df160.1 ∈ gg_W := gg_at 499 (by decide +kernel)
theorem dsJ1_charAt_3b067 : MJ1_charAt_3b067.1.cls ≠ "java/lang/invoke/MethodHandle" ∧ MJ1_charAt_3b067.1.cls ≠ "java/lang/invoke/VarHandle" ∧ (parseMethodDescriptor MJ1_charAt_3b067.1.desc).map (fun d => d.parameters.length) = some 2 := by decide +kernel
theorem stJ1_charAt_3b067 : Cond.static MJ1_charAt_3b067.1 ∈ gg_W := gg_at 496 (by decide +kernel)
theorem dsJ2_getChar_3b067 : MJ2_getChar_3b067.1.cls ≠ "java/lang/invoke/MethodHandle" ∧ MJ2_getChar_3b067.1.cls ≠ "java/lang/invoke/VarHandle" ∧ (parseMethodDescriptor MJ2_getChar_3b067.1.desc).map (fun d => d.parameters.length) = some 2 := by decide +kernel
theorem stJ2_getChar_3b067 : Cond.static MJ2_getChar_3b067.1 ∈ gg_W := gg_at 517 (by decide +kernel)
theorem dsJ2_length_9d52b : MJ2_length_9d52b.1.cls ≠ "java/lang/invoke/MethodHandle" ∧ MJ2_length_9d52b.1.cls ≠ "java/lang/invoke/VarHandle" ∧ (parseMethodDescriptor MJ2_length_9d52b.1.desc).map (fun d => d.parameters.length) = some 1 := by decide +kernel
theorem stJ2_length_9d52b : Cond.static MJ2_length_9d52b.1 ∈ gg_W := gg_at 513 (by decide +kernel)
theorem dsJ2_charAt_3b067 : MJ2_charAt_3b067.1.cls ≠ "java/lang/invoke/MethodHandle" ∧ MJ2_charAt_3b067.1.cls ≠ "java/lang/invoke/VarHandle" ∧ (parseMethodDescriptor MJ2_charAt_3b067.1.desc).map (fun d => d.parameters.length) = some 2 := by decide +kernel
theorem stJ2_charAt_3b067 : Cond.static MJ2_charAt_3b067.1 ∈ gg_W := gg_at 507 (by decide +kernel)
theorem dsJ2_checkIndex_2214a : MJ2_checkIndex_2214a.1.cls ≠ "java/lang/invoke/MethodHandle" ∧ MJ2_checkIndex_2214a.1.cls ≠ "java/lang/invoke/VarHandle" ∧ (parseMethodDescriptor MJ2_checkIndex_2214a.1.desc).map (fun d => d.parameters.length) = some 2 := by decide +kernel
theorem stJ2_checkIndex_2214a : Cond.static MJ2_checkIndex_2214a.1 ∈ gg_W := gg_at 510 (by decide +kernel)
theorem dsJ7_fill_53178 : MJ7_fill_53178.1.cls ≠ "java/lang/invoke/MethodHandle" ∧ MJ7_fill_53178.1.cls ≠ "java/lang/invoke/VarHandle" ∧ (parseMethodDescriptor MJ7_fill_53178.1.desc).map (fun d => d.parameters.length) = some 2 := by decide +kernel
theorem stJ7_fill_53178 : Cond.static MJ7_fill_53178.1 ∈ gg_W := gg_at 119 (by decide +kernel)
theorem dsJ3_checkIndex_8e157 : MJ3_checkIndex_8e157.1.cls ≠ "java/lang/invoke/MethodHandle" ∧ MJ3_checkIndex_8e157.1.cls ≠ "java/lang/invoke/VarHandle" ∧ (parseMethodDescriptor MJ3_checkIndex_8e157.1.desc).map (fun d => d.parameters.length) = some 3 := by decide +kernel
theorem stJ3_checkIndex_8e157 : Cond.static MJ3_checkIndex_8e157.1 ∈ gg_W := gg_at 504 (by decide +kernel)
theorem kX2_43 : sk_cl RX2 43 MJ7_fill_53178 2 false := cl_s aJ7_fill_53178 iniRJ7 dsJ7_fill_53178 (by decide) stJ7_fill_53178 (Or.inl (gg_at 118 (by decide +kernel)))
theorem kL_13 : sk_cl RL 13 MX7_boat 1 true := cl_v aX7_boat iniRX7 dsX7_boat (by decide) viX7_boat vsX7_boat (Or.inl (gg_at 327 (by decide +kernel)))
theorem kX7_44 : sk_cl RX7 44 MX7_isKindWithNumber 1 false := cl_s aX7_isKindWithNumber iniRX7 dsX7_isKindWithNumber (by decide) stX7_isKindWithNumber (Or.inl (gg_at 331 (by decide +kernel)))
theorem kX7_49 : sk_cl RX7 49 MX7_refuse 1 true := cl_v aX7_refuse iniRX7 dsX7_refuse (by decide) viX7_refuse vsX7_refuse (Or.inl (gg_at 335 (by decide +kernel)))
theorem kX7_62 : sk_cl RX7 62 MX0_turnInto 1 true := cl_v aX0_turnInto iniRX0 dsX0_turnInto (by decide) viX0_turnInto vsX0_turnInto (Or.inr ⟨"PromisedFish", nn_at 259 (by decide +kernel)⟩)
theorem kL_18 : sk_cl RL 18 MX7_boatIs 2 true := cl_v aX7_boatIs iniRX7 dsX7_boatIs (by decide) viX7_boatIs vsX7_boatIs (Or.inl (gg_at 345 (by decide +kernel)))
theorem kX7_71 : sk_cl RX7 71 MX7_isBoat 1 true := cl_v aX7_isBoat iniRX7 dsX7_isBoat (by decide) viX7_isBoat vsX7_isBoat (Or.inl (gg_at 349 (by decide +kernel)))
theorem kX7_74 : sk_cl RX7 74 MX7_isWithin 2 false := cl_s aX7_isWithin iniRX7 dsX7_isWithin (by decide) stX7_isWithin (Or.inl (gg_at 353 (by decide +kernel)))
theorem kX7_87 : sk_cl RX7 87 MX0_eats 1 true := cl_v aX0_eats iniRX0 dsX0_eats (by decide) viX0_eats vsX0_eats (Or.inr ⟨"PromisedFish", nn_at 274 (by decide +kernel)⟩)
theorem kX7_96 : sk_cl RX7 96 MX2_landed 5 true := cl_v aX2_landed iniRX2 dsX2_landed (by decide) viX2_landed vsX2_landed (Or.inr ⟨"PromisedFish", nn_at 278 (by decide +kernel)⟩)
theorem kX2_88 : sk_cl RX2 88 MX0_hauls 3 true := cl_v aX0_hauls iniRX0 dsX0_hauls (by decide) viX0_hauls vsX0_hauls (Or.inr ⟨"PromisedFish", nn_at 282 (by decide +kernel)⟩)
theorem kX2_92 : sk_cl RX2 92 MX1_gives 3 true := cl_v aX1_gives iniRX1 dsX1_gives (by decide) viX1_gives vsX1_gives (Or.inr ⟨"PromisedFish", nn_at 286 (by decide +kernel)⟩)
theorem kX1_24 : sk_cl RX1 24 MX7_held 3 false := cl_s aX7_held iniRX7 dsX7_held (by decide) stX7_held (Or.inr ⟨"PromisedFish", nn_at 290 (by decide +kernel)⟩)
theorem blX7_259 : Cond.methodLink RX7 259 Lib.Math.min.name ∈ gg_W := gg_at 375 (by decide +kernel)
theorem blX7_287 : Cond.methodLink RX7 287 Lib.Math.max.name ∈ gg_W := gg_at 378 (by decide +kernel)
theorem kX1_48 : sk_cl RX1 48 MX1_joined 3 false := cl_s aX1_joined iniRX1 dsX1_joined (by decide) stX1_joined (Or.inl (gg_at 381 (by decide +kernel)))
theorem kL_23 : sk_cl RL 23 MX7_become 2 true := cl_v aX7_become iniRX7 dsX7_become (by decide) viX7_become vsX7_become (Or.inl (gg_at 384 (by decide +kernel)))
theorem kL_27 : sk_cl RL 27 MX7_as 2 true := cl_v aX7_as iniRX7 dsX7_as (by decide) viX7_as vsX7_as (Or.inl (gg_at 388 (by decide +kernel)))
theorem kX7_100 : sk_cl RX7 100 MX0_isOneOf 1 true := cl_v aX0_isOneOf iniRX0 dsX0_isOneOf (by decide) viX0_isOneOf vsX0_isOneOf (Or.inr ⟨"PromisedFish", nn_at 310 (by decide +kernel)⟩)
theorem kL_31 : sk_cl RL 31 MX7_lose 2 true := cl_v aX7_lose iniRX7 dsX7_lose (by decide) viX7_lose vsX7_lose (Or.inl (gg_at 399 (by decide +kernel)))
theorem kL_35 : sk_cl RL 35 MX7_rises 1 true := cl_v aX7_rises iniRX7 dsX7_rises (by decide) viX7_rises vsX7_rises (Or.inl (gg_at 403 (by decide +kernel)))
theorem kL_39 : sk_cl RL 39 MX7_price 2 true := cl_v aX7_price iniRX7 dsX7_price (by decide) viX7_price vsX7_price (Or.inl (gg_at 407 (by decide +kernel)))
theorem kX7_104 : sk_cl RX7 104 MX7_isFish 1 false := cl_s aX7_isFish iniRX7 dsX7_isFish (by decide) stX7_isFish (Or.inl (gg_at 411 (by decide +kernel)))
theorem kL_43 : sk_cl RL 43 MX7_sell 2 true := cl_v aX7_sell iniRX7 dsX7_sell (by decide) viX7_sell vsX7_sell (Or.inl (gg_at 414 (by decide +kernel)))
theorem kX7_111 : sk_cl RX7 111 MX2_promise 2 true := cl_v aX2_promise iniRX2 dsX2_promise (by decide) viX2_promise vsX2_promise (Or.inr ⟨"PromisedFish", nn_at 337 (by decide +kernel)⟩)
theorem kX2_103 : sk_cl RX2 103 MX2_coins 2 true := cl_v aX2_coins iniRX2 dsX2_coins (by decide) viX2_coins vsX2_coins (Or.inl (gg_at 423 (by decide +kernel)))
theorem blX2_108 : Cond.methodLink RX2 108 Lib.Math.min.name ∈ gg_W := gg_at 428 (by decide +kernel)
theorem kL_49 : sk_cl RL 49 MX7_feed 2 true := cl_v aX7_feed iniRX7 dsX7_feed (by decide) viX7_feed vsX7_feed (Or.inl (gg_at 429 (by decide +kernel)))
theorem kL_54 : sk_cl RL 54 MX7_text 1 true := cl_v aX7_text iniRX7 dsX7_text (by decide) viX7_text vsX7_text (Or.inl (gg_at 433 (by decide +kernel)))
theorem kX7_121 : sk_cl RX7 121 MX7_isUse 1 false := cl_s aX7_isUse iniRX7 dsX7_isUse (by decide) stX7_isUse (Or.inl (gg_at 437 (by decide +kernel)))
theorem kX7_124 : sk_cl RX7 124 MX3_faultIn 3 true := cl_v aX3_faultIn iniRX3 dsX3_faultIn (by decide) viX3_faultIn vsX3_faultIn (Or.inr ⟨"PromisedFish", nn_at 358 (by decide +kernel)⟩)
theorem blX3_18 : Cond.methodLink RX3 18 Lib.Math.min.name ∈ gg_W := gg_at 444 (by decide +kernel)
theorem kX3_24 : sk_cl RX3 24 MX7_held 3 false := cl_s aX7_held iniRX7 dsX7_held (by decide) stX7_held (Or.inr ⟨"PromisedFish", nn_at 363 (by decide +kernel)⟩)
theorem blX3_32 : Cond.methodLink RX3 32 arraycopyName ∈ gg_W := gg_at 446 (by decide +kernel)
theorem kX3_47 : sk_cl RX3 47 MX3_readLevel 2 true := cl_v aX3_readLevel iniRX3 dsX3_readLevel (by decide) viX3_readLevel vsX3_readLevel (Or.inl (gg_at 449 (by decide +kernel)))
theorem kX3_51 : sk_cl RX3 51 MX3_readItem 1 true := cl_v aX3_readItem iniRX3 dsX3_readItem (by decide) viX3_readItem vsX3_readItem (Or.inl (gg_at 453 (by decide +kernel)))
theorem kX3_55 : sk_cl RX3 55 MX3_next 0 true := cl_v aX3_next iniRX3 dsX3_next (by decide) viX3_next vsX3_next (Or.inl (gg_at 457 (by decide +kernel)))
theorem kX3_67 : sk_cl RX3 67 MX3_isDigit 1 false := cl_s aX3_isDigit iniRX3 dsX3_isDigit (by decide) stX3_isDigit (Or.inl (gg_at 461 (by decide +kernel)))
theorem kX3_70 : sk_cl RX3 70 MX3_readNumber 0 true := cl_v aX3_readNumber iniRX3 dsX3_readNumber (by decide) viX3_readNumber vsX3_readNumber (Or.inl (gg_at 464 (by decide +kernel)))
theorem kX3_63 : sk_cl RX3 63 MX3_write 1 true := cl_v aX3_write iniRX3 dsX3_write (by decide) viX3_write vsX3_write (Or.inl (gg_at 468 (by decide +kernel)))
theorem kX3_73 : sk_cl RX3 73 MX3_nameOf 1 true := cl_v aX3_nameOf iniRX3 dsX3_nameOf (by decide) viX3_nameOf vsX3_nameOf (Or.inl (gg_at 472 (by decide +kernel)))
theorem kX3_84 : sk_cl RX3 84 MJ0_length_8abf5 0 true := cl_v aJ0_length_8abf5 iniRJ0 dsJ0_length_8abf5 (by decide) viJ0_length_8abf5 vsJ0_length_8abf5 (Or.inl (gg_at 477 (by decide +kernel)))
theorem kJ0_335 : sk_cl RJ0 335 MJ0_coder_7d493 0 true := cl_v aJ0_coder_7d493 iniRJ0 dsJ0_coder_7d493 (by decide) viJ0_coder_7d493 vsJ0_coder_7d493 (Or.inl (gg_at 481 (by decide +kernel)))
theorem kX3_89 : sk_cl RX3 89 MJ0_charAt_5068e 1 true := cl_v aJ0_charAt_5068e iniRJ0 dsJ0_charAt_5068e (by decide) viJ0_charAt_5068e vsJ0_charAt_5068e (Or.inl (gg_at 487 (by decide +kernel)))
theorem kJ0_492 : sk_cl RJ0 492 MJ0_isLatin1_aae02 0 true := cl_v aJ0_isLatin1_aae02 iniRJ0 dsJ0_isLatin1_aae02 (by decide) viJ0_isLatin1_aae02 vsJ0_isLatin1_aae02 (Or.inl (gg_at 491 (by decide +kernel)))
theorem kJ0_495 : sk_cl RJ0 495 MJ1_charAt_3b067 2 false := cl_s aJ1_charAt_3b067 iniRJ1 dsJ1_charAt_3b067 (by decide) stJ1_charAt_3b067 (Or.inl (gg_at 495 (by decide +kernel)))
theorem kJ1_9 : sk_cl RJ1 9 MJ0_checkIndex_df160 2 false := cl_s aJ0_checkIndex_df160 iniRJ0 dsJ0_checkIndex_df160 (by decide) stJ0_checkIndex_df160 (Or.inl (gg_at 498 (by decide +kernel)))
theorem kJ0_1059 : sk_cl RJ0 1059 MJ3_checkIndex_8e157 3 false := cl_s aJ3_checkIndex_8e157 iniRJ3 dsJ3_checkIndex_8e157 (by decide) stJ3_checkIndex_8e157 (Or.inl (gg_at 503 (by decide +kernel)))
theorem kJ0_498 : sk_cl RJ0 498 MJ2_charAt_3b067 2 false := cl_s aJ2_charAt_3b067 iniRJ2 dsJ2_charAt_3b067 (by decide) stJ2_charAt_3b067 (Or.inl (gg_at 506 (by decide +kernel)))
theorem kJ2_67 : sk_cl RJ2 67 MJ2_checkIndex_2214a 2 false := cl_s aJ2_checkIndex_2214a iniRJ2 dsJ2_checkIndex_2214a (by decide) stJ2_checkIndex_2214a (Or.inl (gg_at 509 (by decide +kernel)))
theorem kJ2_48 : sk_cl RJ2 48 MJ2_length_9d52b 1 false := cl_s aJ2_length_9d52b iniRJ2 dsJ2_length_9d52b (by decide) stJ2_length_9d52b (Or.inl (gg_at 512 (by decide +kernel)))
theorem kJ2_414 : sk_cl RJ2 414 MJ0_checkIndex_df160 2 false := cl_s aJ0_checkIndex_df160 iniRJ0 dsJ0_checkIndex_df160 (by decide) stJ0_checkIndex_df160 (Or.inl (gg_at 515 (by decide +kernel)))
theorem kJ2_71 : sk_cl RJ2 71 MJ2_getChar_3b067 2 false := cl_s aJ2_getChar_3b067 iniRJ2 dsJ2_getChar_3b067 (by decide) stJ2_getChar_3b067 (Or.inl (gg_at 516 (by decide +kernel)))
theorem kX3_76 : sk_cl RX3 76 MX3_readDenied 1 true := cl_v aX3_readDenied iniRX3 dsX3_readDenied (by decide) viX3_readDenied vsX3_readDenied (Or.inl (gg_at 525 (by decide +kernel)))
theorem kX3_79 : sk_cl RX3 79 MX3_readBracketed 1 true := cl_v aX3_readBracketed iniRX3 dsX3_readBracketed (by decide) viX3_readBracketed vsX3_readBracketed (Or.inl (gg_at 529 (by decide +kernel)))
theorem kX3_59 : sk_cl RX3 59 MX3_levelOf 1 false := cl_s aX3_levelOf iniRX3 dsX3_levelOf (by decide) stX3_levelOf (Or.inl (gg_at 533 (by decide +kernel)))
theorem kX7_138 : sk_cl RX7 138 MX1_take 2 true := cl_v aX1_take iniRX1 dsX1_take (by decide) viX1_take vsX1_take (Or.inr ⟨"PromisedFish", nn_at 454 (by decide +kernel)⟩)
theorem blX1_18 : Cond.methodLink RX1 18 Lib.Math.min.name ∈ gg_W := gg_at 540 (by decide +kernel)
theorem blX1_32 : Cond.methodLink RX1 32 arraycopyName ∈ gg_W := gg_at 541 (by decide +kernel)
theorem kL_58 : sk_cl RL 58 MX7_untell 1 true := cl_v aX7_untell iniRX7 dsX7_untell (by decide) viX7_untell vsX7_untell (Or.inl (gg_at 543 (by decide +kernel)))
theorem kL_62 : sk_cl RL 62 MX7_law 4 true := cl_v aX7_law iniRX7 dsX7_law (by decide) viX7_law vsX7_law (Or.inl (gg_at 547 (by decide +kernel)))
theorem kX7_148 : sk_cl RX7 148 MX1_gives 3 true := cl_v aX1_gives iniRX1 dsX1_gives (by decide) viX1_gives vsX1_gives (Or.inr ⟨"PromisedFish", nn_at 469 (by decide +kernel)⟩)
theorem kL_67 : sk_cl RL 67 MX7_tally 0 true := cl_v aX7_tally iniRX7 dsX7_tally (by decide) viX7_tally vsX7_tally (Or.inl (gg_at 552 (by decide +kernel)))
theorem kX7_152 : sk_cl RX7 152 MX2_settle 0 true := cl_v aX2_settle iniRX2 dsX2_settle (by decide) viX2_settle vsX2_settle (Or.inr ⟨"PromisedFish", nn_at 474 (by decide +kernel)⟩)
theorem kX2_99 : sk_cl RX2 99 MX2_caught 4 true := cl_v aX2_caught iniRX2 dsX2_caught (by decide) viX2_caught vsX2_caught (Or.inl (gg_at 560 (by decide +kernel)))
theorem kX2_95 : sk_cl RX2 95 MX2_landed 5 true := cl_v aX2_landed iniRX2 dsX2_landed (by decide) viX2_landed vsX2_landed (Or.inl (gg_at 564 (by decide +kernel)))
theorem blX2_113 : Cond.methodLink RX2 113 Lib.Math.max.name ∈ gg_W := gg_at 565 (by decide +kernel)
theorem kX2_117 : sk_cl RX2 117 MX0_eats 1 true := cl_v aX0_eats iniRX0 dsX0_eats (by decide) viX0_eats vsX0_eats (Or.inr ⟨"PromisedFish", nn_at 485 (by decide +kernel)⟩)
theorem kX2_121 : sk_cl RX2 121 MX7_held 3 false := cl_s aX7_held iniRX7 dsX7_held (by decide) stX7_held (Or.inr ⟨"PromisedFish", nn_at 486 (by decide +kernel)⟩)
theorem kL_72 : sk_cl RL 72 MX7_loose 1 true := cl_v aX7_loose iniRX7 dsX7_loose (by decide) viX7_loose vsX7_loose (Or.inl (gg_at 569 (by decide +kernel)))
theorem kX7_156 : sk_cl RX7 156 MX2_dayByDraws 0 true := cl_v aX2_dayByDraws iniRX2 dsX2_dayByDraws (by decide) viX2_dayByDraws vsX2_dayByDraws (Or.inr ⟨"PromisedFish", nn_at 491 (by decide +kernel)⟩)
theorem kX2_124 : sk_cl RX2 124 MX2_draw 0 true := cl_v aX2_draw iniRX2 dsX2_draw (by decide) viX2_draw vsX2_draw (Or.inl (gg_at 577 (by decide +kernel)))
theorem kX2_128 : sk_cl RX2 128 MX2_promise 2 true := cl_v aX2_promise iniRX2 dsX2_promise (by decide) viX2_promise vsX2_promise (Or.inl (gg_at 582 (by decide +kernel)))
theorem kX2_131 : sk_cl RX2 131 MX2_settle 0 true := cl_v aX2_settle iniRX2 dsX2_settle (by decide) viX2_settle vsX2_settle (Or.inl (gg_at 583 (by decide +kernel)))
theorem kL_76 : sk_cl RL 76 MX7_seed 1 true := cl_v aX7_seed iniRX7 dsX7_seed (by decide) viX7_seed vsX7_seed (Or.inl (gg_at 584 (by decide +kernel)))
theorem kL_80 : sk_cl RL 80 MX7_catches 1 true := cl_v aX7_catches iniRX7 dsX7_catches (by decide) viX7_catches vsX7_catches (Or.inl (gg_at 588 (by decide +kernel)))
theorem kX7_162 : sk_cl RX7 162 MX2_caughtNow 1 true := cl_v aX2_caughtNow iniRX2 dsX2_caughtNow (by decide) viX2_caughtNow vsX2_caughtNow (Or.inr ⟨"PromisedFish", nn_at 510 (by decide +kernel)⟩)
theorem kL_84 : sk_cl RL 84 MX7_safe 1 true := cl_v aX7_safe iniRX7 dsX7_safe (by decide) viX7_safe vsX7_safe (Or.inl (gg_at 596 (by decide +kernel)))
theorem kX7_165 : sk_cl RX7 165 MX5_safest 2 false := cl_s aX5_safest iniRX5 dsX5_safest (by decide) stX5_safest (Or.inr ⟨"PromisedFish", nn_at 518 (by decide +kernel)⟩)
theorem kX5_9 : sk_cl RX5 9 MX5_isSafe 3 false := cl_s aX5_isSafe iniRX5 dsX5_isSafe (by decide) stX5_isSafe (Or.inl (gg_at 603 (by decide +kernel)))
theorem kX5_21 : sk_cl RX5 21 MX2_caught 4 true := cl_v aX2_caught iniRX2 dsX2_caught (by decide) viX2_caught vsX2_caught (Or.inr ⟨"PromisedFish", nn_at 524 (by decide +kernel)⟩)
theorem kL_88 : sk_cl RL 88 MX7_best 2 true := cl_v aX7_best iniRX7 dsX7_best (by decide) viX7_best vsX7_best (Or.inl (gg_at 607 (by decide +kernel)))
theorem kX7_171 : sk_cl RX7 171 MX5_bestToSell 2 false := cl_s aX5_bestToSell iniRX5 dsX5_bestToSell (by decide) stX5_bestToSell (Or.inr ⟨"PromisedFish", nn_at 529 (by decide +kernel)⟩)
theorem kX5_25 : sk_cl RX5 25 MX5_gain 3 false := cl_s aX5_gain iniRX5 dsX5_gain (by decide) stX5_gain (Or.inl (gg_at 614 (by decide +kernel)))
theorem kX5_29 : sk_cl RX5 29 MX2_coins 2 true := cl_v aX2_coins iniRX2 dsX2_coins (by decide) viX2_coins vsX2_coins (Or.inr ⟨"PromisedFish", nn_at 535 (by decide +kernel)⟩)
theorem blX5_33 : Cond.methodLink RX5 33 Lib.Math.max.name ∈ gg_W := gg_at 618 (by decide +kernel)
theorem kX7_174 : sk_cl RX7 174 MX5_gain 3 false := cl_s aX5_gain iniRX5 dsX5_gain (by decide) stX5_gain (Or.inr ⟨"PromisedFish", nn_at 537 (by decide +kernel)⟩)
theorem kL_92 : sk_cl RL 92 MX7_agrees 2 true := cl_v aX7_agrees iniRX7 dsX7_agrees (by decide) viX7_agrees vsX7_agrees (Or.inl (gg_at 620 (by decide +kernel)))
theorem kX7_178 : sk_cl RX7 178 MX5_howManyAgree 2 false := cl_s aX5_howManyAgree iniRX5 dsX5_howManyAgree (by decide) stX5_howManyAgree (Or.inr ⟨"PromisedFish", nn_at 542 (by decide +kernel)⟩)
theorem kX5_45 : sk_cl RX5 45 MX5_agreesWithItself 3 false := cl_s aX5_agreesWithItself iniRX5 dsX5_agreesWithItself (by decide) stX5_agreesWithItself (Or.inl (gg_at 627 (by decide +kernel)))
theorem kX7_181 : sk_cl RX7 181 MX5_leastThatAgrees 2 false := cl_s aX5_leastThatAgrees iniRX5 dsX5_leastThatAgrees (by decide) stX5_leastThatAgrees (Or.inr ⟨"PromisedFish", nn_at 548 (by decide +kernel)⟩)
theorem kL_96 : sk_cl RL 96 MX7_needs 1 true := cl_v aX7_needs iniRX7 dsX7_needs (by decide) viX7_needs vsX7_needs (Or.inl (gg_at 634 (by decide +kernel)))
theorem kX7_185 : sk_cl RX7 185 MX5_fewestBoats 1 false := cl_s aX5_fewestBoats iniRX5 dsX5_fewestBoats (by decide) stX5_fewestBoats (Or.inr ⟨"PromisedFish", nn_at 556 (by decide +kernel)⟩)
theorem kX5_51 : sk_cl RX5 51 MJ6_bitCount_0f7a4 1 false := cl_s aJ6_bitCount_0f7a4 iniRJ6 dsJ6_bitCount_0f7a4 (by decide) stJ6_bitCount_0f7a4 (Or.inl (gg_at 641 (by decide +kernel)))
theorem kX5_57 : sk_cl RX5 57 MX5_isEnough 2 false := cl_s aX5_isEnough iniRX5 dsX5_isEnough (by decide) stX5_isEnough (Or.inl (gg_at 647 (by decide +kernel)))
theorem kX5_64 : sk_cl RX5 64 MX2_landed 5 true := cl_v aX2_landed iniRX2 dsX2_landed (by decide) viX2_landed vsX2_landed (Or.inr ⟨"PromisedFish", nn_at 568 (by decide +kernel)⟩)
theorem kX7_189 : sk_cl RX7 189 MJ6_bitCount_0f7a4 1 false := cl_s aJ6_bitCount_0f7a4 iniRJ6 dsJ6_bitCount_0f7a4 (by decide) stJ6_bitCount_0f7a4 (Or.inl (gg_at 651 (by decide +kernel)))
theorem kL_100 : sk_cl RL 100 MX7_soonest 2 true := cl_v aX7_soonest iniRX7 dsX7_soonest (by decide) viX7_soonest vsX7_soonest (Or.inl (gg_at 652 (by decide +kernel)))
theorem kX7_194 : sk_cl RX7 194 MX5_daysUntil 3 false := cl_s aX5_daysUntil iniRX5 dsX5_daysUntil (by decide) stX5_daysUntil (Or.inr ⟨"PromisedFish", nn_at 574 (by decide +kernel)⟩)
theorem kL_104 : sk_cl RL 104 MX7_odds 3 true := cl_v aX7_odds iniRX7 dsX7_odds (by decide) viX7_odds vsX7_odds (Or.inl (gg_at 659 (by decide +kernel)))
theorem kX7_197 : sk_cl RX7 197 MX5_seasThatDo 3 false := cl_s aX5_seasThatDo iniRX5 dsX5_seasThatDo (by decide) stX5_seasThatDo (Or.inr ⟨"PromisedFish", nn_at 581 (by decide +kernel)⟩)
theorem kX7_200 : sk_cl RX7 200 MX5_partOfTenths 2 false := cl_s aX5_partOfTenths iniRX5 dsX5_partOfTenths (by decide) stX5_partOfTenths (Or.inr ⟨"PromisedFish", nn_at 584 (by decide +kernel)⟩)
theorem kL_109 : sk_cl RL 109 MX7_mean 2 true := cl_v aX7_mean iniRX7 dsX7_mean (by decide) viX7_mean vsX7_mean (Or.inl (gg_at 669 (by decide +kernel)))
theorem kX7_203 : sk_cl RX7 203 MX5_caughtInAllSeas 2 false := cl_s aX5_caughtInAllSeas iniRX5 dsX5_caughtInAllSeas (by decide) stX5_caughtInAllSeas (Or.inr ⟨"PromisedFish", nn_at 591 (by decide +kernel)⟩)
theorem kL_113 : sk_cl RL 113 MX7_fits 2 true := cl_v aX7_fits iniRX7 dsX7_fits (by decide) viX7_fits vsX7_fits (Or.inl (gg_at 676 (by decide +kernel)))
theorem kX7_206 : sk_cl RX7 206 MX7_isSheet 1 false := cl_s aX7_isSheet iniRX7 dsX7_isSheet (by decide) stX7_isSheet (Or.inl (gg_at 680 (by decide +kernel)))
theorem kX7_209 : sk_cl RX7 209 MX4_isMissing 0 true := cl_v aX4_isMissing iniRX4 dsX4_isMissing (by decide) viX4_isMissing vsX4_isMissing (Or.inr ⟨"PromisedFish", nn_at 601 (by decide +kernel)⟩)
theorem kX7_213 : sk_cl RX7 213 MX5_seasThatFit 2 false := cl_s aX5_seasThatFit iniRX5 dsX5_seasThatFit (by decide) stX5_seasThatFit (Or.inr ⟨"PromisedFish", nn_at 605 (by decide +kernel)⟩)
theorem kX5_68 : sk_cl RX5 68 MX5_isSoBy 3 false := cl_s aX5_isSoBy iniRX5 dsX5_isSoBy (by decide) stX5_isSoBy (Or.inl (gg_at 690 (by decide +kernel)))
theorem kX7_217 : sk_cl RX7 217 MJ6_numberOfTrailingZeros_0f7a4 1 false := cl_s aJ6_numberOfTrailingZeros_0f7a4 iniRJ6 dsJ6_numberOfTrailingZeros_0f7a4 (by decide) stJ6_numberOfTrailingZeros_0f7a4 (Or.inl (gg_at 693 (by decide +kernel)))
theorem kL_117 : sk_cl RL 117 MX7_voice 3 true := cl_v aX7_voice iniRX7 dsX7_voice (by decide) viX7_voice vsX7_voice (Or.inl (gg_at 697 (by decide +kernel)))
theorem kX7_220 : sk_cl RX7 220 MX6_hear 4 true := cl_v aX6_hear iniRX6 dsX6_hear (by decide) viX6_hear vsX6_hear (Or.inr ⟨"PromisedFish", nn_at 619 (by decide +kernel)⟩)
theorem kX6_36 : sk_cl RX6 36 MX6_speak 4 true := cl_v aX6_speak iniRX6 dsX6_speak (by decide) viX6_speak vsX6_speak (Or.inl (gg_at 705 (by decide +kernel)))
theorem kX6_46 : sk_cl RX6 46 MX6_say 4 true := cl_v aX6_say iniRX6 dsX6_say (by decide) viX6_say vsX6_say (Or.inl (gg_at 712 (by decide +kernel)))
theorem kX6_49 : sk_cl RX6 49 MX6_part 1 true := cl_v aX6_part iniRX6 dsX6_part (by decide) viX6_part vsX6_part (Or.inl (gg_at 716 (by decide +kernel)))
theorem kL_121 : sk_cl RL 121 MX7_body 1 true := cl_v aX7_body iniRX7 dsX7_body (by decide) viX7_body vsX7_body (Or.inl (gg_at 721 (by decide +kernel)))
theorem kL_125 : sk_cl RL 125 MX7_sheet 3 true := cl_v aX7_sheet iniRX7 dsX7_sheet (by decide) viX7_sheet vsX7_sheet (Or.inl (gg_at 725 (by decide +kernel)))
theorem kX7_234 : sk_cl RX7 234 MX4_lay 2 true := cl_v aX4_lay iniRX4 dsX4_lay (by decide) viX4_lay vsX4_lay (Or.inr ⟨"PromisedFish", nn_at 647 (by decide +kernel)⟩)
theorem kX4_22 : sk_cl RX4 22 MJ7_fill_53178 2 false := cl_s aJ7_fill_53178 iniRJ7 dsJ7_fill_53178 (by decide) stJ7_fill_53178 (Or.inl (gg_at 733 (by decide +kernel)))
theorem kL_129 : sk_cl RL 129 MX7_put 3 true := cl_v aX7_put iniRX7 dsX7_put (by decide) viX7_put vsX7_put (Or.inl (gg_at 734 (by decide +kernel)))
theorem kX7_244 : sk_cl RX7 244 MX4_lowestBits 1 true := cl_v aX4_lowestBits iniRX4 dsX4_lowestBits (by decide) viX4_lowestBits vsX4_lowestBits (Or.inr ⟨"PromisedFish", nn_at 656 (by decide +kernel)⟩)
theorem kL_133 : sk_cl RL 133 MX7_move 5 true := cl_v aX7_move iniRX7 dsX7_move (by decide) viX7_move vsX7_move (Or.inl (gg_at 743 (by decide +kernel)))
theorem kX7_250 : sk_cl RX7 250 MX4_has 2 true := cl_v aX4_has iniRX4 dsX4_has (by decide) viX4_has vsX4_has (Or.inr ⟨"PromisedFish", nn_at 665 (by decide +kernel)⟩)
theorem blX7_253 : Cond.methodLink RX7 253 arraycopyName ∈ gg_W := gg_at 751 (by decide +kernel)
theorem kL_138 : sk_cl RL 138 MX7_prices 1 true := cl_v aX7_prices iniRX7 dsX7_prices (by decide) viX7_prices vsX7_prices (Or.inl (gg_at 752 (by decide +kernel)))
theorem kL_142 : sk_cl RL 142 MX7_judge 1 true := cl_v aX7_judge iniRX7 dsX7_judge (by decide) viX7_judge vsX7_judge (Or.inl (gg_at 756 (by decide +kernel)))
theorem kL_146 : sk_cl RL 146 MX7_image 0 true := cl_v aX7_image iniRX7 dsX7_image (by decide) viX7_image vsX7_image (Or.inl (gg_at 760 (by decide +kernel)))
theorem kX7_264 : sk_cl RX7 264 MX2_takeFrom 1 true := cl_v aX2_takeFrom iniRX2 dsX2_takeFrom (by decide) viX2_takeFrom vsX2_takeFrom (Or.inr ⟨"PromisedFish", nn_at 682 (by decide +kernel)⟩)
theorem blX2_51 : Cond.methodLink RX2 51 arraycopyName ∈ gg_W := gg_at 768 (by decide +kernel)
theorem kX2_57 : sk_cl RX2 57 MX0_takeFrom 1 true := cl_v aX0_takeFrom iniRX0 dsX0_takeFrom (by decide) viX0_takeFrom vsX0_takeFrom (Or.inr ⟨"PromisedFish", nn_at 687 (by decide +kernel)⟩)
theorem kX2_61 : sk_cl RX2 61 MX1_takeFrom 1 true := cl_v aX1_takeFrom iniRX1 dsX1_takeFrom (by decide) viX1_takeFrom vsX1_takeFrom (Or.inr ⟨"PromisedFish", nn_at 691 (by decide +kernel)⟩)
theorem kX1_42 : sk_cl RX1 42 MX1_take 2 true := cl_v aX1_take iniRX1 dsX1_take (by decide) viX1_take vsX1_take (Or.inl (gg_at 777 (by decide +kernel)))
theorem kL_150 : sk_cl RL 150 MX7_restore 0 true := cl_v aX7_restore iniRX7 dsX7_restore (by decide) viX7_restore vsX7_restore (Or.inl (gg_at 778 (by decide +kernel)))
theorem kL_154 : sk_cl RL 154 MX7_tell 1 true := cl_v aX7_tell iniRX7 dsX7_tell (by decide) viX7_tell vsX7_tell (Or.inl (gg_at 782 (by decide +kernel)))
theorem kL_158 : sk_cl RL 158 MX7_check 0 true := cl_v aX7_check iniRX7 dsX7_check (by decide) viX7_check vsX7_check (Or.inl (gg_at 786 (by decide +kernel)))
theorem kL_162 : sk_cl RL 162 MX7_count 1 true := cl_v aX7_count iniRX7 dsX7_count (by decide) viX7_count vsX7_count (Or.inl (gg_at 790 (by decide +kernel)))
theorem kL_166 : sk_cl RL 166 MX7_told 1 true := cl_v aX7_told iniRX7 dsX7_told (by decide) viX7_told vsX7_told (Or.inl (gg_at 794 (by decide +kernel)))
theorem kL_17 : sk_cl RL 17 MX8_boat 1 true := cl_v aX8_boat iniRX8 dsX8_boat (by decide) viX8_boat vsX8_boat (Or.inl (gg_at 865 (by decide +kernel)))
theorem kX8_69 : sk_cl RX8 69 MX8_isKm 1 false := cl_s aX8_isKm iniRX8 dsX8_isKm (by decide) stX8_isKm (Or.inl (gg_at 869 (by decide +kernel)))
theorem kX8_47 : sk_cl RX8 47 MX8_in 3 false := cl_s aX8_in iniRX8 dsX8_in (by decide) stX8_in (Or.inl (gg_at 872 (by decide +kernel)))
theorem kX8_74 : sk_cl RX8 74 MX8_error 1 true := cl_v aX8_error iniRX8 dsX8_error (by decide) viX8_error vsX8_error (Or.inl (gg_at 876 (by decide +kernel)))
theorem kL_22 : sk_cl RL 22 MX8_boatIs 2 true := cl_v aX8_boatIs iniRX8 dsX8_boatIs (by decide) viX8_boatIs vsX8_boatIs (Or.inl (gg_at 882 (by decide +kernel)))
theorem kX8_79 : sk_cl RX8 79 MX8_isBoat 1 true := cl_v aX8_isBoat iniRX8 dsX8_isBoat (by decide) viX8_isBoat vsX8_isBoat (Or.inl (gg_at 886 (by decide +kernel)))
theorem kX8_51 : sk_cl RX8 51 MX8_of 2 true := cl_v aX8_of iniRX8 dsX8_of (by decide) viX8_of vsX8_of (Or.inl (gg_at 890 (by decide +kernel)))
theorem kX8_82 : sk_cl RX8 82 MX8_eatsOf 1 true := cl_v aX8_eatsOf iniRX8 dsX8_eatsOf (by decide) viX8_eatsOf vsX8_eatsOf (Or.inl (gg_at 894 (by decide +kernel)))
theorem kX8_62 : sk_cl RX8 62 MX8_landsOf 3 true := cl_v aX8_landsOf iniRX8 dsX8_landsOf (by decide) viX8_landsOf vsX8_landsOf (Or.inl (gg_at 898 (by decide +kernel)))
theorem kX8_55 : sk_cl RX8 55 MX8_haulsOf 2 true := cl_v aX8_haulsOf iniRX8 dsX8_haulsOf (by decide) viX8_haulsOf vsX8_haulsOf (Or.inl (gg_at 902 (by decide +kernel)))
theorem kX8_58 : sk_cl RX8 58 MX8_gives 4 true := cl_v aX8_gives iniRX8 dsX8_gives (by decide) viX8_gives vsX8_gives (Or.inl (gg_at 906 (by decide +kernel)))
theorem kX8_162 : sk_cl RX8 162 MX8_works 1 true := cl_v aX8_works iniRX8 dsX8_works (by decide) viX8_works vsX8_works (Or.inl (gg_at 910 (by decide +kernel)))
theorem kX8_159 : sk_cl RX8 159 MX8_twoOf 3 false := cl_s aX8_twoOf iniRX8 dsX8_twoOf (by decide) stX8_twoOf (Or.inl (gg_at 914 (by decide +kernel)))
theorem kX8_97 : sk_cl RX8 97 MX8_held 3 false := cl_s aX8_held iniRX8 dsX8_held (by decide) stX8_held (Or.inl (gg_at 917 (by decide +kernel)))
theorem kL_26 : sk_cl RL 26 MX8_become 2 true := cl_v aX8_become iniRX8 dsX8_become (by decide) viX8_become vsX8_become (Or.inl (gg_at 920 (by decide +kernel)))
theorem kX8_85 : sk_cl RX8 85 MX8_becomes 2 true := cl_v aX8_becomes iniRX8 dsX8_becomes (by decide) viX8_becomes vsX8_becomes (Or.inl (gg_at 924 (by decide +kernel)))
theorem kL_30 : sk_cl RL 30 MX8_as 2 true := cl_v aX8_as iniRX8 dsX8_as (by decide) viX8_as vsX8_as (Or.inl (gg_at 928 (by decide +kernel)))
theorem kL_34 : sk_cl RL 34 MX8_lose 2 true := cl_v aX8_lose iniRX8 dsX8_lose (by decide) viX8_lose vsX8_lose (Or.inl (gg_at 933 (by decide +kernel)))
theorem kL_38 : sk_cl RL 38 MX8_rises 1 true := cl_v aX8_rises iniRX8 dsX8_rises (by decide) viX8_rises vsX8_rises (Or.inl (gg_at 937 (by decide +kernel)))
theorem kL_42 : sk_cl RL 42 MX8_price 2 true := cl_v aX8_price iniRX8 dsX8_price (by decide) viX8_price vsX8_price (Or.inl (gg_at 941 (by decide +kernel)))
theorem kX8_89 : sk_cl RX8 89 MX8_isFish 1 false := cl_s aX8_isFish iniRX8 dsX8_isFish (by decide) stX8_isFish (Or.inl (gg_at 945 (by decide +kernel)))
theorem kL_46 : sk_cl RL 46 MX8_sell 2 true := cl_v aX8_sell iniRX8 dsX8_sell (by decide) viX8_sell vsX8_sell (Or.inl (gg_at 948 (by decide +kernel)))
theorem kX8_101 : sk_cl RX8 101 MX8_sells 2 true := cl_v aX8_sells iniRX8 dsX8_sells (by decide) viX8_sells vsX8_sells (Or.inl (gg_at 953 (by decide +kernel)))
theorem kX8_92 : sk_cl RX8 92 MX8_coinsFor 2 true := cl_v aX8_coinsFor iniRX8 dsX8_coinsFor (by decide) viX8_coinsFor vsX8_coinsFor (Or.inl (gg_at 957 (by decide +kernel)))
theorem kL_53 : sk_cl RL 53 MX8_feed 2 true := cl_v aX8_feed iniRX8 dsX8_feed (by decide) viX8_feed vsX8_feed (Or.inl (gg_at 963 (by decide +kernel)))
theorem kL_57 : sk_cl RL 57 MX8_text 1 true := cl_v aX8_text iniRX8 dsX8_text (by decide) viX8_text vsX8_text (Or.inl (gg_at 968 (by decide +kernel)))
theorem kX8_134 : sk_cl RX8 134 MX8_any 0 true := cl_v aX8_any iniRX8 dsX8_any (by decide) viX8_any vsX8_any (Or.inl (gg_at 972 (by decide +kernel)))
theorem kX8_156 : sk_cl RX8 156 MX8_all 0 true := cl_v aX8_all iniRX8 dsX8_all (by decide) viX8_all vsX8_all (Or.inl (gg_at 976 (by decide +kernel)))
theorem kX8_153 : sk_cl RX8 153 MX8_compares 0 true := cl_v aX8_compares iniRX8 dsX8_compares (by decide) viX8_compares vsX8_compares (Or.inl (gg_at 980 (by decide +kernel)))
theorem kX8_150 : sk_cl RX8 150 MX8_sum 0 true := cl_v aX8_sum iniRX8 dsX8_sum (by decide) viX8_sum vsX8_sum (Or.inl (gg_at 984 (by decide +kernel)))
theorem kX8_147 : sk_cl RX8 147 MX8_times 0 true := cl_v aX8_times iniRX8 dsX8_times (by decide) viX8_times vsX8_times (Or.inl (gg_at 988 (by decide +kernel)))
theorem kX8_131 : sk_cl RX8 131 MX8_one 0 true := cl_v aX8_one iniRX8 dsX8_one (by decide) viX8_one vsX8_one (Or.inl (gg_at 992 (by decide +kernel)))
theorem kX8_116 : sk_cl RX8 116 MX8_look 0 true := cl_v aX8_look iniRX8 dsX8_look (by decide) viX8_look vsX8_look (Or.inl (gg_at 996 (by decide +kernel)))
theorem kX8_137 : sk_cl RX8 137 MX8_nameOf 1 true := cl_v aX8_nameOf iniRX8 dsX8_nameOf (by decide) viX8_nameOf vsX8_nameOf (Or.inl (gg_at 1000 (by decide +kernel)))
theorem kX8_124 : sk_cl RX8 124 MX8_lays 2 true := cl_v aX8_lays iniRX8 dsX8_lays (by decide) viX8_lays vsX8_lays (Or.inl (gg_at 1004 (by decide +kernel)))
theorem kX8_140 : sk_cl RX8 140 MX8_opens 1 true := cl_v aX8_opens iniRX8 dsX8_opens (by decide) viX8_opens vsX8_opens (Or.inl (gg_at 1008 (by decide +kernel)))
theorem kX8_144 : sk_cl RX8 144 MX8_number 0 true := cl_v aX8_number iniRX8 dsX8_number (by decide) viX8_number vsX8_number (Or.inl (gg_at 1012 (by decide +kernel)))
theorem kL_61 : sk_cl RL 61 MX8_untell 1 true := cl_v aX8_untell iniRX8 dsX8_untell (by decide) viX8_untell vsX8_untell (Or.inl (gg_at 1016 (by decide +kernel)))
theorem kL_66 : sk_cl RL 66 MX8_law 4 true := cl_v aX8_law iniRX8 dsX8_law (by decide) viX8_law vsX8_law (Or.inl (gg_at 1020 (by decide +kernel)))
theorem kL_71 : sk_cl RL 71 MX8_tally 0 true := cl_v aX8_tally iniRX8 dsX8_tally (by decide) viX8_tally vsX8_tally (Or.inl (gg_at 1024 (by decide +kernel)))
theorem kX8_171 : sk_cl RX8 171 MX8_tallies 0 true := cl_v aX8_tallies iniRX8 dsX8_tallies (by decide) viX8_tallies vsX8_tallies (Or.inl (gg_at 1028 (by decide +kernel)))
theorem kX8_165 : sk_cl RX8 165 MX8_shortBy 2 true := cl_v aX8_shortBy iniRX8 dsX8_shortBy (by decide) viX8_shortBy vsX8_shortBy (Or.inl (gg_at 1032 (by decide +kernel)))
theorem kX8_66 : sk_cl RX8 66 MX8_catchBy 2 true := cl_v aX8_catchBy iniRX8 dsX8_catchBy (by decide) viX8_catchBy vsX8_catchBy (Or.inl (gg_at 1036 (by decide +kernel)))
theorem kX8_168 : sk_cl RX8 168 MX8_pays 1 true := cl_v aX8_pays iniRX8 dsX8_pays (by decide) viX8_pays vsX8_pays (Or.inl (gg_at 1040 (by decide +kernel)))
theorem kL_75 : sk_cl RL 75 MX8_loose 1 true := cl_v aX8_loose iniRX8 dsX8_loose (by decide) viX8_loose vsX8_loose (Or.inl (gg_at 1044 (by decide +kernel)))
theorem kX8_178 : sk_cl RX8 178 MX8_drawn 0 true := cl_v aX8_drawn iniRX8 dsX8_drawn (by decide) viX8_drawn vsX8_drawn (Or.inl (gg_at 1048 (by decide +kernel)))
theorem kX8_175 : sk_cl RX8 175 MX8_draw 0 true := cl_v aX8_draw iniRX8 dsX8_draw (by decide) viX8_draw vsX8_draw (Or.inl (gg_at 1052 (by decide +kernel)))
theorem kL_79 : sk_cl RL 79 MX8_seed 1 true := cl_v aX8_seed iniRX8 dsX8_seed (by decide) viX8_seed vsX8_seed (Or.inl (gg_at 1057 (by decide +kernel)))
theorem kL_83 : sk_cl RL 83 MX8_catches 1 true := cl_v aX8_catches iniRX8 dsX8_catches (by decide) viX8_catches vsX8_catches (Or.inl (gg_at 1061 (by decide +kernel)))
theorem kX8_181 : sk_cl RX8 181 MX8_catchOf 1 true := cl_v aX8_catchOf iniRX8 dsX8_catchOf (by decide) viX8_catchOf vsX8_catchOf (Or.inl (gg_at 1065 (by decide +kernel)))
theorem kL_87 : sk_cl RL 87 MX8_safe 1 true := cl_v aX8_safe iniRX8 dsX8_safe (by decide) viX8_safe vsX8_safe (Or.inl (gg_at 1069 (by decide +kernel)))
theorem kX8_184 : sk_cl RX8 184 MX8_enough 2 true := cl_v aX8_enough iniRX8 dsX8_enough (by decide) viX8_enough vsX8_enough (Or.inl (gg_at 1073 (by decide +kernel)))
theorem kL_91 : sk_cl RL 91 MX8_best 2 true := cl_v aX8_best iniRX8 dsX8_best (by decide) viX8_best vsX8_best (Or.inl (gg_at 1077 (by decide +kernel)))
theorem kX8_187 : sk_cl RX8 187 MX8_shortest 2 true := cl_v aX8_shortest iniRX8 dsX8_shortest (by decide) viX8_shortest vsX8_shortest (Or.inl (gg_at 1081 (by decide +kernel)))
theorem kL_95 : sk_cl RL 95 MX8_agrees 2 true := cl_v aX8_agrees iniRX8 dsX8_agrees (by decide) viX8_agrees vsX8_agrees (Or.inl (gg_at 1085 (by decide +kernel)))
theorem kL_99 : sk_cl RL 99 MX8_needs 1 true := cl_v aX8_needs iniRX8 dsX8_needs (by decide) viX8_needs vsX8_needs (Or.inl (gg_at 1090 (by decide +kernel)))
theorem kX8_191 : sk_cl RX8 191 MX8_bits 1 false := cl_s aX8_bits iniRX8 dsX8_bits (by decide) stX8_bits (Or.inl (gg_at 1094 (by decide +kernel)))
theorem kX8_194 : sk_cl RX8 194 MX8_isEnough 1 true := cl_v aX8_isEnough iniRX8 dsX8_isEnough (by decide) viX8_isEnough vsX8_isEnough (Or.inl (gg_at 1097 (by decide +kernel)))
theorem kL_103 : sk_cl RL 103 MX8_soonest 2 true := cl_v aX8_soonest iniRX8 dsX8_soonest (by decide) viX8_soonest vsX8_soonest (Or.inl (gg_at 1101 (by decide +kernel)))
theorem kL_108 : sk_cl RL 108 MX8_odds 3 true := cl_v aX8_odds iniRX8 dsX8_odds (by decide) viX8_odds vsX8_odds (Or.inl (gg_at 1105 (by decide +kernel)))
theorem kX8_197 : sk_cl RX8 197 MX8_partOf 3 false := cl_s aX8_partOf iniRX8 dsX8_partOf (by decide) stX8_partOf (Or.inl (gg_at 1109 (by decide +kernel)))
theorem kL_112 : sk_cl RL 112 MX8_mean 2 true := cl_v aX8_mean iniRX8 dsX8_mean (by decide) viX8_mean vsX8_mean (Or.inl (gg_at 1112 (by decide +kernel)))
theorem kL_116 : sk_cl RL 116 MX8_fits 2 true := cl_v aX8_fits iniRX8 dsX8_fits (by decide) viX8_fits vsX8_fits (Or.inl (gg_at 1116 (by decide +kernel)))
theorem kX8_200 : sk_cl RX8 200 MX8_isSheet 1 false := cl_s aX8_isSheet iniRX8 dsX8_isSheet (by decide) stX8_isSheet (Or.inl (gg_at 1120 (by decide +kernel)))
theorem kX8_203 : sk_cl RX8 203 MX8_rightOf 1 true := cl_v aX8_rightOf iniRX8 dsX8_rightOf (by decide) viX8_rightOf vsX8_rightOf (Or.inl (gg_at 1123 (by decide +kernel)))
theorem kL_120 : sk_cl RL 120 MX8_voice 3 true := cl_v aX8_voice iniRX8 dsX8_voice (by decide) viX8_voice vsX8_voice (Or.inl (gg_at 1127 (by decide +kernel)))
theorem kX8_218 : sk_cl RX8 218 MX8_calls 2 true := cl_v aX8_calls iniRX8 dsX8_calls (by decide) viX8_calls vsX8_calls (Or.inl (gg_at 1131 (by decide +kernel)))
theorem kX8_215 : sk_cl RX8 215 MX8_smackCalls 2 true := cl_v aX8_smackCalls iniRX8 dsX8_smackCalls (by decide) viX8_smackCalls vsX8_smackCalls (Or.inl (gg_at 1135 (by decide +kernel)))
theorem kX8_209 : sk_cl RX8 209 MX8_begins 1 true := cl_v aX8_begins iniRX8 dsX8_begins (by decide) viX8_begins vsX8_begins (Or.inl (gg_at 1139 (by decide +kernel)))
theorem kX8_212 : sk_cl RX8 212 MX8_plainCalls 2 true := cl_v aX8_plainCalls iniRX8 dsX8_plainCalls (by decide) viX8_plainCalls vsX8_plainCalls (Or.inl (gg_at 1143 (by decide +kernel)))
theorem kX8_227 : sk_cl RX8 227 MX8_hauls 2 true := cl_v aX8_hauls iniRX8 dsX8_hauls (by decide) viX8_hauls vsX8_hauls (Or.inl (gg_at 1147 (by decide +kernel)))
theorem kX8_224 : sk_cl RX8 224 MX8_skiffHauls 2 true := cl_v aX8_skiffHauls iniRX8 dsX8_skiffHauls (by decide) viX8_skiffHauls vsX8_skiffHauls (Or.inl (gg_at 1151 (by decide +kernel)))
theorem kX8_221 : sk_cl RX8 221 MX8_plainHauls 2 true := cl_v aX8_plainHauls iniRX8 dsX8_plainHauls (by decide) viX8_plainHauls vsX8_plainHauls (Or.inl (gg_at 1155 (by decide +kernel)))
theorem kX8_239 : sk_cl RX8 239 MX8_letsBy 2 true := cl_v aX8_letsBy iniRX8 dsX8_letsBy (by decide) viX8_letsBy vsX8_letsBy (Or.inl (gg_at 1159 (by decide +kernel)))
theorem kX8_230 : sk_cl RX8 230 MX8_plainLets 2 true := cl_v aX8_plainLets iniRX8 dsX8_plainLets (by decide) viX8_plainLets vsX8_plainLets (Or.inl (gg_at 1163 (by decide +kernel)))
theorem kX8_242 : sk_cl RX8 242 MX8_partsBy 2 true := cl_v aX8_partsBy iniRX8 dsX8_partsBy (by decide) viX8_partsBy vsX8_partsBy (Or.inl (gg_at 1167 (by decide +kernel)))
theorem kX8_236 : sk_cl RX8 236 MX8_plainParts 2 true := cl_v aX8_plainParts iniRX8 dsX8_plainParts (by decide) viX8_plainParts vsX8_plainParts (Or.inl (gg_at 1171 (by decide +kernel)))
theorem kL_124 : sk_cl RL 124 MX8_body 1 true := cl_v aX8_body iniRX8 dsX8_body (by decide) viX8_body vsX8_body (Or.inl (gg_at 1176 (by decide +kernel)))
theorem kL_128 : sk_cl RL 128 MX8_sheet 3 true := cl_v aX8_sheet iniRX8 dsX8_sheet (by decide) viX8_sheet vsX8_sheet (Or.inl (gg_at 1180 (by decide +kernel)))
theorem kL_132 : sk_cl RL 132 MX8_put 3 true := cl_v aX8_put iniRX8 dsX8_put (by decide) viX8_put vsX8_put (Or.inl (gg_at 1184 (by decide +kernel)))
theorem kX8_246 : sk_cl RX8 246 MX8_notThere 1 true := cl_v aX8_notThere iniRX8 dsX8_notThere (by decide) viX8_notThere vsX8_notThere (Or.inl (gg_at 1188 (by decide +kernel)))
theorem kL_137 : sk_cl RL 137 MX8_move 5 true := cl_v aX8_move iniRX8 dsX8_move (by decide) viX8_move vsX8_move (Or.inl (gg_at 1192 (by decide +kernel)))
theorem kX8_249 : sk_cl RX8 249 MX8_notMoved 5 true := cl_v aX8_notMoved iniRX8 dsX8_notMoved (by decide) viX8_notMoved vsX8_notMoved (Or.inl (gg_at 1196 (by decide +kernel)))
theorem kL_141 : sk_cl RL 141 MX8_prices 1 true := cl_v aX8_prices iniRX8 dsX8_prices (by decide) viX8_prices vsX8_prices (Or.inl (gg_at 1200 (by decide +kernel)))
theorem kL_145 : sk_cl RL 145 MX8_judge 1 true := cl_v aX8_judge iniRX8 dsX8_judge (by decide) viX8_judge vsX8_judge (Or.inl (gg_at 1204 (by decide +kernel)))
theorem kL_149 : sk_cl RL 149 MX8_image 0 true := cl_v aX8_image iniRX8 dsX8_image (by decide) viX8_image vsX8_image (Or.inl (gg_at 1208 (by decide +kernel)))
theorem kX8_253 : sk_cl RX8 253 MX8_copyAll 2 false := cl_s aX8_copyAll iniRX8 dsX8_copyAll (by decide) stX8_copyAll (Or.inl (gg_at 1212 (by decide +kernel)))
theorem kL_153 : sk_cl RL 153 MX8_restore 0 true := cl_v aX8_restore iniRX8 dsX8_restore (by decide) viX8_restore vsX8_restore (Or.inl (gg_at 1215 (by decide +kernel)))
theorem kL_157 : sk_cl RL 157 MX8_tell 1 true := cl_v aX8_tell iniRX8 dsX8_tell (by decide) viX8_tell vsX8_tell (Or.inl (gg_at 1219 (by decide +kernel)))
theorem kL_161 : sk_cl RL 161 MX8_check 0 true := cl_v aX8_check iniRX8 dsX8_check (by decide) viX8_check vsX8_check (Or.inl (gg_at 1223 (by decide +kernel)))
theorem kL_165 : sk_cl RL 165 MX8_count 1 true := cl_v aX8_count iniRX8 dsX8_count (by decide) viX8_count vsX8_count (Or.inl (gg_at 1227 (by decide +kernel)))
theorem kL_169 : sk_cl RL 169 MX8_told 1 true := cl_v aX8_told iniRX8 dsX8_told (by decide) viX8_told vsX8_told (Or.inl (gg_at 1231 (by decide +kernel)))
theorem uX0 : ∀ w ∈ u_ws RX0 TX0 3, w ∈ gg_W := fun w hw => List.mem_filter.mpr ⟨(by decide +kernel : ∀ w ∈ u_ws RX0 TX0 3, w ∈ lw_tbl) w hw, (by decide +kernel : ∀ w ∈ u_ws RX0 TX0 3, goodWord w = true) w hw⟩
theorem uX1 : ∀ w ∈ u_ws RX1 TX1 4, w ∈ gg_W := fun w hw => List.mem_filter.mpr ⟨(by decide +kernel : ∀ w ∈ u_ws RX1 TX1 4, w ∈ lw_tbl) w hw, (by decide +kernel : ∀ w ∈ u_ws RX1 TX1 4, goodWord w = true) w hw⟩
theorem uX2 : ∀ w ∈ u_ws RX2 TX2 15, w ∈ gg_W := fun w hw => List.mem_filter.mpr ⟨(by decide +kernel : ∀ w ∈ u_ws RX2 TX2 15, w ∈ lw_tbl) w hw, (by decide +kernel : ∀ w ∈ u_ws RX2 TX2 15, goodWord w = true) w hw⟩
theorem uX3 : ∀ w ∈ u_ws RX3 TX3 6, w ∈ gg_W := fun w hw => List.mem_filter.mpr ⟨(by decide +kernel : ∀ w ∈ u_ws RX3 TX3 6, w ∈ lw_tbl) w hw, (by decide +kernel : ∀ w ∈ u_ws RX3 TX3 6, goodWord w = true) w hw⟩
theorem uX4 : ∀ w ∈ u_ws RX4 TX4 3, w ∈ gg_W := fun w hw => List.mem_filter.mpr ⟨(by decide +kernel : ∀ w ∈ u_ws RX4 TX4 3, w ∈ lw_tbl) w hw, (by decide +kernel : ∀ w ∈ u_ws RX4 TX4 3, goodWord w = true) w hw⟩
theorem uX6 : ∀ w ∈ u_ws RX6 TX6 6, w ∈ gg_W := fun w hw => List.mem_filter.mpr ⟨(by decide +kernel : ∀ w ∈ u_ws RX6 TX6 6, w ∈ lw_tbl) w hw, (by decide +kernel : ∀ w ∈ u_ws RX6 TX6 6, goodWord w = true) w hw⟩
theorem uX7 : ∀ w ∈ u_ws RX7 TX7 7, w ∈ gg_W := fun w hw => List.mem_filter.mpr ⟨(by decide +kernel : ∀ w ∈ u_ws RX7 TX7 7, w ∈ lw_tbl) w hw, (by decide +kernel : ∀ w ∈ u_ws RX7 TX7 7, goodWord w = true) w hw⟩
theorem uX8 : ∀ w ∈ u_ws RX8 TX8 20, w ∈ gg_W := fun w hw => List.mem_filter.mpr ⟨(by decide +kernel : ∀ w ∈ u_ws RX8 TX8 20, w ∈ lw_tbl) w hw, (by decide +kernel : ∀ w ∈ u_ws RX8 TX8 20, goodWord w = true) w hw⟩
theorem fX6_15 : sk_fl RX6 15 0 0 := ⟨RX0, TX0, 3, rfl, uX0, by decide, Or.inr ⟨"PromisedFish", nn_at 44 (by decide +kernel)⟩⟩
theorem pX6_15 : sk_fp RX6 15 0 0 .int := ⟨RX0, TX0, 3, tyX0, rfl, uX0, by decide, Or.inr ⟨"PromisedFish", nn_at 44 (by decide +kernel)⟩, tyX0_ok, nmX0, rfl, by decide +kernel⟩
theorem fX0_9 : sk_fl RX0 9 0 0 := ⟨RX0, TX0, 3, rfl, uX0, by decide, Or.inl (gg_at 127 (by decide +kernel))⟩
theorem pX0_9 : sk_fp RX0 9 0 0 .int := ⟨RX0, TX0, 3, tyX0, rfl, uX0, by decide, Or.inl (gg_at 127 (by decide +kernel)), tyX0_ok, nmX0, rfl, by decide +kernel⟩
theorem fX7_78 : sk_fl RX7 78 0 0 := ⟨RX0, TX0, 3, rfl, uX0, by decide, Or.inr ⟨"PromisedFish", nn_at 46 (by decide +kernel)⟩⟩
theorem pX7_78 : sk_fp RX7 78 0 0 .int := ⟨RX0, TX0, 3, tyX0, rfl, uX0, by decide, Or.inr ⟨"PromisedFish", nn_at 46 (by decide +kernel)⟩, tyX0_ok, nmX0, rfl, by decide +kernel⟩
theorem fX6_22 : sk_fl RX6 22 0 1 := ⟨RX0, TX0, 3, rfl, uX0, by decide, Or.inr ⟨"PromisedFish", nn_at 47 (by decide +kernel)⟩⟩
theorem pX6_22 : sk_fp RX6 22 0 1 .int := ⟨RX0, TX0, 3, tyX0, rfl, uX0, by decide, Or.inr ⟨"PromisedFish", nn_at 47 (by decide +kernel)⟩, tyX0_ok, nmX0, rfl, by decide +kernel⟩
theorem fX0_15 : sk_fl RX0 15 0 1 := ⟨RX0, TX0, 3, rfl, uX0, by decide, Or.inl (gg_at 130 (by decide +kernel))⟩
theorem pX0_15 : sk_fp RX0 15 0 1 .int := ⟨RX0, TX0, 3, tyX0, rfl, uX0, by decide, Or.inl (gg_at 130 (by decide +kernel)), tyX0_ok, nmX0, rfl, by decide +kernel⟩
theorem fX7_81 : sk_fl RX7 81 0 1 := ⟨RX0, TX0, 3, rfl, uX0, by decide, Or.inr ⟨"PromisedFish", nn_at 49 (by decide +kernel)⟩⟩
theorem pX7_81 : sk_fp RX7 81 0 1 .int := ⟨RX0, TX0, 3, tyX0, rfl, uX0, by decide, Or.inr ⟨"PromisedFish", nn_at 49 (by decide +kernel)⟩, tyX0_ok, nmX0, rfl, by decide +kernel⟩
theorem fX7_68 : sk_fl RX7 68 0 2 := ⟨RX0, TX0, 3, rfl, uX0, by decide, Or.inr ⟨"PromisedFish", nn_at 50 (by decide +kernel)⟩⟩
theorem pX7_68 : sk_fp RX7 68 0 2 .int := ⟨RX0, TX0, 3, tyX0, rfl, uX0, by decide, Or.inr ⟨"PromisedFish", nn_at 50 (by decide +kernel)⟩, tyX0_ok, nmX0, rfl, by decide +kernel⟩
theorem fX2_85 : sk_fl RX2 85 0 2 := ⟨RX0, TX0, 3, rfl, uX0, by decide, Or.inr ⟨"PromisedFish", nn_at 51 (by decide +kernel)⟩⟩
theorem pX2_85 : sk_fp RX2 85 0 2 .int := ⟨RX0, TX0, 3, tyX0, rfl, uX0, by decide, Or.inr ⟨"PromisedFish", nn_at 51 (by decide +kernel)⟩, tyX0_ok, nmX0, rfl, by decide +kernel⟩
theorem fX0_18 : sk_fl RX0 18 0 2 := ⟨RX0, TX0, 3, rfl, uX0, by decide, Or.inl (gg_at 134 (by decide +kernel))⟩
theorem pX0_18 : sk_fp RX0 18 0 2 .int := ⟨RX0, TX0, 3, tyX0, rfl, uX0, by decide, Or.inl (gg_at 134 (by decide +kernel)), tyX0_ok, nmX0, rfl, by decide +kernel⟩
theorem fX1_9 : sk_fl RX1 9 1 0 := ⟨RX1, TX1, 4, rfl, uX1, by decide, Or.inl (gg_at 148 (by decide +kernel))⟩
theorem fX1_15 : sk_fl RX1 15 1 1 := ⟨RX1, TX1, 4, rfl, uX1, by decide, Or.inl (gg_at 149 (by decide +kernel))⟩
theorem fX1_28 : sk_fl RX1 28 1 2 := ⟨RX1, TX1, 4, rfl, uX1, by decide, Or.inl (gg_at 150 (by decide +kernel))⟩
theorem pX1_28 : sk_fp RX1 28 1 2 .int := ⟨RX1, TX1, 4, tyX1, rfl, uX1, by decide, Or.inl (gg_at 150 (by decide +kernel)), tyX1_ok, nmX1, rfl, by decide +kernel⟩
theorem fX1_38 : sk_fl RX1 38 1 3 := ⟨RX1, TX1, 4, rfl, uX1, by decide, Or.inl (gg_at 151 (by decide +kernel))⟩
theorem pX1_38 : sk_fp RX1 38 1 3 .boolean := ⟨RX1, TX1, 4, tyX1, rfl, uX1, by decide, Or.inl (gg_at 151 (by decide +kernel)), tyX1_ok, nmX1, rfl, by decide +kernel⟩
theorem fX7_144 : sk_fl RX7 144 1 3 := ⟨RX1, TX1, 4, rfl, uX1, by decide, Or.inr ⟨"PromisedFish", nn_at 70 (by decide +kernel)⟩⟩
theorem pX7_144 : sk_fp RX7 144 1 3 .boolean := ⟨RX1, TX1, 4, tyX1, rfl, uX1, by decide, Or.inr ⟨"PromisedFish", nn_at 70 (by decide +kernel)⟩, tyX1_ok, nmX1, rfl, by decide +kernel⟩
theorem fX2_9 : sk_fl RX2 9 2 0 := ⟨RX2, TX2, 15, rfl, uX2, by decide, Or.inl (gg_at 162 (by decide +kernel))⟩
theorem fX7_90 : sk_fl RX7 90 2 0 := ⟨RX2, TX2, 15, rfl, uX2, by decide, Or.inr ⟨"PromisedFish", nn_at 81 (by decide +kernel)⟩⟩
theorem fX5_61 : sk_fl RX5 61 2 0 := ⟨RX2, TX2, 15, rfl, uX2, by decide, Or.inr ⟨"PromisedFish", nn_at 82 (by decide +kernel)⟩⟩
theorem fX2_15 : sk_fl RX2 15 2 1 := ⟨RX2, TX2, 15, rfl, uX2, by decide, Or.inl (gg_at 165 (by decide +kernel))⟩
theorem fX5_38 : sk_fl RX5 38 2 1 := ⟨RX2, TX2, 15, rfl, uX2, by decide, Or.inr ⟨"PromisedFish", nn_at 84 (by decide +kernel)⟩⟩
theorem fX7_107 : sk_fl RX7 107 2 1 := ⟨RX2, TX2, 15, rfl, uX2, by decide, Or.inr ⟨"PromisedFish", nn_at 85 (by decide +kernel)⟩⟩
theorem fX2_20 : sk_fl RX2 20 2 2 := ⟨RX2, TX2, 15, rfl, uX2, by decide, Or.inl (gg_at 168 (by decide +kernel))⟩
theorem fX7_58 : sk_fl RX7 58 2 2 := ⟨RX2, TX2, 15, rfl, uX2, by decide, Or.inr ⟨"PromisedFish", nn_at 87 (by decide +kernel)⟩⟩
theorem fX2_26 : sk_fl RX2 26 2 3 := ⟨RX2, TX2, 15, rfl, uX2, by decide, Or.inl (gg_at 170 (by decide +kernel))⟩
theorem fX7_128 : sk_fl RX7 128 2 3 := ⟨RX2, TX2, 15, rfl, uX2, by decide, Or.inr ⟨"PromisedFish", nn_at 89 (by decide +kernel)⟩⟩
theorem fX2_30 : sk_fl RX2 30 2 4 := ⟨RX2, TX2, 15, rfl, uX2, by decide, Or.inl (gg_at 172 (by decide +kernel))⟩
theorem fX7_118 : sk_fl RX7 118 2 4 := ⟨RX2, TX2, 15, rfl, uX2, by decide, Or.inr ⟨"PromisedFish", nn_at 91 (by decide +kernel)⟩⟩
theorem fX2_33 : sk_fl RX2 33 2 5 := ⟨RX2, TX2, 15, rfl, uX2, by decide, Or.inl (gg_at 174 (by decide +kernel))⟩
theorem fX7_274 : sk_fl RX7 274 2 5 := ⟨RX2, TX2, 15, rfl, uX2, by decide, Or.inr ⟨"PromisedFish", nn_at 93 (by decide +kernel)⟩⟩
theorem fX7_53 : sk_fl RX7 53 2 6 := ⟨RX2, TX2, 15, rfl, uX2, by decide, Or.inr ⟨"PromisedFish", nn_at 94 (by decide +kernel)⟩⟩
theorem pX7_53 : sk_fp RX7 53 2 6 .int := ⟨RX2, TX2, 15, tyX2, rfl, uX2, by decide, Or.inr ⟨"PromisedFish", nn_at 94 (by decide +kernel)⟩, tyX2_ok, nmX2, rfl, by decide +kernel⟩
theorem fX2_64 : sk_fl RX2 64 2 6 := ⟨RX2, TX2, 15, rfl, uX2, by decide, Or.inl (gg_at 177 (by decide +kernel))⟩
theorem pX2_64 : sk_fp RX2 64 2 6 .int := ⟨RX2, TX2, 15, tyX2, rfl, uX2, by decide, Or.inl (gg_at 177 (by decide +kernel)), tyX2_ok, nmX2, rfl, by decide +kernel⟩
theorem fX5_48 : sk_fl RX5 48 2 6 := ⟨RX2, TX2, 15, rfl, uX2, by decide, Or.inr ⟨"PromisedFish", nn_at 96 (by decide +kernel)⟩⟩
theorem pX5_48 : sk_fp RX5 48 2 6 .int := ⟨RX2, TX2, 15, tyX2, rfl, uX2, by decide, Or.inr ⟨"PromisedFish", nn_at 96 (by decide +kernel)⟩, tyX2_ok, nmX2, rfl, by decide +kernel⟩
theorem fX2_67 : sk_fl RX2 67 2 7 := ⟨RX2, TX2, 15, rfl, uX2, by decide, Or.inl (gg_at 179 (by decide +kernel))⟩
theorem pX2_67 : sk_fp RX2 67 2 7 .int := ⟨RX2, TX2, 15, tyX2, rfl, uX2, by decide, Or.inl (gg_at 179 (by decide +kernel)), tyX2_ok, nmX2, rfl, by decide +kernel⟩
theorem fX7_93 : sk_fl RX7 93 2 7 := ⟨RX2, TX2, 15, rfl, uX2, by decide, Or.inr ⟨"PromisedFish", nn_at 98 (by decide +kernel)⟩⟩
theorem pX7_93 : sk_fp RX7 93 2 7 .int := ⟨RX2, TX2, 15, tyX2, rfl, uX2, by decide, Or.inr ⟨"PromisedFish", nn_at 98 (by decide +kernel)⟩, tyX2_ok, nmX2, rfl, by decide +kernel⟩
theorem fX5_42 : sk_fl RX5 42 2 7 := ⟨RX2, TX2, 15, rfl, uX2, by decide, Or.inr ⟨"PromisedFish", nn_at 99 (by decide +kernel)⟩⟩
theorem pX5_42 : sk_fp RX5 42 2 7 .int := ⟨RX2, TX2, 15, tyX2, rfl, uX2, by decide, Or.inr ⟨"PromisedFish", nn_at 99 (by decide +kernel)⟩, tyX2_ok, nmX2, rfl, by decide +kernel⟩
theorem fX2_70 : sk_fl RX2 70 2 8 := ⟨RX2, TX2, 15, rfl, uX2, by decide, Or.inl (gg_at 182 (by decide +kernel))⟩
theorem pX2_70 : sk_fp RX2 70 2 8 .int := ⟨RX2, TX2, 15, tyX2, rfl, uX2, by decide, Or.inl (gg_at 182 (by decide +kernel)), tyX2_ok, nmX2, rfl, by decide +kernel⟩
theorem fX5_15 : sk_fl RX5 15 2 8 := ⟨RX2, TX2, 15, rfl, uX2, by decide, Or.inr ⟨"PromisedFish", nn_at 101 (by decide +kernel)⟩⟩
theorem pX5_15 : sk_fp RX5 15 2 8 .int := ⟨RX2, TX2, 15, tyX2, rfl, uX2, by decide, Or.inr ⟨"PromisedFish", nn_at 101 (by decide +kernel)⟩, tyX2_ok, nmX2, rfl, by decide +kernel⟩
theorem fX7_84 : sk_fl RX7 84 2 8 := ⟨RX2, TX2, 15, rfl, uX2, by decide, Or.inr ⟨"PromisedFish", nn_at 102 (by decide +kernel)⟩⟩
theorem pX7_84 : sk_fp RX7 84 2 8 .int := ⟨RX2, TX2, 15, tyX2, rfl, uX2, by decide, Or.inr ⟨"PromisedFish", nn_at 102 (by decide +kernel)⟩, tyX2_ok, nmX2, rfl, by decide +kernel⟩
theorem fX2_73 : sk_fl RX2 73 2 9 := ⟨RX2, TX2, 15, rfl, uX2, by decide, Or.inl (gg_at 185 (by decide +kernel))⟩
theorem pX2_73 : sk_fp RX2 73 2 9 .int := ⟨RX2, TX2, 15, tyX2, rfl, uX2, by decide, Or.inl (gg_at 185 (by decide +kernel)), tyX2_ok, nmX2, rfl, by decide +kernel⟩
theorem fX7_277 : sk_fl RX7 277 2 9 := ⟨RX2, TX2, 15, rfl, uX2, by decide, Or.inr ⟨"PromisedFish", nn_at 104 (by decide +kernel)⟩⟩
theorem pX7_277 : sk_fp RX7 277 2 9 .int := ⟨RX2, TX2, 15, tyX2, rfl, uX2, by decide, Or.inr ⟨"PromisedFish", nn_at 104 (by decide +kernel)⟩, tyX2_ok, nmX2, rfl, by decide +kernel⟩
theorem fX2_76 : sk_fl RX2 76 2 10 := ⟨RX2, TX2, 15, rfl, uX2, by decide, Or.inl (gg_at 187 (by decide +kernel))⟩
theorem pX2_76 : sk_fp RX2 76 2 10 .int := ⟨RX2, TX2, 15, tyX2, rfl, uX2, by decide, Or.inl (gg_at 187 (by decide +kernel)), tyX2_ok, nmX2, rfl, by decide +kernel⟩
theorem fX7_280 : sk_fl RX7 280 2 10 := ⟨RX2, TX2, 15, rfl, uX2, by decide, Or.inr ⟨"PromisedFish", nn_at 106 (by decide +kernel)⟩⟩
theorem pX7_280 : sk_fp RX7 280 2 10 .int := ⟨RX2, TX2, 15, tyX2, rfl, uX2, by decide, Or.inr ⟨"PromisedFish", nn_at 106 (by decide +kernel)⟩, tyX2_ok, nmX2, rfl, by decide +kernel⟩
theorem fX2_36 : sk_fl RX2 36 2 11 := ⟨RX2, TX2, 15, rfl, uX2, by decide, Or.inl (gg_at 189 (by decide +kernel))⟩
theorem pX2_36 : sk_fp RX2 36 2 11 .int := ⟨RX2, TX2, 15, tyX2, rfl, uX2, by decide, Or.inl (gg_at 189 (by decide +kernel)), tyX2_ok, nmX2, rfl, by decide +kernel⟩
theorem fX7_283 : sk_fl RX7 283 2 11 := ⟨RX2, TX2, 15, rfl, uX2, by decide, Or.inr ⟨"PromisedFish", nn_at 108 (by decide +kernel)⟩⟩
theorem pX7_283 : sk_fp RX7 283 2 11 .int := ⟨RX2, TX2, 15, tyX2, rfl, uX2, by decide, Or.inr ⟨"PromisedFish", nn_at 108 (by decide +kernel)⟩, tyX2_ok, nmX2, rfl, by decide +kernel⟩
theorem fX2_79 : sk_fl RX2 79 2 12 := ⟨RX2, TX2, 15, rfl, uX2, by decide, Or.inl (gg_at 191 (by decide +kernel))⟩
theorem pX2_79 : sk_fp RX2 79 2 12 .int := ⟨RX2, TX2, 15, tyX2, rfl, uX2, by decide, Or.inl (gg_at 191 (by decide +kernel)), tyX2_ok, nmX2, rfl, by decide +kernel⟩
theorem fX7_115 : sk_fl RX7 115 2 12 := ⟨RX2, TX2, 15, rfl, uX2, by decide, Or.inr ⟨"PromisedFish", nn_at 110 (by decide +kernel)⟩⟩
theorem pX7_115 : sk_fp RX7 115 2 12 .int := ⟨RX2, TX2, 15, tyX2, rfl, uX2, by decide, Or.inr ⟨"PromisedFish", nn_at 110 (by decide +kernel)⟩, tyX2_ok, nmX2, rfl, by decide +kernel⟩
theorem fX2_82 : sk_fl RX2 82 2 13 := ⟨RX2, TX2, 15, rfl, uX2, by decide, Or.inl (gg_at 193 (by decide +kernel))⟩
theorem pX2_82 : sk_fp RX2 82 2 13 .int := ⟨RX2, TX2, 15, tyX2, rfl, uX2, by decide, Or.inl (gg_at 193 (by decide +kernel)), tyX2_ok, nmX2, rfl, by decide +kernel⟩
theorem fX7_271 : sk_fl RX7 271 2 13 := ⟨RX2, TX2, 15, rfl, uX2, by decide, Or.inr ⟨"PromisedFish", nn_at 112 (by decide +kernel)⟩⟩
theorem pX7_271 : sk_fp RX7 271 2 13 .int := ⟨RX2, TX2, 15, tyX2, rfl, uX2, by decide, Or.inr ⟨"PromisedFish", nn_at 112 (by decide +kernel)⟩, tyX2_ok, nmX2, rfl, by decide +kernel⟩
theorem fX2_40 : sk_fl RX2 40 2 14 := ⟨RX2, TX2, 15, rfl, uX2, by decide, Or.inl (gg_at 195 (by decide +kernel))⟩
theorem pX2_40 : sk_fp RX2 40 2 14 .int := ⟨RX2, TX2, 15, tyX2, rfl, uX2, by decide, Or.inl (gg_at 195 (by decide +kernel)), tyX2_ok, nmX2, rfl, by decide +kernel⟩
theorem fX7_159 : sk_fl RX7 159 2 14 := ⟨RX2, TX2, 15, rfl, uX2, by decide, Or.inr ⟨"PromisedFish", nn_at 114 (by decide +kernel)⟩⟩
theorem pX7_159 : sk_fp RX7 159 2 14 .int := ⟨RX2, TX2, 15, tyX2, rfl, uX2, by decide, Or.inr ⟨"PromisedFish", nn_at 114 (by decide +kernel)⟩, tyX2_ok, nmX2, rfl, by decide +kernel⟩
theorem fX3_9 : sk_fl RX3 9 3 0 := ⟨RX3, TX3, 6, rfl, uX3, by decide, Or.inl (gg_at 234 (by decide +kernel))⟩
theorem fX7_132 : sk_fl RX7 132 3 0 := ⟨RX3, TX3, 6, rfl, uX3, by decide, Or.inr ⟨"PromisedFish", nn_at 153 (by decide +kernel)⟩⟩
theorem fX3_44 : sk_fl RX3 44 3 1 := ⟨RX3, TX3, 6, rfl, uX3, by decide, Or.inl (gg_at 236 (by decide +kernel))⟩
theorem pX3_44 : sk_fp RX3 44 3 1 .int := ⟨RX3, TX3, 6, tyX3, rfl, uX3, by decide, Or.inl (gg_at 236 (by decide +kernel)), tyX3_ok, nmX3, rfl, by decide +kernel⟩
theorem fX7_135 : sk_fl RX7 135 3 1 := ⟨RX3, TX3, 6, rfl, uX3, by decide, Or.inr ⟨"PromisedFish", nn_at 155 (by decide +kernel)⟩⟩
theorem pX7_135 : sk_fp RX7 135 3 1 .int := ⟨RX3, TX3, 6, tyX3, rfl, uX3, by decide, Or.inr ⟨"PromisedFish", nn_at 155 (by decide +kernel)⟩, tyX3_ok, nmX3, rfl, by decide +kernel⟩
theorem fX3_15 : sk_fl RX3 15 3 2 := ⟨RX3, TX3, 6, rfl, uX3, by decide, Or.inl (gg_at 238 (by decide +kernel))⟩
theorem fX3_28 : sk_fl RX3 28 3 3 := ⟨RX3, TX3, 6, rfl, uX3, by decide, Or.inl (gg_at 239 (by decide +kernel))⟩
theorem pX3_28 : sk_fp RX3 28 3 3 .int := ⟨RX3, TX3, 6, tyX3, rfl, uX3, by decide, Or.inl (gg_at 239 (by decide +kernel)), tyX3_ok, nmX3, rfl, by decide +kernel⟩
theorem fX3_41 : sk_fl RX3 41 3 4 := ⟨RX3, TX3, 6, rfl, uX3, by decide, Or.inl (gg_at 240 (by decide +kernel))⟩
theorem pX3_41 : sk_fp RX3 41 3 4 .int := ⟨RX3, TX3, 6, tyX3, rfl, uX3, by decide, Or.inl (gg_at 240 (by decide +kernel)), tyX3_ok, nmX3, rfl, by decide +kernel⟩
theorem fX3_38 : sk_fl RX3 38 3 5 := ⟨RX3, TX3, 6, rfl, uX3, by decide, Or.inl (gg_at 241 (by decide +kernel))⟩
theorem pX3_38 : sk_fp RX3 38 3 5 .int := ⟨RX3, TX3, 6, tyX3, rfl, uX3, by decide, Or.inl (gg_at 241 (by decide +kernel)), tyX3_ok, nmX3, rfl, by decide +kernel⟩
theorem fX6_9 : sk_fl RX6 9 5 0 := ⟨RX6, TX6, 6, rfl, uX6, by decide, Or.inl (gg_at 261 (by decide +kernel))⟩
theorem fX7_231 : sk_fl RX7 231 5 0 := ⟨RX6, TX6, 6, rfl, uX6, by decide, Or.inr ⟨"PromisedFish", nn_at 180 (by decide +kernel)⟩⟩
theorem fX6_29 : sk_fl RX6 29 5 1 := ⟨RX6, TX6, 6, rfl, uX6, by decide, Or.inl (gg_at 263 (by decide +kernel))⟩
theorem pX6_29 : sk_fp RX6 29 5 1 .int := ⟨RX6, TX6, 6, tyX6, rfl, uX6, by decide, Or.inl (gg_at 263 (by decide +kernel)), tyX6_ok, nmX6, rfl, by decide +kernel⟩
theorem fX7_228 : sk_fl RX7 228 5 1 := ⟨RX6, TX6, 6, rfl, uX6, by decide, Or.inr ⟨"PromisedFish", nn_at 182 (by decide +kernel)⟩⟩
theorem pX7_228 : sk_fp RX7 228 5 1 .int := ⟨RX6, TX6, 6, tyX6, rfl, uX6, by decide, Or.inr ⟨"PromisedFish", nn_at 182 (by decide +kernel)⟩, tyX6_ok, nmX6, rfl, by decide +kernel⟩
theorem fX6_32 : sk_fl RX6 32 5 2 := ⟨RX6, TX6, 6, rfl, uX6, by decide, Or.inl (gg_at 265 (by decide +kernel))⟩
theorem pX6_32 : sk_fp RX6 32 5 2 .boolean := ⟨RX6, TX6, 6, tyX6, rfl, uX6, by decide, Or.inl (gg_at 265 (by decide +kernel)), tyX6_ok, nmX6, rfl, by decide +kernel⟩
theorem fX7_224 : sk_fl RX7 224 5 2 := ⟨RX6, TX6, 6, rfl, uX6, by decide, Or.inr ⟨"PromisedFish", nn_at 184 (by decide +kernel)⟩⟩
theorem pX7_224 : sk_fp RX7 224 5 2 .boolean := ⟨RX6, TX6, 6, tyX6, rfl, uX6, by decide, Or.inr ⟨"PromisedFish", nn_at 184 (by decide +kernel)⟩, tyX6_ok, nmX6, rfl, by decide +kernel⟩
theorem fX6_21 : sk_fl RX6 21 5 3 := ⟨RX6, TX6, 6, rfl, uX6, by decide, Or.inl (gg_at 267 (by decide +kernel))⟩
theorem pX6_21 : sk_fp RX6 21 5 3 .int := ⟨RX6, TX6, 6, tyX6, rfl, uX6, by decide, Or.inl (gg_at 267 (by decide +kernel)), tyX6_ok, nmX6, rfl, by decide +kernel⟩
theorem fX6_26 : sk_fl RX6 26 5 4 := ⟨RX6, TX6, 6, rfl, uX6, by decide, Or.inl (gg_at 268 (by decide +kernel))⟩
theorem pX6_26 : sk_fp RX6 26 5 4 .int := ⟨RX6, TX6, 6, tyX6, rfl, uX6, by decide, Or.inl (gg_at 268 (by decide +kernel)), tyX6_ok, nmX6, rfl, by decide +kernel⟩
theorem fX6_25 : sk_fl RX6 25 5 5 := ⟨RX6, TX6, 6, rfl, uX6, by decide, Or.inl (gg_at 269 (by decide +kernel))⟩
theorem pX6_25 : sk_fp RX6 25 5 5 .int := ⟨RX6, TX6, 6, tyX6, rfl, uX6, by decide, Or.inl (gg_at 269 (by decide +kernel)), tyX6_ok, nmX6, rfl, by decide +kernel⟩
theorem fX4_9 : sk_fl RX4 9 4 0 := ⟨RX4, TX4, 3, rfl, uX4, by decide, Or.inl (gg_at 290 (by decide +kernel))⟩
theorem fX5_77 : sk_fl RX5 77 4 0 := ⟨RX4, TX4, 3, rfl, uX4, by decide, Or.inr ⟨"PromisedFish", nn_at 209 (by decide +kernel)⟩⟩
theorem fX7_241 : sk_fl RX7 241 4 0 := ⟨RX4, TX4, 3, rfl, uX4, by decide, Or.inr ⟨"PromisedFish", nn_at 210 (by decide +kernel)⟩⟩
theorem fX4_15 : sk_fl RX4 15 4 1 := ⟨RX4, TX4, 3, rfl, uX4, by decide, Or.inl (gg_at 293 (by decide +kernel))⟩
theorem pX4_15 : sk_fp RX4 15 4 1 .int := ⟨RX4, TX4, 3, tyX4, rfl, uX4, by decide, Or.inl (gg_at 293 (by decide +kernel)), tyX4_ok, nmX4, rfl, by decide +kernel⟩
theorem fX7_247 : sk_fl RX7 247 4 1 := ⟨RX4, TX4, 3, rfl, uX4, by decide, Or.inr ⟨"PromisedFish", nn_at 212 (by decide +kernel)⟩⟩
theorem pX7_247 : sk_fp RX7 247 4 1 .int := ⟨RX4, TX4, 3, tyX4, rfl, uX4, by decide, Or.inr ⟨"PromisedFish", nn_at 212 (by decide +kernel)⟩, tyX4_ok, nmX4, rfl, by decide +kernel⟩
theorem fX4_19 : sk_fl RX4 19 4 2 := ⟨RX4, TX4, 3, rfl, uX4, by decide, Or.inl (gg_at 295 (by decide +kernel))⟩
theorem pX4_19 : sk_fp RX4 19 4 2 .int := ⟨RX4, TX4, 3, tyX4, rfl, uX4, by decide, Or.inl (gg_at 295 (by decide +kernel)), tyX4_ok, nmX4, rfl, by decide +kernel⟩
theorem fX5_72 : sk_fl RX5 72 4 2 := ⟨RX4, TX4, 3, rfl, uX4, by decide, Or.inr ⟨"PromisedFish", nn_at 214 (by decide +kernel)⟩⟩
theorem pX5_72 : sk_fp RX5 72 4 2 .int := ⟨RX4, TX4, 3, tyX4, rfl, uX4, by decide, Or.inr ⟨"PromisedFish", nn_at 214 (by decide +kernel)⟩, tyX4_ok, nmX4, rfl, by decide +kernel⟩
theorem fX7_238 : sk_fl RX7 238 4 2 := ⟨RX4, TX4, 3, rfl, uX4, by decide, Or.inr ⟨"PromisedFish", nn_at 215 (by decide +kernel)⟩⟩
theorem pX7_238 : sk_fp RX7 238 4 2 .int := ⟨RX4, TX4, 3, tyX4, rfl, uX4, by decide, Or.inr ⟨"PromisedFish", nn_at 215 (by decide +kernel)⟩, tyX4_ok, nmX4, rfl, by decide +kernel⟩
theorem fX7_12 : sk_fl RX7 12 6 0 := ⟨RX7, TX7, 7, rfl, uX7, by decide, Or.inl (gg_at 305 (by decide +kernel))⟩
theorem fX7_16 : sk_fl RX7 16 6 1 := ⟨RX7, TX7, 7, rfl, uX7, by decide, Or.inl (gg_at 306 (by decide +kernel))⟩
theorem fX7_22 : sk_fl RX7 22 6 2 := ⟨RX7, TX7, 7, rfl, uX7, by decide, Or.inl (gg_at 307 (by decide +kernel))⟩
theorem fX7_29 : sk_fl RX7 29 6 3 := ⟨RX7, TX7, 7, rfl, uX7, by decide, Or.inl (gg_at 308 (by decide +kernel))⟩
theorem fX7_35 : sk_fl RX7 35 6 4 := ⟨RX7, TX7, 7, rfl, uX7, by decide, Or.inl (gg_at 309 (by decide +kernel))⟩
theorem fX7_39 : sk_fl RX7 39 6 5 := ⟨RX7, TX7, 7, rfl, uX7, by decide, Or.inl (gg_at 310 (by decide +kernel))⟩
theorem fX7_268 : sk_fl RX7 268 6 6 := ⟨RX7, TX7, 7, rfl, uX7, by decide, Or.inl (gg_at 311 (by decide +kernel))⟩
theorem pX7_268 : sk_fp RX7 268 6 6 .int := ⟨RX7, TX7, 7, tyX7, rfl, uX7, by decide, Or.inl (gg_at 311 (by decide +kernel)), tyX7_ok, nmX7, rfl, by decide +kernel⟩
theorem gsX0_21 : sk_gs RX0 21 68 := ⟨("PromisedFish", "ABOVE", 68), List.mem_cons_self, rfl, Or.inr ⟨"PromisedFish", nn_at 314 (by decide +kernel)⟩⟩
theorem gsX6_40 : sk_gs RX6 40 69 := ⟨("PromisedFish$Voices", "BODIES", 69), List.mem_cons_of_mem _ List.mem_cons_self, rfl, Or.inl (gg_at 709 (by decide +kernel))⟩
theorem gsX6_43 : sk_gs RX6 43 68 := ⟨("PromisedFish", "ABOVE", 68), List.mem_cons_self, rfl, Or.inr ⟨"PromisedFish", nn_at 629 (by decide +kernel)⟩⟩
theorem fX8_9 : sk_fl RX8 9 7 0 := ⟨RX8, TX8, 20, rfl, uX8, by decide, Or.inl (gg_at 804 (by decide +kernel))⟩
theorem fX8_13 : sk_fl RX8 13 7 1 := ⟨RX8, TX8, 20, rfl, uX8, by decide, Or.inl (gg_at 805 (by decide +kernel))⟩
theorem fX8_257 : sk_fl RX8 257 7 2 := ⟨RX8, TX8, 20, rfl, uX8, by decide, Or.inl (gg_at 806 (by decide +kernel))⟩
theorem pX8_257 : sk_fp RX8 257 7 2 .int := ⟨RX8, TX8, 20, tyX8, rfl, uX8, by decide, Or.inl (gg_at 806 (by decide +kernel)), tyX8_ok, nmX8, rfl, by decide +kernel⟩
theorem fX8_16 : sk_fl RX8 16 7 3 := ⟨RX8, TX8, 20, rfl, uX8, by decide, Or.inl (gg_at 807 (by decide +kernel))⟩
theorem fX8_19 : sk_fl RX8 19 7 4 := ⟨RX8, TX8, 20, rfl, uX8, by decide, Or.inl (gg_at 808 (by decide +kernel))⟩
theorem fX8_22 : sk_fl RX8 22 7 5 := ⟨RX8, TX8, 20, rfl, uX8, by decide, Or.inl (gg_at 809 (by decide +kernel))⟩
theorem fX8_25 : sk_fl RX8 25 7 6 := ⟨RX8, TX8, 20, rfl, uX8, by decide, Or.inl (gg_at 810 (by decide +kernel))⟩
theorem fX8_28 : sk_fl RX8 28 7 7 := ⟨RX8, TX8, 20, rfl, uX8, by decide, Or.inl (gg_at 811 (by decide +kernel))⟩
theorem fX8_31 : sk_fl RX8 31 7 8 := ⟨RX8, TX8, 20, rfl, uX8, by decide, Or.inl (gg_at 812 (by decide +kernel))⟩
theorem fX8_34 : sk_fl RX8 34 7 9 := ⟨RX8, TX8, 20, rfl, uX8, by decide, Or.inl (gg_at 813 (by decide +kernel))⟩
theorem fX8_37 : sk_fl RX8 37 7 10 := ⟨RX8, TX8, 20, rfl, uX8, by decide, Or.inl (gg_at 814 (by decide +kernel))⟩
theorem fX8_110 : sk_fl RX8 110 7 11 := ⟨RX8, TX8, 20, rfl, uX8, by decide, Or.inl (gg_at 815 (by decide +kernel))⟩
theorem pX8_110 : sk_fp RX8 110 7 11 .int := ⟨RX8, TX8, 20, tyX8, rfl, uX8, by decide, Or.inl (gg_at 815 (by decide +kernel)), tyX8_ok, nmX8, rfl, by decide +kernel⟩
theorem fX8_106 : sk_fl RX8 106 7 12 := ⟨RX8, TX8, 20, rfl, uX8, by decide, Or.inl (gg_at 816 (by decide +kernel))⟩
theorem pX8_106 : sk_fp RX8 106 7 12 .int := ⟨RX8, TX8, 20, tyX8, rfl, uX8, by decide, Or.inl (gg_at 816 (by decide +kernel)), tyX8_ok, nmX8, rfl, by decide +kernel⟩
theorem fX8_128 : sk_fl RX8 128 7 13 := ⟨RX8, TX8, 20, rfl, uX8, by decide, Or.inl (gg_at 817 (by decide +kernel))⟩
theorem pX8_128 : sk_fp RX8 128 7 13 .int := ⟨RX8, TX8, 20, tyX8, rfl, uX8, by decide, Or.inl (gg_at 817 (by decide +kernel)), tyX8_ok, nmX8, rfl, by decide +kernel⟩
theorem fX8_120 : sk_fl RX8 120 7 14 := ⟨RX8, TX8, 20, rfl, uX8, by decide, Or.inl (gg_at 818 (by decide +kernel))⟩
theorem pX8_120 : sk_fp RX8 120 7 14 .boolean := ⟨RX8, TX8, 20, tyX8, rfl, uX8, by decide, Or.inl (gg_at 818 (by decide +kernel)), tyX8_ok, nmX8, rfl, by decide +kernel⟩
theorem fX8_113 : sk_fl RX8 113 7 15 := ⟨RX8, TX8, 20, rfl, uX8, by decide, Or.inl (gg_at 819 (by decide +kernel))⟩
theorem pX8_113 : sk_fp RX8 113 7 15 .int := ⟨RX8, TX8, 20, tyX8, rfl, uX8, by decide, Or.inl (gg_at 819 (by decide +kernel)), tyX8_ok, nmX8, rfl, by decide +kernel⟩
theorem fX8_40 : sk_fl RX8 40 7 16 := ⟨RX8, TX8, 20, rfl, uX8, by decide, Or.inl (gg_at 820 (by decide +kernel))⟩
theorem fX8_43 : sk_fl RX8 43 7 17 := ⟨RX8, TX8, 20, rfl, uX8, by decide, Or.inl (gg_at 821 (by decide +kernel))⟩
theorem fX8_206 : sk_fl RX8 206 7 18 := ⟨RX8, TX8, 20, rfl, uX8, by decide, Or.inl (gg_at 822 (by decide +kernel))⟩
theorem pX8_206 : sk_fp RX8 206 7 18 .int := ⟨RX8, TX8, 20, tyX8, rfl, uX8, by decide, Or.inl (gg_at 822 (by decide +kernel)), tyX8_ok, nmX8, rfl, by decide +kernel⟩
theorem fX8_233 : sk_fl RX8 233 7 19 := ⟨RX8, TX8, 20, rfl, uX8, by decide, Or.inl (gg_at 823 (by decide +kernel))⟩
theorem pX8_233 : sk_fp RX8 233 7 19 .boolean := ⟨RX8, TX8, 20, tyX8, rfl, uX8, by decide, Or.inl (gg_at 823 (by decide +kernel)), tyX8_ok, nmX8, rfl, by decide +kernel⟩
theorem cnX7_48 : Cond.constant RX7 48 (-1000000001) ∈ gg_W := gg_at 334 (by decide +kernel)
theorem cnX7_286 : Cond.constant RX7 286 (-1000000000) ∈ gg_W := gg_at 339 (by decide +kernel)
theorem cnX7_57 : Cond.constant RX7 57 (-1000000004) ∈ gg_W := gg_at 340 (by decide +kernel)
theorem cnX7_103 : Cond.constant RX7 103 (-1000000005) ∈ gg_W := gg_at 398 (by decide +kernel)
theorem cnX7_110 : Cond.constant RX7 110 (-1000000003) ∈ gg_W := gg_at 418 (by decide +kernel)
theorem cnX2_107 : Cond.constant RX2 107 (99999) ∈ gg_W := gg_at 427 (by decide +kernel)
theorem cnX2_116 : Cond.constant RX2 116 (-99999) ∈ gg_W := gg_at 566 (by decide +kernel)
theorem cnX2_134 : Cond.constant RX2 134 (1103515245) ∈ gg_W := gg_at 581 (by decide +kernel)
theorem cnX7_184 : Cond.constant RX7 184 (-1000000002) ∈ gg_W := gg_at 633 (by decide +kernel)
theorem cnJ6_265 : Cond.constant RJ6 265 (1431655765) ∈ gg_W := gg_at 644 (by decide +kernel)
theorem cnJ6_266 : Cond.constant RJ6 266 (858993459) ∈ gg_W := gg_at 645 (by decide +kernel)
theorem cnJ6_267 : Cond.constant RJ6 267 (252645135) ∈ gg_W := gg_at 646 (by decide +kernel)
theorem cnJ6_264 : Cond.constant RJ6 264 (65536) ∈ gg_W := gg_at 696 (by decide +kernel)
theorem cnX7_227 : Cond.constant RX7 227 (-1000000006) ∈ gg_W := gg_at 720 (by decide +kernel)
theorem cnX4_28 : Cond.constant RX4 28 (65535) ∈ gg_W := gg_at 742 (by decide +kernel)
theorem cnX8_73 : Cond.constant RX8 73 (-1000000001) ∈ gg_W := gg_at 875 (by decide +kernel)
theorem cnX8_46 : Cond.constant RX8 46 (-1000000000) ∈ gg_W := gg_at 880 (by decide +kernel)
theorem cnX8_78 : Cond.constant RX8 78 (-1000000004) ∈ gg_W := gg_at 881 (by decide +kernel)
theorem cnX8_88 : Cond.constant RX8 88 (-1000000005) ∈ gg_W := gg_at 932 (by decide +kernel)
theorem cnX8_100 : Cond.constant RX8 100 (-1000000003) ∈ gg_W := gg_at 952 (by decide +kernel)
theorem cnX8_95 : Cond.constant RX8 95 (-99999) ∈ gg_W := gg_at 961 (by decide +kernel)
theorem cnX8_96 : Cond.constant RX8 96 (99999) ∈ gg_W := gg_at 962 (by decide +kernel)
theorem cnX8_174 : Cond.constant RX8 174 (1103515245) ∈ gg_W := gg_at 1056 (by decide +kernel)
theorem cnX8_190 : Cond.constant RX8 190 (-1000000002) ∈ gg_W := gg_at 1089 (by decide +kernel)
theorem cnX8_245 : Cond.constant RX8 245 (-1000000006) ∈ gg_W := gg_at 1175 (by decide +kernel)
theorem cnX8_104 : Cond.constantLong RX8 104 (255) ∈ gg_W := gg_at 967 (by decide +kernel)
theorem cnL_47 : Cond.constantLong RL 47 (4294967295) ∈ gg_W := gg_at 1235 (by decide +kernel)
theorem mm_max_s : Cond.static Lib.Math.max.name ∈ gg_W := gg_at 379 (by decide +kernel)
theorem mm_max_c : Cond.code Lib.Math.max.name Lib.Math.max.code 2 (some .int) ∈ gg_W := gg_at 380 (by decide +kernel)
theorem mm_min_s : Cond.static Lib.Math.min.name ∈ gg_W := gg_at 376 (by decide +kernel)
theorem mm_min_c : Cond.code Lib.Math.min.name Lib.Math.min.code 2 (some .int) ∈ gg_W := gg_at 377 (by decide +kernel)
theorem mm_i : Cond.initialized "java/lang/Math" ∈ gg_W := gg_at 92 (by decide +kernel)
theorem ac_n : Cond.native arraycopyName ∈ gg_W := gg_at 448 (by decide +kernel)
theorem ac_s : Cond.static arraycopyName ∈ gg_W := gg_at 447 (by decide +kernel)
theorem ac_i : Cond.initialized "java/lang/System" ∈ gg_W := gg_at 93 (by decide +kernel)
end LINKS
end
section
section MORE
variable {l : Launch} {E : sk_V} {d : Nat} {M : sk_m} {pc : Nat} {L : List (Option Value)} {St : List Value} {h : sk_M} {Q : Option Value → sk_M → Prop}
theorem sk_S.getr {own : String} {i ci f a n r : Nat} {rs : List (Option Nat)} (hd : decode M.2.1 pc = .ok (.getfield i, 3)) (ho : M.1.cls = own) (hf : sk_fl own i ci f) (he : sk_e a = (1, ci, n, rs)) (hn : f < n) (hr : sk_rf rs f = some r) (k : sk_S l E d M (pc + 3) L (.ref r :: St) h Q) : sk_S l E d M pc L (.ref a :: St) h Q :=
  sk_S.getf hd ho hf he hn (v := .ref r) (by unfold sk_g; rw [hr]) k
theorem sk_S.geti {own : String} {i ci f a n : Nat} {rs : List (Option Nat)} (hd : decode M.2.1 pc = .ok (.getfield i, 3)) (ho : M.1.cls = own) (hf : sk_fl own i ci f) (he : sk_e a = (1, ci, n, rs)) (hn : f < n) (hr : sk_rf rs f = none) (k : sk_S l E d M (pc + 3) L (.int (h a f) :: St) h Q) : sk_S l E d M pc L (.ref a :: St) h Q :=
  sk_S.getf hd ho hf he hn (v := .int (h a f)) (by unfold sk_g; rw [hr]) k
/-- what a test answers -/
def bi (c : Prop) [Decidable c] : Int32 := if c then 1 else 0
theorem bi_t {c : Prop} [Decidable c] (q : c) : bi c = 1 := if_pos q
theorem bi_f {c : Prop} [Decidable c] (q : ¬ c) : bi c = 0 := if_neg q
theorem bi_cong {a b : Prop} [Decidable a] [Decidable b] (q : a ↔ b) : bi a = bi b := by
  unfold bi
  by_cases x : a
  · rw [if_pos x, if_pos (q.mp x)]
  · rw [if_neg x, if_neg (fun y => x (q.mpr y))]
theorem bi_narrow {c : Prop} [Decidable c] : narrow .boolean (.int (bi c)) = .int (bi c) := by
  unfold bi
  split <;> rfl
theorem sk_S.bif_eq {c : Prop} [Decidable c] {off : Int} {tgt : Nat} (hd : decode M.2.1 pc = .ok (.ifCond .eq off, 3)) (ht : (pc : Int) + off = (tgt : Int)) (kt : ¬ c → sk_S l E d M tgt L St h Q) (kf : c → sk_S l E d M (pc + 3) L St h Q) : sk_S l E d M pc L (.int (bi c) :: St) h Q := by
  refine sk_S.if_eq hd ht (fun q => kt (fun x => ?_)) (fun q => ?_)
  · rw [bi_t x] at q
    exact absurd q (by decide)
  · by_cases x : c
    · exact kf x
    · exact absurd (bi_f x) q
theorem sk_S.bif_ne {c : Prop} [Decidable c] {off : Int} {tgt : Nat} (hd : decode M.2.1 pc = .ok (.ifCond .ne off, 3)) (ht : (pc : Int) + off = (tgt : Int)) (kt : c → sk_S l E d M tgt L St h Q) (kf : ¬ c → sk_S l E d M (pc + 3) L St h Q) : sk_S l E d M pc L (.int (bi c) :: St) h Q := by
  refine sk_S.if_ne hd ht (fun q => ?_) (fun q => kf (fun x => ?_))
  · by_cases x : c
    · exact kt x
    · exact absurd (bi_f x) q
  · rw [bi_t x] at q
    exact absurd q (by decide)
theorem sk_ix_nI {x : Int32} {k n : Nat} (e : x = nI k) (hk : k < n) (hn : n < 2 ^ 31) : sk_ix x k n := by
  subst e
  exact ⟨nI_pos (by omega), nI_clamp (by omega), hk⟩
theorem nI_mul (a b : Nat) : nI a * nI b = nI (a * b) := (Int32.ofNat_mul a b).symm
theorem sk_K.mono {as : List Value} {Q1 : Option Value → sk_M → Prop} (k : sk_K l E d M as h Q1) (hq : ∀ r h1, Q1 r h1 → Q r h1) : sk_K l E d M as h Q := by
  intro p e ha h2 h3 s m args below h4 h5 h6 h7
  obtain ⟨n, o, g1, g2, g3, ⟨⟨r, h1, e1, q, hP⟩, hF⟩, g5⟩ := k p e ha h2 h3 s m args below h4 h5 h6 h7
  exact ⟨n, o, g1, g2, g3, ⟨⟨⟨r, h1, e1, hq r h1 q, hP⟩, hF⟩, g5⟩⟩
end MORE
end
section
section PLACES
theorem se_0 : sk_e 0 = (1, 6, 7, [some 1, some 2, some 3, some 4, some 5, some 6]) := rfl
theorem se_1 : sk_e 1 = (1, 2, 15, [some 18, some 19, some 20, some 21, some 22, some 23]) := rfl
theorem se_2 : sk_e 2 = (1, 2, 15, [some 36, some 37, some 38, some 39, some 40, some 41]) := rfl
theorem se_3 : sk_e 3 = (1, 3, 6, [some 15, none, some 16]) := rfl
theorem se_4 : sk_e 4 = (1, 5, 6, [some 17]) := rfl
theorem se_5 : sk_e 5 = (2, 3, 4, [some 7, some 8, some 9, some 10]) := rfl
theorem se_6 : sk_e 6 = (0, 0, 7, []) := rfl
theorem se_7 : sk_e 7 = (1, 4, 3, [some 11]) := rfl
theorem se_8 : sk_e 8 = (1, 4, 3, [some 12]) := rfl
theorem se_9 : sk_e 9 = (1, 4, 3, [some 13]) := rfl
theorem se_10 : sk_e 10 = (1, 4, 3, [some 14]) := rfl
theorem se_11 : sk_e 11 = (0, 0, 24, []) := rfl
theorem se_12 : sk_e 12 = (0, 0, 24, []) := rfl
theorem se_13 : sk_e 13 = (0, 0, 24, []) := rfl
theorem se_14 : sk_e 14 = (0, 0, 24, []) := rfl
theorem se_15 : sk_e 15 = (0, 0, 60, []) := rfl
theorem se_16 : sk_e 16 = (0, 0, 60, []) := rfl
theorem se_17 : sk_e 17 = (0, 0, 30, []) := rfl
theorem se_18 : sk_e 18 = (0, 0, 4, []) := rfl
theorem se_19 : sk_e 19 = (0, 0, 4, []) := rfl
theorem se_20 : sk_e 20 = (2, 1, 6, [some 24, some 25, some 26, some 27, some 28, some 29]) := rfl
theorem se_21 : sk_e 21 = (2, 2, 2, [some 30, some 31]) := rfl
theorem se_22 : sk_e 22 = (0, 0, 60, []) := rfl
theorem se_23 : sk_e 23 = (0, 0, 24, []) := rfl
theorem se_24 : sk_e 24 = (1, 0, 3, []) := rfl
theorem se_25 : sk_e 25 = (1, 0, 3, []) := rfl
theorem se_26 : sk_e 26 = (1, 0, 3, []) := rfl
theorem se_27 : sk_e 27 = (1, 0, 3, []) := rfl
theorem se_28 : sk_e 28 = (1, 0, 3, []) := rfl
theorem se_29 : sk_e 29 = (1, 0, 3, []) := rfl
theorem se_30 : sk_e 30 = (1, 1, 4, [some 32, some 34]) := rfl
theorem se_31 : sk_e 31 = (1, 1, 4, [some 33, some 35]) := rfl
theorem se_32 : sk_e 32 = (0, 0, 60, []) := rfl
theorem se_33 : sk_e 33 = (0, 0, 60, []) := rfl
theorem se_34 : sk_e 34 = (0, 0, 60, []) := rfl
theorem se_35 : sk_e 35 = (0, 0, 60, []) := rfl
theorem se_36 : sk_e 36 = (0, 0, 4, []) := rfl
theorem se_37 : sk_e 37 = (0, 0, 4, []) := rfl
theorem se_38 : sk_e 38 = (2, 1, 6, [some 42, some 43, some 44, some 45, some 46, some 47]) := rfl
theorem se_39 : sk_e 39 = (2, 2, 2, [some 48, some 49]) := rfl
theorem se_40 : sk_e 40 = (0, 0, 60, []) := rfl
theorem se_41 : sk_e 41 = (0, 0, 24, []) := rfl
theorem se_42 : sk_e 42 = (1, 0, 3, []) := rfl
theorem se_43 : sk_e 43 = (1, 0, 3, []) := rfl
theorem se_44 : sk_e 44 = (1, 0, 3, []) := rfl
theorem se_45 : sk_e 45 = (1, 0, 3, []) := rfl
theorem se_46 : sk_e 46 = (1, 0, 3, []) := rfl
theorem se_47 : sk_e 47 = (1, 0, 3, []) := rfl
theorem se_48 : sk_e 48 = (1, 1, 4, [some 50, some 52]) := rfl
theorem se_49 : sk_e 49 = (1, 1, 4, [some 51, some 53]) := rfl
theorem se_50 : sk_e 50 = (0, 0, 60, []) := rfl
theorem se_51 : sk_e 51 = (0, 0, 60, []) := rfl
theorem se_52 : sk_e 52 = (0, 0, 60, []) := rfl
theorem se_53 : sk_e 53 = (0, 0, 60, []) := rfl
theorem se_54 : sk_e 54 = (1, 7, 20, [some 55, some 56, none, some 57, some 58, some 59, some 60, some 61, some 62, some 63, some 64, none, none, none, none, none, some 65, some 66]) := rfl
theorem se_55 : sk_e 55 = (0, 0, 361, []) := rfl
theorem se_56 : sk_e 56 = (0, 0, 361, []) := rfl
theorem se_57 : sk_e 57 = (0, 0, 7, []) := rfl
theorem se_58 : sk_e 58 = (0, 0, 4, []) := rfl
theorem se_59 : sk_e 59 = (0, 0, 4, []) := rfl
theorem se_60 : sk_e 60 = (0, 0, 96, []) := rfl
theorem se_61 : sk_e 61 = (0, 0, 60, []) := rfl
theorem se_62 : sk_e 62 = (0, 0, 60, []) := rfl
theorem se_63 : sk_e 63 = (0, 0, 3, []) := rfl
theorem se_64 : sk_e 64 = (0, 0, 60, []) := rfl
theorem se_65 : sk_e 65 = (0, 0, 24, []) := rfl
theorem se_66 : sk_e 66 = (0, 0, 30, []) := rfl
end PLACES
end
section
section SPEC
/-- a table's branches, by number -/
theorem sk_S.tabL {l : Launch} {E : sk_V} {d : Nat} {M : sk_m} {pc : Nat} {L : List (Option Value)} {St : List Value} {h : sk_M} {Q : Option Value → sk_M → Prop} {dflt lo hi : Int} {offs : Array Int} {len : Nat} {x : Int32} (hd : decode M.2.1 pc = .ok (.tableswitch dflt lo hi offs, len)) (hs : hi = lo + (offs.size : Int) - 1) (hr : -2147483648 ≤ lo ∧ hi < 2147483648) (hp : (offs.toList.all (fun o => decide (0 ≤ (pc : Int) + o))) = true) (hp0 : 0 ≤ (pc : Int) + dflt)
    (k : ∀ j : Nat, j < offs.size → x = Int32.ofInt (lo + (j : Int)) → sk_S l E d M ((pc : Int) + offs.getD j 0).toNat L St h Q) (k0 : (∀ j : Nat, j < offs.size → ¬ x = Int32.ofInt (lo + (j : Int))) → sk_S l E d M ((pc : Int) + dflt).toNat L St h Q) : sk_S l E d M pc L (.int x :: St) h Q := by
  by_cases h1 : x.toInt < lo ∨ hi < x.toInt
  · refine sk_S.tableOut hd h1 (tgt := ((pc : Int) + dflt).toNat) (by omega) (k0 (fun j hj e => ?_))
    have e2 : x.toInt = lo + (j : Int) := by rw [e, Int32.toInt_ofInt_of_le (by omega) (by omega)]
    omega
  · have hj : (x.toInt - lo).toNat < offs.size := by omega
    have hv : offs[(x.toInt - lo).toNat]? = some (offs.getD (x.toInt - lo).toNat 0) := by
      rw [Array.getD_eq_getD_getElem?, Array.getElem?_eq_getElem hj]; rfl
    have hpos : 0 ≤ (pc : Int) + offs.getD (x.toInt - lo).toNat 0 := by
      have h2 := List.all_eq_true.mp hp (offs.getD (x.toInt - lo).toNat 0) (Array.mem_toList_iff.mpr (Array.mem_of_getElem? hv))
      exact of_decide_eq_true h2
    refine sk_S.tableIn hd (fun q => h1 (Or.inl q)) (fun q => h1 (Or.inr q)) hv (tgt := ((pc : Int) + offs.getD (x.toInt - lo).toNat 0).toNat) (by omega) (k _ hj ?_)
    apply Int32.toInt_inj.mp
    rw [Int32.toInt_ofInt_of_le (by omega) (by omega)]
    omega
/-- what a boat of a kind hauls -/
def haulsV (k m sea day f : Int32) : Int32 :=
  if k = 1 then 5 + m - sea + 5 else if k = 2 then (5 + m - sea) / 2 else if k = 3 then (if f = m - m / 4 * 4 then 2 * (5 + m - sea) else (5 + m - sea) / 2)
  else if k = 4 then 5 + m - sea + 5 + (day - day / 5 * 5) else if k = 5 then (if sea ≤ 6 then (5 + m - sea) / 2 + f else 0) else if k = 6 then 20 - m - 2 * sea - f else 5 + m - sea
def eatsV (k day : Int32) : Int32 :=
  if k = 1 then 2 else if k = 2 then 1 else if k = 3 then 1 + (day - day / 2 * 2) else if k = 4 then 4 else if k = 5 then 0 else if k = 6 then 4 else 1
def heldV (v a b : Int32) : Int32 := if v < a then a else if b < v then b else v
theorem sk_ix_e {x : Int32} {k n : Nat} (e : x = nI k) (hk : k < n) (hn : n < 2147483648) : sk_ix x k n := sk_ix_nI e hk hn
theorem ix_of (j w : Nat) : (17 : Int32) + 3 * nI j + nI w = nI (17 + 3 * j + w) := by
  show nI 17 + nI 3 * nI j + nI w = _
  rw [nI_mul, nI_add, nI_add]
theorem ix_er {x : Int32} {k : Nat} (h : -1000000000 - x = nI k) (hk : k < 7) : sk_ix (-1000000000 - x) k 7 := sk_ix_nI h hk (by decide)
end SPEC
end
section
section M1
set_option maxRecDepth 100000 in
set_option maxHeartbeats 4000000 in
/-- between two -/
theorem cM_in {l : Launch} {E : sk_V} {d : Nat} {h : sk_M} {v a b : Int32}  : sk_K l E (d + 0) MX8_in [.int v, .int a, .int b] h (fun r h1 => h = h1 ∧ some (.int (bi (a ≤ v ∧ v ≤ b))) = r) := by
  refine sk_K.of (by decide +kernel) (Nat.le_of_ble_eq_true rfl) ?_
  show sk_S l E (d + 0) _ 0 [some (.int v), some (.int a), some (.int b)] [] h _
  refine sk_S.iload_n (i := 0) (dd DX8_in 0 rfl) rfl rfl ?_
  refine sk_S.iload_n (i := 1) (dd DX8_in 1 rfl) rfl rfl ?_
  refine sk_S.icmp_lt (tgt := 14) (dd DX8_in 2 rfl) (by decide) (fun c2 => ?_) (fun c2 => ?_)
  · refine sk_S.iconst (v := 0) (dd DX8_in 8 rfl) (by decide) ?_
    refine sk_S.iret (dd DX8_in 9 rfl) rfl rfl ?_
    refine ⟨rfl, ?_⟩
    unfold bi
    simp only [Int32.lt_iff_toInt_lt, Int32.le_iff_toInt_le] at *
    (repeat' split) <;> first | rfl | (exfalso; omega)
  · refine sk_S.iload_n (i := 0) (dd DX8_in 3 rfl) rfl rfl ?_
    refine sk_S.iload_n (i := 2) (dd DX8_in 4 rfl) rfl rfl ?_
    refine sk_S.icmp_gt (tgt := 14) (dd DX8_in 5 rfl) (by decide) (fun c7 => ?_) (fun c7 => ?_)
    · refine sk_S.iconst (v := 0) (dd DX8_in 8 rfl) (by decide) ?_
      refine sk_S.iret (dd DX8_in 9 rfl) rfl rfl ?_
      refine ⟨rfl, ?_⟩
      unfold bi
      simp only [Int32.lt_iff_toInt_lt, Int32.le_iff_toInt_le] at *
      (repeat' split) <;> first | rfl | (exfalso; omega)
    · refine sk_S.iconst (v := 1) (dd DX8_in 6 rfl) (by decide) ?_
      refine sk_S.goto (tgt := 15) (dd DX8_in 7 rfl) (by decide) ?_
      refine sk_S.iret (dd DX8_in 9 rfl) rfl rfl ?_
      refine ⟨rfl, ?_⟩
      unfold bi
      simp only [Int32.lt_iff_toInt_lt, Int32.le_iff_toInt_le] at *
      (repeat' split) <;> first | rfl | (exfalso; omega)
set_option maxRecDepth 100000 in
set_option maxHeartbeats 4000000 in
theorem cM_held {l : Launch} {E : sk_V} {d : Nat} {h : sk_M} {v a b : Int32}  : sk_K l E (d + 0) MX8_held [.int v, .int a, .int b] h (fun r h1 => h = h1 ∧ some (.int (heldV v a b)) = r) := by
  refine sk_K.of (by decide +kernel) (Nat.le_of_ble_eq_true rfl) ?_
  show sk_S l E (d + 0) _ 0 [some (.int v), some (.int a), some (.int b)] [] h _
  refine sk_S.iload_n (i := 0) (dd DX8_held 0 rfl) rfl rfl ?_
  refine sk_S.iload_n (i := 1) (dd DX8_held 1 rfl) rfl rfl ?_
  refine sk_S.icmp_ge (tgt := 9) (dd DX8_held 2 rfl) (by decide) (fun c2 => ?_) (fun c2 => ?_)
  · refine sk_S.iload_n (i := 0) (dd DX8_held 5 rfl) rfl rfl ?_
    refine sk_S.iload_n (i := 2) (dd DX8_held 6 rfl) rfl rfl ?_
    refine sk_S.icmp_le (tgt := 18) (dd DX8_held 7 rfl) (by decide) (fun c11 => ?_) (fun c11 => ?_)
    · refine sk_S.iload_n (i := 0) (dd DX8_held 10 rfl) rfl rfl ?_
      refine sk_S.iret (dd DX8_held 11 rfl) rfl rfl ?_
      refine ⟨rfl, ?_⟩
      unfold heldV
      simp only [Int32.lt_iff_toInt_lt, Int32.le_iff_toInt_le] at *
      (repeat' split) <;> first | rfl | (exfalso; omega)
    · refine sk_S.iload_n (i := 2) (dd DX8_held 8 rfl) rfl rfl ?_
      refine sk_S.goto (tgt := 19) (dd DX8_held 9 rfl) (by decide) ?_
      refine sk_S.iret (dd DX8_held 11 rfl) rfl rfl ?_
      refine ⟨rfl, ?_⟩
      unfold heldV
      simp only [Int32.lt_iff_toInt_lt, Int32.le_iff_toInt_le] at *
      (repeat' split) <;> first | rfl | (exfalso; omega)
  · refine sk_S.iload_n (i := 1) (dd DX8_held 3 rfl) rfl rfl ?_
    refine sk_S.goto (tgt := 19) (dd DX8_held 4 rfl) (by decide) ?_
    refine sk_S.iret (dd DX8_held 11 rfl) rfl rfl ?_
    refine ⟨rfl, ?_⟩
    unfold heldV
    simp only [Int32.lt_iff_toInt_lt, Int32.le_iff_toInt_le] at *
    (repeat' split) <;> first | rfl | (exfalso; omega)
set_option maxRecDepth 100000 in
set_option maxHeartbeats 4000000 in
theorem cM_isFish {l : Launch} {E : sk_V} {d : Nat} {h : sk_M} {f : Int32}  : sk_K l E (d + 1) MX8_isFish [.int f] h (fun r h1 => h = h1 ∧ some (.int (bi (0 ≤ f ∧ f ≤ 3))) = r) := by
  refine sk_K.of (by decide +kernel) (Nat.le_of_ble_eq_true rfl) ?_
  show sk_S l E (d + 1) _ 0 [some (.int f)] [] h _
  refine sk_S.iload_n (i := 0) (dd DX8_isFish 0 rfl) rfl rfl ?_
  refine sk_S.iconst (v := 0) (dd DX8_isFish 1 rfl) (by decide) ?_
  refine sk_S.iconst (v := 3) (dd DX8_isFish 2 rfl) (by decide) ?_
  refine sk_S.callS (dd DX8_isFish 3 rfl) rfl kX8_47 cM_in rfl rfl rfl (Nat.le_of_ble_eq_true rfl) (fun r3 h3 q3 => ?_)
  obtain ⟨rfl, rfl⟩ := q3
  show sk_S _ _ _ _ _ _ (.int _ :: _) _ _
  refine sk_S.iret (dd DX8_isFish 4 rfl) rfl bi_narrow ?_
  exact ⟨rfl, rfl⟩
set_option maxRecDepth 100000 in
set_option maxHeartbeats 4000000 in
theorem cM_isSheet {l : Launch} {E : sk_V} {d : Nat} {h : sk_M} {f : Int32}  : sk_K l E (d + 1) MX8_isSheet [.int f] h (fun r h1 => h = h1 ∧ some (.int (bi (0 ≤ f ∧ f ≤ 3))) = r) := by
  refine sk_K.of (by decide +kernel) (Nat.le_of_ble_eq_true rfl) ?_
  show sk_S l E (d + 1) _ 0 [some (.int f)] [] h _
  refine sk_S.iload_n (i := 0) (dd DX8_isSheet 0 rfl) rfl rfl ?_
  refine sk_S.iconst (v := 0) (dd DX8_isSheet 1 rfl) (by decide) ?_
  refine sk_S.iconst (v := 3) (dd DX8_isSheet 2 rfl) (by decide) ?_
  refine sk_S.callS (dd DX8_isSheet 3 rfl) rfl kX8_47 cM_in rfl rfl rfl (Nat.le_of_ble_eq_true rfl) (fun r3 h3 q3 => ?_)
  obtain ⟨rfl, rfl⟩ := q3
  show sk_S _ _ _ _ _ _ (.int _ :: _) _ _
  refine sk_S.iret (dd DX8_isSheet 4 rfl) rfl bi_narrow ?_
  exact ⟨rfl, rfl⟩
set_option maxRecDepth 100000 in
set_option maxHeartbeats 4000000 in
theorem cM_isKm {l : Launch} {E : sk_V} {d : Nat} {h : sk_M} {f : Int32}  : sk_K l E (d + 1) MX8_isKm [.int f] h (fun r h1 => h = h1 ∧ some (.int (bi (0 ≤ f ∧ f ≤ 69))) = r) := by
  refine sk_K.of (by decide +kernel) (Nat.le_of_ble_eq_true rfl) ?_
  show sk_S l E (d + 1) _ 0 [some (.int f)] [] h _
  refine sk_S.iload_n (i := 0) (dd DX8_isKm 0 rfl) rfl rfl ?_
  refine sk_S.iconst (v := 0) (dd DX8_isKm 1 rfl) (by decide) ?_
  refine sk_S.bipush (v := 69) (dd DX8_isKm 2 rfl) (by decide) ?_
  refine sk_S.callS (dd DX8_isKm 3 rfl) rfl kX8_47 cM_in rfl rfl rfl (Nat.le_of_ble_eq_true rfl) (fun r4 h4 q4 => ?_)
  obtain ⟨rfl, rfl⟩ := q4
  show sk_S _ _ _ _ _ _ (.int _ :: _) _ _
  refine sk_S.iret (dd DX8_isKm 4 rfl) rfl bi_narrow ?_
  exact ⟨rfl, rfl⟩
set_option maxRecDepth 100000 in
set_option maxHeartbeats 4000000 in
theorem cM_isBoat {l : Launch} {E : sk_V} {d : Nat} {h : sk_M} {b : Int32}  : sk_K l E (d + 1) MX8_isBoat [.ref 54, .int b] h (fun r h1 => h = h1 ∧ some (.int (bi (0 ≤ b ∧ b ≤ h 55 2 - 1))) = r) := by
  refine sk_K.of (by decide +kernel) (Nat.le_of_ble_eq_true rfl) ?_
  show sk_S l E (d + 1) _ 0 [some (.ref 54), some (.int b)] [] h _
  refine sk_S.iload_n (i := 1) (dd DX8_isBoat 0 rfl) rfl rfl ?_
  refine sk_S.iconst (v := 0) (dd DX8_isBoat 1 rfl) (by decide) ?_
  refine sk_S.aload_n (i := 0) (dd DX8_isBoat 2 rfl) rfl rfl ?_
  refine sk_S.getr (dd DX8_isBoat 3 rfl) rfl fX8_9 se_54 (by decide) rfl ?_
  refine sk_S.iconst (v := 2) (dd DX8_isBoat 4 rfl) (by decide) ?_
  refine sk_S.iald (dd DX8_isBoat 5 rfl) se_55 (j := 2) ⟨by decide, by decide, by decide⟩ ?_
  refine sk_S.iconst (v := 1) (dd DX8_isBoat 6 rfl) (by decide) ?_
  refine sk_S.isub (dd DX8_isBoat 7 rfl) ?_
  refine sk_S.callS (dd DX8_isBoat 8 rfl) rfl kX8_47 cM_in rfl rfl rfl (Nat.le_of_ble_eq_true rfl) (fun r10 h10 q10 => ?_)
  obtain ⟨rfl, rfl⟩ := q10
  show sk_S _ _ _ _ _ _ (.int _ :: _) _ _
  refine sk_S.iret (dd DX8_isBoat 9 rfl) rfl bi_narrow ?_
  exact ⟨rfl, rfl⟩
set_option maxRecDepth 100000 in
set_option maxHeartbeats 4000000 in
theorem cM_becomes {l : Launch} {E : sk_V} {d : Nat} {h : sk_M} {x v : Int32} {j : Nat} (hj : sk_ix x j 361) : sk_K l E (d + 0) MX8_becomes [.ref 54, .int x, .int v] h (fun r h1 => sk_u h 55 j v = h1 ∧ some (.int (h 55 j)) = r) := by
  refine sk_K.of (by decide +kernel) (Nat.le_of_ble_eq_true rfl) ?_
  show sk_S l E (d + 0) _ 0 [some (.ref 54), some (.int x), some (.int v), none] [] h _
  refine sk_S.aload_n (i := 0) (dd DX8_becomes 0 rfl) rfl rfl ?_
  refine sk_S.getr (dd DX8_becomes 1 rfl) rfl fX8_9 se_54 (by decide) rfl ?_
  refine sk_S.iload_n (i := 1) (dd DX8_becomes 2 rfl) rfl rfl ?_
  refine sk_S.iald (dd DX8_becomes 3 rfl) se_55 hj ?_
  refine sk_S.istore_n (i := 3) (dd DX8_becomes 4 rfl) rfl (Nat.le_of_ble_eq_true rfl) rfl ?_
  refine sk_S.aload_n (i := 0) (dd DX8_becomes 5 rfl) rfl rfl ?_
  refine sk_S.getr (dd DX8_becomes 6 rfl) rfl fX8_9 se_54 (by decide) rfl ?_
  refine sk_S.iload_n (i := 1) (dd DX8_becomes 7 rfl) rfl rfl ?_
  refine sk_S.iload_n (i := 2) (dd DX8_becomes 8 rfl) rfl rfl ?_
  refine sk_S.iast (dd DX8_becomes 9 rfl) se_55 hj ?_
  refine sk_S.iload_n (i := 3) (dd DX8_becomes 10 rfl) rfl rfl ?_
  refine sk_S.iret (dd DX8_becomes 11 rfl) rfl rfl ?_
  exact ⟨rfl, rfl⟩
set_option maxRecDepth 100000 in
set_option maxHeartbeats 4000000 in
theorem cM_of {l : Launch} {E : sk_V} {d : Nat} {h : sk_M} {j w : Nat} (hj : 17 + 3 * j + w < 361) : sk_K l E (d + 0) MX8_of [.ref 54, .int (nI j), .int (nI w)] h (fun r h1 => h = h1 ∧ some (.int (h 55 (17 + 3 * j + w))) = r) := by
  refine sk_K.of (by decide +kernel) (Nat.le_of_ble_eq_true rfl) ?_
  show sk_S l E (d + 0) _ 0 [some (.ref 54), some (.int (nI j)), some (.int (nI w))] [] h _
  refine sk_S.aload_n (i := 0) (dd DX8_of 0 rfl) rfl rfl ?_
  refine sk_S.getr (dd DX8_of 1 rfl) rfl fX8_9 se_54 (by decide) rfl ?_
  refine sk_S.bipush (v := 17) (dd DX8_of 2 rfl) (by decide) ?_
  refine sk_S.iconst (v := 3) (dd DX8_of 3 rfl) (by decide) ?_
  refine sk_S.iload_n (i := 1) (dd DX8_of 4 rfl) rfl rfl ?_
  refine sk_S.imul (dd DX8_of 5 rfl) ?_
  refine sk_S.iadd (dd DX8_of 6 rfl) ?_
  refine sk_S.iload_n (i := 2) (dd DX8_of 7 rfl) rfl rfl ?_
  refine sk_S.iadd (dd DX8_of 8 rfl) ?_
  refine sk_S.iald (dd DX8_of 9 rfl) se_55 (sk_ix_e (ix_of j w) hj (by decide)) ?_
  refine sk_S.iret (dd DX8_of 10 rfl) rfl rfl ?_
  exact ⟨rfl, rfl⟩
set_option maxRecDepth 100000 in
set_option maxHeartbeats 4000000 in
theorem cM_error {l : Launch} {E : sk_V} {d : Nat} {h : sk_M} {x : Int32} {k : Nat} (hk : sk_ix (-1000000000 - x) k 7) : sk_K l E (d + 0) MX8_error [.ref 54, .int x] h (fun r h1 => sk_u h 57 k (h 57 k + 1) = h1 ∧ some (.int x) = r) := by
  refine sk_K.of (by decide +kernel) (Nat.le_of_ble_eq_true rfl) ?_
  show sk_S l E (d + 0) _ 0 [some (.ref 54), some (.int x)] [] h _
  refine sk_S.aload_n (i := 0) (dd DX8_error 0 rfl) rfl rfl ?_
  refine sk_S.getr (dd DX8_error 1 rfl) rfl fX8_16 se_54 (by decide) rfl ?_
  refine sk_S.ldc (dd DX8_error 2 rfl) rfl cnX8_46 ?_
  refine sk_S.iload_n (i := 1) (dd DX8_error 3 rfl) rfl rfl ?_
  refine sk_S.isub (dd DX8_error 4 rfl) ?_
  refine sk_S.dup2 (dd DX8_error 5 rfl) rfl rfl ?_
  refine sk_S.iald (dd DX8_error 6 rfl) se_57 hk ?_
  refine sk_S.iconst (v := 1) (dd DX8_error 7 rfl) (by decide) ?_
  refine sk_S.iadd (dd DX8_error 8 rfl) ?_
  refine sk_S.iast (dd DX8_error 9 rfl) se_57 hk ?_
  refine sk_S.iload_n (i := 1) (dd DX8_error 10 rfl) rfl rfl ?_
  refine sk_S.iret (dd DX8_error 11 rfl) rfl rfl ?_
  exact ⟨rfl, rfl⟩
set_option maxRecDepth 100000 in
set_option maxHeartbeats 4000000 in
theorem cM_haulsOf {l : Launch} {E : sk_V} {d : Nat} {h : sk_M} {j : Nat} {f : Int32} (hj : j < 6) : sk_K l E (d + 1) MX8_haulsOf [.ref 54, .int (nI j), .int f] h (fun r h1 => h = h1 ∧ some (.int (haulsV (h 55 (17 + 3 * j)) (h 55 (17 + 3 * j + 1)) (h 55 3) (h 55 0) f)) = r) := by
  refine sk_K.of (by decide +kernel) (Nat.le_of_ble_eq_true rfl) ?_
  show sk_S l E (d + 1) _ 0 [some (.ref 54), some (.int (nI j)), some (.int f), none, none] [] h _
  refine sk_S.aload_n (i := 0) (dd DX8_haulsOf 0 rfl) rfl rfl ?_
  refine sk_S.iload_n (i := 1) (dd DX8_haulsOf 1 rfl) rfl rfl ?_
  refine sk_S.iconst (v := 1) (dd DX8_haulsOf 2 rfl) (by decide) ?_
  refine sk_S.callV (dd DX8_haulsOf 3 rfl) rfl kX8_51 (cM_of (j := j) (w := 1) (by omega)) se_54 (by decide) rfl rfl rfl rfl (Nat.le_of_ble_eq_true rfl) (fun r3 h3 q3 => ?_)
  obtain ⟨rfl, rfl⟩ := q3
  show sk_S _ _ _ _ _ _ (.int _ :: _) _ _
  refine sk_S.istore_n (i := 3) (dd DX8_haulsOf 4 rfl) rfl (Nat.le_of_ble_eq_true rfl) rfl ?_
  refine sk_S.iconst (v := 5) (dd DX8_haulsOf 5 rfl) (by decide) ?_
  refine sk_S.iload_n (i := 3) (dd DX8_haulsOf 6 rfl) rfl rfl ?_
  refine sk_S.iadd (dd DX8_haulsOf 7 rfl) ?_
  refine sk_S.aload_n (i := 0) (dd DX8_haulsOf 8 rfl) rfl rfl ?_
  refine sk_S.getr (dd DX8_haulsOf 9 rfl) rfl fX8_9 se_54 (by decide) rfl ?_
  refine sk_S.iconst (v := 3) (dd DX8_haulsOf 10 rfl) (by decide) ?_
  refine sk_S.iald (dd DX8_haulsOf 11 rfl) se_55 (j := 3) ⟨by decide, by decide, by decide⟩ ?_
  refine sk_S.isub (dd DX8_haulsOf 12 rfl) ?_
  refine sk_S.istore (i := 4) (dd DX8_haulsOf 13 rfl) (Nat.le_of_ble_eq_true rfl) rfl ?_
  refine sk_S.aload_n (i := 0) (dd DX8_haulsOf 14 rfl) rfl rfl ?_
  refine sk_S.iload_n (i := 1) (dd DX8_haulsOf 15 rfl) rfl rfl ?_
  refine sk_S.iconst (v := 0) (dd DX8_haulsOf 16 rfl) (by decide) ?_
  refine sk_S.callV (dd DX8_haulsOf 17 rfl) rfl kX8_51 (cM_of (j := j) (w := 0) (by omega)) se_54 (by decide) rfl rfl rfl rfl (Nat.le_of_ble_eq_true rfl) (fun r22 h22 q22 => ?_)
  obtain ⟨rfl, rfl⟩ := q22
  show sk_S _ _ _ _ _ _ (.int _ :: _) _ _
  refine sk_S.tabL (dd DX8_haulsOf 18 rfl) rfl (by decide) (by decide) (by decide) (fun j25 hj25 e25 => ?_) (fun e25 => ?_)
  · rcases j25 with _ | _ | _ | _ | _ | _ | j25
    · show sk_S _ _ _ _ 64 _ _ _ _
      replace e25 : _ = (1 : Int32) := e25
      refine sk_S.iload (i := 4) (dd DX8_haulsOf 19 rfl) rfl ?_
      refine sk_S.iconst (v := 5) (dd DX8_haulsOf 20 rfl) (by decide) ?_
      refine sk_S.iadd (dd DX8_haulsOf 21 rfl) ?_
      refine sk_S.iret (dd DX8_haulsOf 22 rfl) rfl rfl ?_
      refine ⟨rfl, ?_⟩
      (try simp only [Nat.add_zero] at *)
      simp [haulsV, *]
    · show sk_S _ _ _ _ 69 _ _ _ _
      replace e25 : _ = (2 : Int32) := e25
      refine sk_S.iload (i := 4) (dd DX8_haulsOf 23 rfl) rfl ?_
      refine sk_S.iconst (v := 2) (dd DX8_haulsOf 24 rfl) (by decide) ?_
      refine sk_S.idiv (dd DX8_haulsOf 25 rfl) (by decide) ?_
      refine sk_S.iret (dd DX8_haulsOf 26 rfl) rfl rfl ?_
      refine ⟨rfl, ?_⟩
      (try simp only [Nat.add_zero] at *)
      simp [haulsV, *]
    · show sk_S _ _ _ _ 74 _ _ _ _
      replace e25 : _ = (3 : Int32) := e25
      refine sk_S.iload_n (i := 2) (dd DX8_haulsOf 27 rfl) rfl rfl ?_
      refine sk_S.iload_n (i := 3) (dd DX8_haulsOf 28 rfl) rfl rfl ?_
      refine sk_S.iconst (v := 4) (dd DX8_haulsOf 29 rfl) (by decide) ?_
      refine sk_S.irem (dd DX8_haulsOf 30 rfl) (by decide) ?_
      refine sk_S.icmp_ne (tgt := 88) (dd DX8_haulsOf 31 rfl) (by decide) (fun c78 => ?_) (fun c78 => ?_)
      · refine sk_S.iload (i := 4) (dd DX8_haulsOf 36 rfl) rfl ?_
        refine sk_S.iconst (v := 2) (dd DX8_haulsOf 37 rfl) (by decide) ?_
        refine sk_S.idiv (dd DX8_haulsOf 38 rfl) (by decide) ?_
        refine sk_S.iret (dd DX8_haulsOf 39 rfl) rfl rfl ?_
        refine ⟨rfl, ?_⟩
        (try simp only [Nat.add_zero] at *)
        simp [haulsV, *]
      · refine sk_S.iconst (v := 2) (dd DX8_haulsOf 32 rfl) (by decide) ?_
        refine sk_S.iload (i := 4) (dd DX8_haulsOf 33 rfl) rfl ?_
        refine sk_S.imul (dd DX8_haulsOf 34 rfl) ?_
        refine sk_S.goto (tgt := 92) (dd DX8_haulsOf 35 rfl) (by decide) ?_
        refine sk_S.iret (dd DX8_haulsOf 39 rfl) rfl rfl ?_
        refine ⟨rfl, ?_⟩
        (try simp only [Nat.add_zero] at *)
        simp [haulsV, *]
    · show sk_S _ _ _ _ 93 _ _ _ _
      replace e25 : _ = (4 : Int32) := e25
      refine sk_S.iload (i := 4) (dd DX8_haulsOf 40 rfl) rfl ?_
      refine sk_S.iconst (v := 5) (dd DX8_haulsOf 41 rfl) (by decide) ?_
      refine sk_S.iadd (dd DX8_haulsOf 42 rfl) ?_
      refine sk_S.aload_n (i := 0) (dd DX8_haulsOf 43 rfl) rfl rfl ?_
      refine sk_S.getr (dd DX8_haulsOf 44 rfl) rfl fX8_9 se_54 (by decide) rfl ?_
      refine sk_S.iconst (v := 0) (dd DX8_haulsOf 45 rfl) (by decide) ?_
      refine sk_S.iald (dd DX8_haulsOf 46 rfl) se_55 (j := 0) ⟨by decide, by decide, by decide⟩ ?_
      refine sk_S.iconst (v := 5) (dd DX8_haulsOf 47 rfl) (by decide) ?_
      refine sk_S.irem (dd DX8_haulsOf 48 rfl) (by decide) ?_
      refine sk_S.iadd (dd DX8_haulsOf 49 rfl) ?_
      refine sk_S.iret (dd DX8_haulsOf 50 rfl) rfl rfl ?_
      refine ⟨rfl, ?_⟩
      (try simp only [Nat.add_zero] at *)
      simp [haulsV, *]
    · show sk_S _ _ _ _ 107 _ _ _ _
      replace e25 : _ = (5 : Int32) := e25
      refine sk_S.aload_n (i := 0) (dd DX8_haulsOf 51 rfl) rfl rfl ?_
      refine sk_S.getr (dd DX8_haulsOf 52 rfl) rfl fX8_9 se_54 (by decide) rfl ?_
      refine sk_S.iconst (v := 3) (dd DX8_haulsOf 53 rfl) (by decide) ?_
      refine sk_S.iald (dd DX8_haulsOf 54 rfl) se_55 (j := 3) ⟨by decide, by decide, by decide⟩ ?_
      refine sk_S.bipush (v := 6) (dd DX8_haulsOf 55 rfl) (by decide) ?_
      refine sk_S.icmp_le (tgt := 122) (dd DX8_haulsOf 56 rfl) (by decide) (fun c115 => ?_) (fun c115 => ?_)
      · refine sk_S.iload (i := 4) (dd DX8_haulsOf 59 rfl) rfl ?_
        refine sk_S.iconst (v := 2) (dd DX8_haulsOf 60 rfl) (by decide) ?_
        refine sk_S.idiv (dd DX8_haulsOf 61 rfl) (by decide) ?_
        refine sk_S.iload_n (i := 2) (dd DX8_haulsOf 62 rfl) rfl rfl ?_
        refine sk_S.iadd (dd DX8_haulsOf 63 rfl) ?_
        refine sk_S.iret (dd DX8_haulsOf 64 rfl) rfl rfl ?_
        refine ⟨rfl, ?_⟩
        (try simp only [Nat.add_zero] at *)
        simp [haulsV, *]
      · refine sk_S.iconst (v := 0) (dd DX8_haulsOf 57 rfl) (by decide) ?_
        refine sk_S.goto (tgt := 128) (dd DX8_haulsOf 58 rfl) (by decide) ?_
        refine sk_S.iret (dd DX8_haulsOf 64 rfl) rfl rfl ?_
        refine ⟨rfl, ?_⟩
        (try simp only [Nat.add_zero] at *)
        simp [haulsV, *]
    · show sk_S _ _ _ _ 129 _ _ _ _
      replace e25 : _ = (6 : Int32) := e25
      refine sk_S.bipush (v := 20) (dd DX8_haulsOf 65 rfl) (by decide) ?_
      refine sk_S.iload_n (i := 3) (dd DX8_haulsOf 66 rfl) rfl rfl ?_
      refine sk_S.isub (dd DX8_haulsOf 67 rfl) ?_
      refine sk_S.iconst (v := 2) (dd DX8_haulsOf 68 rfl) (by decide) ?_
      refine sk_S.aload_n (i := 0) (dd DX8_haulsOf 69 rfl) rfl rfl ?_
      refine sk_S.getr (dd DX8_haulsOf 70 rfl) rfl fX8_9 se_54 (by decide) rfl ?_
      refine sk_S.iconst (v := 3) (dd DX8_haulsOf 71 rfl) (by decide) ?_
      refine sk_S.iald (dd DX8_haulsOf 72 rfl) se_55 (j := 3) ⟨by decide, by decide, by decide⟩ ?_
      refine sk_S.imul (dd DX8_haulsOf 73 rfl) ?_
      refine sk_S.isub (dd DX8_haulsOf 74 rfl) ?_
      refine sk_S.iload_n (i := 2) (dd DX8_haulsOf 75 rfl) rfl rfl ?_
      refine sk_S.isub (dd DX8_haulsOf 76 rfl) ?_
      refine sk_S.iret (dd DX8_haulsOf 77 rfl) rfl rfl ?_
      refine ⟨rfl, ?_⟩
      (try simp only [Nat.add_zero] at *)
      simp [haulsV, *]
    · exact absurd hj25 (by simp)
  · show sk_S _ _ _ _ 145 _ _ _ _
    have e25_ := (⟨e25 0 (by decide), e25 1 (by decide), e25 2 (by decide), e25 3 (by decide), e25 4 (by decide), e25 5 (by decide)⟩ : ¬ _ = (1 : Int32) ∧ ¬ _ = (2 : Int32) ∧ ¬ _ = (3 : Int32) ∧ ¬ _ = (4 : Int32) ∧ ¬ _ = (5 : Int32) ∧ ¬ _ = (6 : Int32))
    refine sk_S.iload (i := 4) (dd DX8_haulsOf 78 rfl) rfl ?_
    refine sk_S.iret (dd DX8_haulsOf 79 rfl) rfl rfl ?_
    refine ⟨rfl, ?_⟩
    (try simp only [Nat.add_zero] at *)
    simp [haulsV, *]
set_option maxRecDepth 100000 in
set_option maxHeartbeats 4000000 in
theorem cM_eatsOf {l : Launch} {E : sk_V} {d : Nat} {h : sk_M} {j : Nat} (hj : j < 6) : sk_K l E (d + 1) MX8_eatsOf [.ref 54, .int (nI j)] h (fun r h1 => h = h1 ∧ some (.int (eatsV (h 55 (17 + 3 * j)) (h 55 0))) = r) := by
  refine sk_K.of (by decide +kernel) (Nat.le_of_ble_eq_true rfl) ?_
  show sk_S l E (d + 1) _ 0 [some (.ref 54), some (.int (nI j))] [] h _
  refine sk_S.aload_n (i := 0) (dd DX8_eatsOf 0 rfl) rfl rfl ?_
  refine sk_S.iload_n (i := 1) (dd DX8_eatsOf 1 rfl) rfl rfl ?_
  refine sk_S.iconst (v := 0) (dd DX8_eatsOf 2 rfl) (by decide) ?_
  refine sk_S.callV (dd DX8_eatsOf 3 rfl) rfl kX8_51 (cM_of (j := j) (w := 0) (by omega)) se_54 (by decide) rfl rfl rfl rfl (Nat.le_of_ble_eq_true rfl) (fun r3 h3 q3 => ?_)
  obtain ⟨rfl, rfl⟩ := q3
  show sk_S _ _ _ _ _ _ (.int _ :: _) _ _
  refine sk_S.tabL (dd DX8_eatsOf 4 rfl) rfl (by decide) (by decide) (by decide) (fun j6 hj6 e6 => ?_) (fun e6 => ?_)
  · rcases j6 with _ | _ | _ | _ | _ | _ | j6
    · show sk_S _ _ _ _ 44 _ _ _ _
      replace e6 : _ = (1 : Int32) := e6
      refine sk_S.iconst (v := 2) (dd DX8_eatsOf 5 rfl) (by decide) ?_
      refine sk_S.iret (dd DX8_eatsOf 6 rfl) rfl rfl ?_
      refine ⟨rfl, ?_⟩
      (try simp only [Nat.add_zero] at *)
      simp [eatsV, *]
    · show sk_S _ _ _ _ 61 _ _ _ _
      replace e6 : _ = (2 : Int32) := e6
      refine sk_S.iconst (v := 1) (dd DX8_eatsOf 20 rfl) (by decide) ?_
      refine sk_S.iret (dd DX8_eatsOf 21 rfl) rfl rfl ?_
      refine ⟨rfl, ?_⟩
      (try simp only [Nat.add_zero] at *)
      simp [eatsV, *]
    · show sk_S _ _ _ _ 46 _ _ _ _
      replace e6 : _ = (3 : Int32) := e6
      refine sk_S.iconst (v := 1) (dd DX8_eatsOf 7 rfl) (by decide) ?_
      refine sk_S.aload_n (i := 0) (dd DX8_eatsOf 8 rfl) rfl rfl ?_
      refine sk_S.getr (dd DX8_eatsOf 9 rfl) rfl fX8_9 se_54 (by decide) rfl ?_
      refine sk_S.iconst (v := 0) (dd DX8_eatsOf 10 rfl) (by decide) ?_
      refine sk_S.iald (dd DX8_eatsOf 11 rfl) se_55 (j := 0) ⟨by decide, by decide, by decide⟩ ?_
      refine sk_S.iconst (v := 2) (dd DX8_eatsOf 12 rfl) (by decide) ?_
      refine sk_S.irem (dd DX8_eatsOf 13 rfl) (by decide) ?_
      refine sk_S.iadd (dd DX8_eatsOf 14 rfl) ?_
      refine sk_S.iret (dd DX8_eatsOf 15 rfl) rfl rfl ?_
      refine ⟨rfl, ?_⟩
      (try simp only [Nat.add_zero] at *)
      simp [eatsV, *]
    · show sk_S _ _ _ _ 57 _ _ _ _
      replace e6 : _ = (4 : Int32) := e6
      refine sk_S.iconst (v := 4) (dd DX8_eatsOf 16 rfl) (by decide) ?_
      refine sk_S.iret (dd DX8_eatsOf 17 rfl) rfl rfl ?_
      refine ⟨rfl, ?_⟩
      (try simp only [Nat.add_zero] at *)
      simp [eatsV, *]
    · show sk_S _ _ _ _ 59 _ _ _ _
      replace e6 : _ = (5 : Int32) := e6
      refine sk_S.iconst (v := 0) (dd DX8_eatsOf 18 rfl) (by decide) ?_
      refine sk_S.iret (dd DX8_eatsOf 19 rfl) rfl rfl ?_
      refine ⟨rfl, ?_⟩
      (try simp only [Nat.add_zero] at *)
      simp [eatsV, *]
    · show sk_S _ _ _ _ 57 _ _ _ _
      replace e6 : _ = (6 : Int32) := e6
      refine sk_S.iconst (v := 4) (dd DX8_eatsOf 16 rfl) (by decide) ?_
      refine sk_S.iret (dd DX8_eatsOf 17 rfl) rfl rfl ?_
      refine ⟨rfl, ?_⟩
      (try simp only [Nat.add_zero] at *)
      simp [eatsV, *]
    · exact absurd hj6 (by simp)
  · show sk_S _ _ _ _ 61 _ _ _ _
    have e6_ := (⟨e6 0 (by decide), e6 1 (by decide), e6 2 (by decide), e6 3 (by decide), e6 4 (by decide), e6 5 (by decide)⟩ : ¬ _ = (1 : Int32) ∧ ¬ _ = (2 : Int32) ∧ ¬ _ = (3 : Int32) ∧ ¬ _ = (4 : Int32) ∧ ¬ _ = (5 : Int32) ∧ ¬ _ = (6 : Int32))
    refine sk_S.iconst (v := 1) (dd DX8_eatsOf 20 rfl) (by decide) ?_
    refine sk_S.iret (dd DX8_eatsOf 21 rfl) rfl rfl ?_
    refine ⟨rfl, ?_⟩
    (try simp only [Nat.add_zero] at *)
    simp [eatsV, *]
end M1
end
section
section SPEC2
/-- what a sign of a text joins two numbers to -/
def twoV (s x y : Int32) : Int32 :=
  if s = 43 then x + y else if s = 45 then x - y else if s = 42 then x * y else if s = 47 then (if y = 0 then 0 else x / y) else if s = 37 then (if y = 0 then 0 else x - x / y * y)
  else if s = 60 then bi (x < y) else if s = 61 then bi (x = y) else if s = 62 then bi (y < x) else if s = 38 then bi (¬ x = 0 ∧ ¬ y = 0) else bi (¬ x = 0 ∨ ¬ y = 0)
def nmV (v a b c : Int32) : Int32 := if v = 0 then a else if v = 1 then b else c
/-- one step of a text on a pile -/
def evT (w v a b c : Int32) (s : Nat × (Nat → Int32)) : Nat × (Nat → Int32) :=
  if w = 1 then (s.1 + 1, upd s.2 s.1 v) else if w = 2 then (s.1 + 1, upd s.2 s.1 (nmV v a b c)) else if w = 3 then (s.1, upd s.2 (s.1 - 1) (bi (s.2 (s.1 - 1) = 0)))
  else (s.1 - 1, upd s.2 (s.1 - 2) (twoV w (s.2 (s.1 - 2)) (s.2 (s.1 - 1))))
def evS (A B : Nat → Int32) (a b c : Int32) (p : Nat → Int32) : Nat → Nat × (Nat → Int32)
  | 0 => (0, p)
  | k + 1 => evT (A k) (B k) a b c (evS A B a b c p k)
def depN (A : Nat → Int32) : Nat → Nat
  | 0 => 0
  | k + 1 => if A k = 1 then depN A k + 1 else if A k = 2 then depN A k + 1 else if A k = 3 then depN A k else depN A k - 1
theorem depN_le (A : Nat → Int32) : ∀ k, depN A k ≤ k
  | 0 => Nat.le_refl _
  | k + 1 => by
    have ih := depN_le A k
    unfold depN
    split <;> (try split) <;> (try split) <;> omega
theorem evS_dep {A B : Nat → Int32} {a b c : Int32} {p : Nat → Int32} : ∀ k, (evS A B a b c p k).1 = depN A k
  | 0 => rfl
  | k + 1 => by
    have ih := evS_dep (A := A) (B := B) (a := a) (b := b) (c := c) (p := p) k
    unfold evS depN evT
    split <;> (try split) <;> (try split) <;> simp_all
/-- a text that can be worked out -/
def lawW (n : Nat) (A B : Nat → Int32) : Prop := n ≤ 60 ∧ (∀ k, k < n → (A k = 2 → B k = 0 ∨ B k = 1 ∨ B k = 2) ∧ (A k = 3 → 1 ≤ depN A k) ∧ (¬ A k = 1 → ¬ A k = 2 → ¬ A k = 3 → 2 ≤ depN A k)) ∧ (0 < n → 1 ≤ depN A n)
/-- what stands on the pile doesn't hang on what stood above it -/
theorem evS_low {A B : Nat → Int32} {a b c : Int32} {p q : Nat → Int32} {n : Nat} (hw : lawW n A B) : ∀ k, k ≤ n → ∀ i, i < depN A k → (evS A B a b c p k).2 i = (evS A B a b c q k).2 i
  | 0, _, i, hi => absurd hi (Nat.not_lt_zero _)
  | k + 1, hk, i, hi => by
    have ih := evS_low hw (a := a) (b := b) (c := c) (p := p) (q := q) k (by omega)
    have e1 := evS_dep (A := A) (B := B) (a := a) (b := b) (c := c) (p := p) k
    have e2 := evS_dep (A := A) (B := B) (a := a) (b := b) (c := c) (p := q) k
    obtain ⟨w1, w2, w3⟩ := hw.2.1 k (by omega)
    show (evT (A k) (B k) a b c (evS A B a b c p k)).2 i = (evT (A k) (B k) a b c (evS A B a b c q k)).2 i
    unfold depN at hi
    unfold evT upd
    by_cases h1 : A k = 1
    · rw [if_pos h1] at hi
      simp only [if_pos h1, e1, e2]
      by_cases q1 : i = depN A k
      · simp [q1]
      · simp only [if_neg q1]; exact ih i (by omega)
    · by_cases h2 : A k = 2
      · rw [if_neg h1, if_pos h2] at hi
        simp only [if_neg h1, if_pos h2, e1, e2]
        by_cases q1 : i = depN A k
        · simp [q1]
        · simp only [if_neg q1]
          exact ih i (by omega)
      · by_cases h3 : A k = 3
        · rw [if_neg h1, if_neg h2, if_pos h3] at hi
          have w := w2 h3
          simp only [if_neg h1, if_neg h2, if_pos h3, e1, e2, ih (depN A k - 1) (by omega)]
          by_cases q1 : i = depN A k - 1
          · simp [q1]
          · simp only [if_neg q1]
            exact ih i (by omega)
        · rw [if_neg h1, if_neg h2, if_neg h3] at hi
          have w := w3 h1 h2 h3
          simp only [if_neg h1, if_neg h2, if_neg h3, e1, e2, ih (depN A k - 1) (by omega), ih (depN A k - 2) (by omega)]
          by_cases q1 : i = depN A k - 2
          · simp [q1]
          · simp only [if_neg q1]
            exact ih i (by omega)
/-- the texts in the reference's row -/
abbrev laA (g : Nat → Int32) (u : Nat) : Nat → Int32 := fun k => g (120 + 121 * u + k)
abbrev laB (g : Nat → Int32) (u : Nat) : Nat → Int32 := fun k => g (180 + 121 * u + k)
def laN (g : Nat → Int32) (u : Nat) : Nat := (g (119 + 121 * u)).toNatClampNeg
def lawI (g : Nat → Int32) (u : Nat) : Prop := g (119 + 121 * u) = nI (laN g u) ∧ lawW (laN g u) (laA g u) (laB g u)
def lawV (g : Nat → Int32) (u : Nat) (a b c : Int32) : Int32 := (evS (laA g u) (laB g u) a b c (fun _ => 0) (laN g u)).2 0
def gvV (g : Nat → Int32) (u : Nat) (a b c : Int32) : Int32 := heldV (if 0 < laN g u then lawV g u a b c else a) 0 99
def landsG (g : Nat → Int32) (j : Nat) (f s sea day : Int32) : Int32 := if g (17 + 3 * j + 2) = 1 then 0 else gvV g 0 (haulsV (g (17 + 3 * j)) (g (17 + 3 * j + 1)) sea day f) sea s
def sumN (f : Nat → Int32) : Nat → Int32
  | 0 => 0
  | n + 1 => sumN f n + f n
def boN (g : Nat → Int32) : Nat := (g 2).toNatClampNeg
def catchG (g : Nat → Int32) (f s sea day : Int32) : Int32 := sumN (fun j => landsG g j f s sea day) (boN g)
def shortG (g : Nat → Int32) (f s : Int32) : Int32 := if s - catchG g f s (g 3) (g 0) < 0 then 0 else s - catchG g f s (g 3) (g 0)
def coinsG (g : Nat → Int32) (f : Nat) (s : Int32) : Int32 := gvV g 1 (g (13 + f)) (g 6) s
/-- rows that stayed -/
def sk_o (S : List Nat) (h g : sk_M) : Prop := ∀ k, k ∉ S → g k = h k
theorem sk_o.rf {S : List Nat} {h : sk_M} : sk_o S h h := fun _ _ => rfl
theorem sk_o.tr {S : List Nat} {h g f : sk_M} (a : sk_o S h g) (b : sk_o S g f) : sk_o S h f := fun k hk => (b k hk).trans (a k hk)
theorem sk_o.r {S : List Nat} {h g : sk_M} {k : Nat} {f : Nat → Int32} (a : sk_o S h g) (hk : k ∈ S) : sk_o S h (sk_r g k f) := fun j hj => (sk_r_ne g f (fun e => hj (by rw [e]; exact hk))).trans (a j hj)
theorem sk_o.u {S : List Nat} {h g : sk_M} {k i : Nat} {x : Int32} (a : sk_o S h g) (hk : k ∈ S) : sk_o S h (sk_u g k i x) := a.r hk
theorem sk_o.more {S S1 : List Nat} {h g : sk_M} (a : sk_o S h g) (hk : ∀ k ∈ S, k ∈ S1) : sk_o S1 h g := fun j hj => a j (fun q => hj (hk j q))
theorem sk_u_at (h : sk_M) (k i : Nat) (x : Int32) (a j : Nat) : sk_u h k i x a j = if a = k then (if j = i then x else h k j) else h a j := by
  unfold sk_u sk_r upd
  split <;> rfl
theorem nI_sub {a b : Nat} (h : b ≤ a) : nI a - nI b = nI (a - b) := by
  have e : nI a = nI (a - b) + nI b := by rw [nI_add, Nat.sub_add_cancel h]
  rw [e, Int32.add_sub_cancel]
end SPEC2
end
section
section M2
set_option maxRecDepth 100000 in
set_option maxHeartbeats 4000000 in
theorem cM_twoOf {l : Launch} {E : sk_V} {d : Nat} {h : sk_M} {w x y : Int32}  : sk_K l E (d + 0) MX8_twoOf [.int w, .int x, .int y] h (fun r h1 => h = h1 ∧ some (.int (twoV w x y)) = r) := by
  refine sk_K.of (by decide +kernel) (Nat.le_of_ble_eq_true rfl) ?_
  show sk_S l E (d + 0) _ 0 [some (.int w), some (.int x), some (.int y)] [] h _
  refine sk_S.iload_n (i := 0) (dd DX8_twoOf 0 rfl) rfl rfl ?_
  refine sk_S.tabL (dd DX8_twoOf 1 rfl) rfl (by decide) (by decide) (by decide) (fun j1 hj1 e1 => ?_) (fun e1 => ?_)
  · rcases j1 with _ | _ | _ | _ | _ | _ | _ | _ | _ | _ | _ | _ | _ | _ | _ | _ | _ | _ | _ | _ | _ | _ | _ | _ | _ | _ | j1
    · show sk_S _ _ _ _ 144 _ _ _ _
      replace e1 : _ = (37 : Int32) := e1
      refine sk_S.iload_n (i := 2) (dd DX8_twoOf 22 rfl) rfl rfl ?_
      refine sk_S.if_ne (tgt := 152) (dd DX8_twoOf 23 rfl) (by decide) (fun c145 => ?_) (fun c145 => ?_)
      · refine sk_S.iload_n (i := 1) (dd DX8_twoOf 26 rfl) rfl rfl ?_
        refine sk_S.iload_n (i := 2) (dd DX8_twoOf 27 rfl) rfl rfl ?_
        refine sk_S.irem (dd DX8_twoOf 28 rfl) (by assumption) ?_
        refine sk_S.iret (dd DX8_twoOf 29 rfl) rfl rfl ?_
        refine ⟨rfl, ?_⟩
        first | simp [twoV, bi, *] | (simp only [← Int32.not_le] at *; simp [twoV, bi, *])
      · refine sk_S.iconst (v := 0) (dd DX8_twoOf 24 rfl) (by decide) ?_
        refine sk_S.goto (tgt := 155) (dd DX8_twoOf 25 rfl) (by decide) ?_
        refine sk_S.iret (dd DX8_twoOf 29 rfl) rfl rfl ?_
        refine ⟨rfl, ?_⟩
        first | simp [twoV, bi, *] | (simp only [← Int32.not_le] at *; simp [twoV, bi, *])
    · show sk_S _ _ _ _ 189 _ _ _ _
      replace e1 : _ = (38 : Int32) := e1
      refine sk_S.iload_n (i := 1) (dd DX8_twoOf 51 rfl) rfl rfl ?_
      refine sk_S.if_eq (tgt := 201) (dd DX8_twoOf 52 rfl) (by decide) (fun c190 => ?_) (fun c190 => ?_)
      · refine sk_S.iconst (v := 0) (dd DX8_twoOf 57 rfl) (by decide) ?_
        refine sk_S.iret (dd DX8_twoOf 58 rfl) rfl rfl ?_
        refine ⟨rfl, ?_⟩
        first | simp [twoV, bi, *] | (simp only [← Int32.not_le] at *; simp [twoV, bi, *])
      · refine sk_S.iload_n (i := 2) (dd DX8_twoOf 53 rfl) rfl rfl ?_
        refine sk_S.if_eq (tgt := 201) (dd DX8_twoOf 54 rfl) (by decide) (fun c194 => ?_) (fun c194 => ?_)
        · refine sk_S.iconst (v := 0) (dd DX8_twoOf 57 rfl) (by decide) ?_
          refine sk_S.iret (dd DX8_twoOf 58 rfl) rfl rfl ?_
          refine ⟨rfl, ?_⟩
          first | simp [twoV, bi, *] | (simp only [← Int32.not_le] at *; simp [twoV, bi, *])
        · refine sk_S.iconst (v := 1) (dd DX8_twoOf 55 rfl) (by decide) ?_
          refine sk_S.goto (tgt := 202) (dd DX8_twoOf 56 rfl) (by decide) ?_
          refine sk_S.iret (dd DX8_twoOf 58 rfl) rfl rfl ?_
          refine ⟨rfl, ?_⟩
          first | simp [twoV, bi, *] | (simp only [← Int32.not_le] at *; simp [twoV, bi, *])
    · show sk_S _ _ _ _ 203 _ _ _ _
      replace e1 : _ = (39 : Int32) := e1
      refine sk_S.iload_n (i := 1) (dd DX8_twoOf 59 rfl) rfl rfl ?_
      refine sk_S.if_ne (tgt := 211) (dd DX8_twoOf 60 rfl) (by decide) (fun c204 => ?_) (fun c204 => ?_)
      · refine sk_S.iconst (v := 1) (dd DX8_twoOf 63 rfl) (by decide) ?_
        refine sk_S.goto (tgt := 216) (dd DX8_twoOf 64 rfl) (by decide) ?_
        refine sk_S.iret (dd DX8_twoOf 66 rfl) rfl rfl ?_
        refine ⟨rfl, ?_⟩
        first | simp [twoV, bi, *] | (simp only [← Int32.not_le] at *; simp [twoV, bi, *])
      · refine sk_S.iload_n (i := 2) (dd DX8_twoOf 61 rfl) rfl rfl ?_
        refine sk_S.if_eq (tgt := 215) (dd DX8_twoOf 62 rfl) (by decide) (fun c208 => ?_) (fun c208 => ?_)
        · refine sk_S.iconst (v := 0) (dd DX8_twoOf 65 rfl) (by decide) ?_
          refine sk_S.iret (dd DX8_twoOf 66 rfl) rfl rfl ?_
          refine ⟨rfl, ?_⟩
          first | simp [twoV, bi, *] | (simp only [← Int32.not_le] at *; simp [twoV, bi, *])
        · refine sk_S.iconst (v := 1) (dd DX8_twoOf 63 rfl) (by decide) ?_
          refine sk_S.goto (tgt := 216) (dd DX8_twoOf 64 rfl) (by decide) ?_
          refine sk_S.iret (dd DX8_twoOf 66 rfl) rfl rfl ?_
          refine ⟨rfl, ?_⟩
          first | simp [twoV, bi, *] | (simp only [← Int32.not_le] at *; simp [twoV, bi, *])
    · show sk_S _ _ _ _ 203 _ _ _ _
      replace e1 : _ = (40 : Int32) := e1
      refine sk_S.iload_n (i := 1) (dd DX8_twoOf 59 rfl) rfl rfl ?_
      refine sk_S.if_ne (tgt := 211) (dd DX8_twoOf 60 rfl) (by decide) (fun c204 => ?_) (fun c204 => ?_)
      · refine sk_S.iconst (v := 1) (dd DX8_twoOf 63 rfl) (by decide) ?_
        refine sk_S.goto (tgt := 216) (dd DX8_twoOf 64 rfl) (by decide) ?_
        refine sk_S.iret (dd DX8_twoOf 66 rfl) rfl rfl ?_
        refine ⟨rfl, ?_⟩
        first | simp [twoV, bi, *] | (simp only [← Int32.not_le] at *; simp [twoV, bi, *])
      · refine sk_S.iload_n (i := 2) (dd DX8_twoOf 61 rfl) rfl rfl ?_
        refine sk_S.if_eq (tgt := 215) (dd DX8_twoOf 62 rfl) (by decide) (fun c208 => ?_) (fun c208 => ?_)
        · refine sk_S.iconst (v := 0) (dd DX8_twoOf 65 rfl) (by decide) ?_
          refine sk_S.iret (dd DX8_twoOf 66 rfl) rfl rfl ?_
          refine ⟨rfl, ?_⟩
          first | simp [twoV, bi, *] | (simp only [← Int32.not_le] at *; simp [twoV, bi, *])
        · refine sk_S.iconst (v := 1) (dd DX8_twoOf 63 rfl) (by decide) ?_
          refine sk_S.goto (tgt := 216) (dd DX8_twoOf 64 rfl) (by decide) ?_
          refine sk_S.iret (dd DX8_twoOf 66 rfl) rfl rfl ?_
          refine ⟨rfl, ?_⟩
          first | simp [twoV, bi, *] | (simp only [← Int32.not_le] at *; simp [twoV, bi, *])
    · show sk_S _ _ _ _ 203 _ _ _ _
      replace e1 : _ = (41 : Int32) := e1
      refine sk_S.iload_n (i := 1) (dd DX8_twoOf 59 rfl) rfl rfl ?_
      refine sk_S.if_ne (tgt := 211) (dd DX8_twoOf 60 rfl) (by decide) (fun c204 => ?_) (fun c204 => ?_)
      · refine sk_S.iconst (v := 1) (dd DX8_twoOf 63 rfl) (by decide) ?_
        refine sk_S.goto (tgt := 216) (dd DX8_twoOf 64 rfl) (by decide) ?_
        refine sk_S.iret (dd DX8_twoOf 66 rfl) rfl rfl ?_
        refine ⟨rfl, ?_⟩
        first | simp [twoV, bi, *] | (simp only [← Int32.not_le] at *; simp [twoV, bi, *])
      · refine sk_S.iload_n (i := 2) (dd DX8_twoOf 61 rfl) rfl rfl ?_
        refine sk_S.if_eq (tgt := 215) (dd DX8_twoOf 62 rfl) (by decide) (fun c208 => ?_) (fun c208 => ?_)
        · refine sk_S.iconst (v := 0) (dd DX8_twoOf 65 rfl) (by decide) ?_
          refine sk_S.iret (dd DX8_twoOf 66 rfl) rfl rfl ?_
          refine ⟨rfl, ?_⟩
          first | simp [twoV, bi, *] | (simp only [← Int32.not_le] at *; simp [twoV, bi, *])
        · refine sk_S.iconst (v := 1) (dd DX8_twoOf 63 rfl) (by decide) ?_
          refine sk_S.goto (tgt := 216) (dd DX8_twoOf 64 rfl) (by decide) ?_
          refine sk_S.iret (dd DX8_twoOf 66 rfl) rfl rfl ?_
          refine ⟨rfl, ?_⟩
          first | simp [twoV, bi, *] | (simp only [← Int32.not_le] at *; simp [twoV, bi, *])
    · show sk_S _ _ _ _ 128 _ _ _ _
      replace e1 : _ = (42 : Int32) := e1
      refine sk_S.iload_n (i := 1) (dd DX8_twoOf 10 rfl) rfl rfl ?_
      refine sk_S.iload_n (i := 2) (dd DX8_twoOf 11 rfl) rfl rfl ?_
      refine sk_S.imul (dd DX8_twoOf 12 rfl) ?_
      refine sk_S.iret (dd DX8_twoOf 13 rfl) rfl rfl ?_
      refine ⟨rfl, ?_⟩
      first | simp [twoV, bi, *] | (simp only [← Int32.not_le] at *; simp [twoV, bi, *])
    · show sk_S _ _ _ _ 120 _ _ _ _
      replace e1 : _ = (43 : Int32) := e1
      refine sk_S.iload_n (i := 1) (dd DX8_twoOf 2 rfl) rfl rfl ?_
      refine sk_S.iload_n (i := 2) (dd DX8_twoOf 3 rfl) rfl rfl ?_
      refine sk_S.iadd (dd DX8_twoOf 4 rfl) ?_
      refine sk_S.iret (dd DX8_twoOf 5 rfl) rfl rfl ?_
      refine ⟨rfl, ?_⟩
      first | simp [twoV, bi, *] | (simp only [← Int32.not_le] at *; simp [twoV, bi, *])
    · show sk_S _ _ _ _ 203 _ _ _ _
      replace e1 : _ = (44 : Int32) := e1
      refine sk_S.iload_n (i := 1) (dd DX8_twoOf 59 rfl) rfl rfl ?_
      refine sk_S.if_ne (tgt := 211) (dd DX8_twoOf 60 rfl) (by decide) (fun c204 => ?_) (fun c204 => ?_)
      · refine sk_S.iconst (v := 1) (dd DX8_twoOf 63 rfl) (by decide) ?_
        refine sk_S.goto (tgt := 216) (dd DX8_twoOf 64 rfl) (by decide) ?_
        refine sk_S.iret (dd DX8_twoOf 66 rfl) rfl rfl ?_
        refine ⟨rfl, ?_⟩
        first | simp [twoV, bi, *] | (simp only [← Int32.not_le] at *; simp [twoV, bi, *])
      · refine sk_S.iload_n (i := 2) (dd DX8_twoOf 61 rfl) rfl rfl ?_
        refine sk_S.if_eq (tgt := 215) (dd DX8_twoOf 62 rfl) (by decide) (fun c208 => ?_) (fun c208 => ?_)
        · refine sk_S.iconst (v := 0) (dd DX8_twoOf 65 rfl) (by decide) ?_
          refine sk_S.iret (dd DX8_twoOf 66 rfl) rfl rfl ?_
          refine ⟨rfl, ?_⟩
          first | simp [twoV, bi, *] | (simp only [← Int32.not_le] at *; simp [twoV, bi, *])
        · refine sk_S.iconst (v := 1) (dd DX8_twoOf 63 rfl) (by decide) ?_
          refine sk_S.goto (tgt := 216) (dd DX8_twoOf 64 rfl) (by decide) ?_
          refine sk_S.iret (dd DX8_twoOf 66 rfl) rfl rfl ?_
          refine ⟨rfl, ?_⟩
          first | simp [twoV, bi, *] | (simp only [← Int32.not_le] at *; simp [twoV, bi, *])
    · show sk_S _ _ _ _ 124 _ _ _ _
      replace e1 : _ = (45 : Int32) := e1
      refine sk_S.iload_n (i := 1) (dd DX8_twoOf 6 rfl) rfl rfl ?_
      refine sk_S.iload_n (i := 2) (dd DX8_twoOf 7 rfl) rfl rfl ?_
      refine sk_S.isub (dd DX8_twoOf 8 rfl) ?_
      refine sk_S.iret (dd DX8_twoOf 9 rfl) rfl rfl ?_
      refine ⟨rfl, ?_⟩
      first | simp [twoV, bi, *] | (simp only [← Int32.not_le] at *; simp [twoV, bi, *])
    · show sk_S _ _ _ _ 203 _ _ _ _
      replace e1 : _ = (46 : Int32) := e1
      refine sk_S.iload_n (i := 1) (dd DX8_twoOf 59 rfl) rfl rfl ?_
      refine sk_S.if_ne (tgt := 211) (dd DX8_twoOf 60 rfl) (by decide) (fun c204 => ?_) (fun c204 => ?_)
      · refine sk_S.iconst (v := 1) (dd DX8_twoOf 63 rfl) (by decide) ?_
        refine sk_S.goto (tgt := 216) (dd DX8_twoOf 64 rfl) (by decide) ?_
        refine sk_S.iret (dd DX8_twoOf 66 rfl) rfl rfl ?_
        refine ⟨rfl, ?_⟩
        first | simp [twoV, bi, *] | (simp only [← Int32.not_le] at *; simp [twoV, bi, *])
      · refine sk_S.iload_n (i := 2) (dd DX8_twoOf 61 rfl) rfl rfl ?_
        refine sk_S.if_eq (tgt := 215) (dd DX8_twoOf 62 rfl) (by decide) (fun c208 => ?_) (fun c208 => ?_)
        · refine sk_S.iconst (v := 0) (dd DX8_twoOf 65 rfl) (by decide) ?_
          refine sk_S.iret (dd DX8_twoOf 66 rfl) rfl rfl ?_
          refine ⟨rfl, ?_⟩
          first | simp [twoV, bi, *] | (simp only [← Int32.not_le] at *; simp [twoV, bi, *])
        · refine sk_S.iconst (v := 1) (dd DX8_twoOf 63 rfl) (by decide) ?_
          refine sk_S.goto (tgt := 216) (dd DX8_twoOf 64 rfl) (by decide) ?_
          refine sk_S.iret (dd DX8_twoOf 66 rfl) rfl rfl ?_
          refine ⟨rfl, ?_⟩
          first | simp [twoV, bi, *] | (simp only [← Int32.not_le] at *; simp [twoV, bi, *])
    · show sk_S _ _ _ _ 132 _ _ _ _
      replace e1 : _ = (47 : Int32) := e1
      refine sk_S.iload_n (i := 2) (dd DX8_twoOf 14 rfl) rfl rfl ?_
      refine sk_S.if_ne (tgt := 140) (dd DX8_twoOf 15 rfl) (by decide) (fun c133 => ?_) (fun c133 => ?_)
      · refine sk_S.iload_n (i := 1) (dd DX8_twoOf 18 rfl) rfl rfl ?_
        refine sk_S.iload_n (i := 2) (dd DX8_twoOf 19 rfl) rfl rfl ?_
        refine sk_S.idiv (dd DX8_twoOf 20 rfl) (by assumption) ?_
        refine sk_S.iret (dd DX8_twoOf 21 rfl) rfl rfl ?_
        refine ⟨rfl, ?_⟩
        first | simp [twoV, bi, *] | (simp only [← Int32.not_le] at *; simp [twoV, bi, *])
      · refine sk_S.iconst (v := 0) (dd DX8_twoOf 16 rfl) (by decide) ?_
        refine sk_S.goto (tgt := 143) (dd DX8_twoOf 17 rfl) (by decide) ?_
        refine sk_S.iret (dd DX8_twoOf 21 rfl) rfl rfl ?_
        refine ⟨rfl, ?_⟩
        first | simp [twoV, bi, *] | (simp only [← Int32.not_le] at *; simp [twoV, bi, *])
    · show sk_S _ _ _ _ 203 _ _ _ _
      replace e1 : _ = (48 : Int32) := e1
      refine sk_S.iload_n (i := 1) (dd DX8_twoOf 59 rfl) rfl rfl ?_
      refine sk_S.if_ne (tgt := 211) (dd DX8_twoOf 60 rfl) (by decide) (fun c204 => ?_) (fun c204 => ?_)
      · refine sk_S.iconst (v := 1) (dd DX8_twoOf 63 rfl) (by decide) ?_
        refine sk_S.goto (tgt := 216) (dd DX8_twoOf 64 rfl) (by decide) ?_
        refine sk_S.iret (dd DX8_twoOf 66 rfl) rfl rfl ?_
        refine ⟨rfl, ?_⟩
        first | simp [twoV, bi, *] | (simp only [← Int32.not_le] at *; simp [twoV, bi, *])
      · refine sk_S.iload_n (i := 2) (dd DX8_twoOf 61 rfl) rfl rfl ?_
        refine sk_S.if_eq (tgt := 215) (dd DX8_twoOf 62 rfl) (by decide) (fun c208 => ?_) (fun c208 => ?_)
        · refine sk_S.iconst (v := 0) (dd DX8_twoOf 65 rfl) (by decide) ?_
          refine sk_S.iret (dd DX8_twoOf 66 rfl) rfl rfl ?_
          refine ⟨rfl, ?_⟩
          first | simp [twoV, bi, *] | (simp only [← Int32.not_le] at *; simp [twoV, bi, *])
        · refine sk_S.iconst (v := 1) (dd DX8_twoOf 63 rfl) (by decide) ?_
          refine sk_S.goto (tgt := 216) (dd DX8_twoOf 64 rfl) (by decide) ?_
          refine sk_S.iret (dd DX8_twoOf 66 rfl) rfl rfl ?_
          refine ⟨rfl, ?_⟩
          first | simp [twoV, bi, *] | (simp only [← Int32.not_le] at *; simp [twoV, bi, *])
    · show sk_S _ _ _ _ 203 _ _ _ _
      replace e1 : _ = (49 : Int32) := e1
      refine sk_S.iload_n (i := 1) (dd DX8_twoOf 59 rfl) rfl rfl ?_
      refine sk_S.if_ne (tgt := 211) (dd DX8_twoOf 60 rfl) (by decide) (fun c204 => ?_) (fun c204 => ?_)
      · refine sk_S.iconst (v := 1) (dd DX8_twoOf 63 rfl) (by decide) ?_
        refine sk_S.goto (tgt := 216) (dd DX8_twoOf 64 rfl) (by decide) ?_
        refine sk_S.iret (dd DX8_twoOf 66 rfl) rfl rfl ?_
        refine ⟨rfl, ?_⟩
        first | simp [twoV, bi, *] | (simp only [← Int32.not_le] at *; simp [twoV, bi, *])
      · refine sk_S.iload_n (i := 2) (dd DX8_twoOf 61 rfl) rfl rfl ?_
        refine sk_S.if_eq (tgt := 215) (dd DX8_twoOf 62 rfl) (by decide) (fun c208 => ?_) (fun c208 => ?_)
        · refine sk_S.iconst (v := 0) (dd DX8_twoOf 65 rfl) (by decide) ?_
          refine sk_S.iret (dd DX8_twoOf 66 rfl) rfl rfl ?_
          refine ⟨rfl, ?_⟩
          first | simp [twoV, bi, *] | (simp only [← Int32.not_le] at *; simp [twoV, bi, *])
        · refine sk_S.iconst (v := 1) (dd DX8_twoOf 63 rfl) (by decide) ?_
          refine sk_S.goto (tgt := 216) (dd DX8_twoOf 64 rfl) (by decide) ?_
          refine sk_S.iret (dd DX8_twoOf 66 rfl) rfl rfl ?_
          refine ⟨rfl, ?_⟩
          first | simp [twoV, bi, *] | (simp only [← Int32.not_le] at *; simp [twoV, bi, *])
    · show sk_S _ _ _ _ 203 _ _ _ _
      replace e1 : _ = (50 : Int32) := e1
      refine sk_S.iload_n (i := 1) (dd DX8_twoOf 59 rfl) rfl rfl ?_
      refine sk_S.if_ne (tgt := 211) (dd DX8_twoOf 60 rfl) (by decide) (fun c204 => ?_) (fun c204 => ?_)
      · refine sk_S.iconst (v := 1) (dd DX8_twoOf 63 rfl) (by decide) ?_
        refine sk_S.goto (tgt := 216) (dd DX8_twoOf 64 rfl) (by decide) ?_
        refine sk_S.iret (dd DX8_twoOf 66 rfl) rfl rfl ?_
        refine ⟨rfl, ?_⟩
        first | simp [twoV, bi, *] | (simp only [← Int32.not_le] at *; simp [twoV, bi, *])
      · refine sk_S.iload_n (i := 2) (dd DX8_twoOf 61 rfl) rfl rfl ?_
        refine sk_S.if_eq (tgt := 215) (dd DX8_twoOf 62 rfl) (by decide) (fun c208 => ?_) (fun c208 => ?_)
        · refine sk_S.iconst (v := 0) (dd DX8_twoOf 65 rfl) (by decide) ?_
          refine sk_S.iret (dd DX8_twoOf 66 rfl) rfl rfl ?_
          refine ⟨rfl, ?_⟩
          first | simp [twoV, bi, *] | (simp only [← Int32.not_le] at *; simp [twoV, bi, *])
        · refine sk_S.iconst (v := 1) (dd DX8_twoOf 63 rfl) (by decide) ?_
          refine sk_S.goto (tgt := 216) (dd DX8_twoOf 64 rfl) (by decide) ?_
          refine sk_S.iret (dd DX8_twoOf 66 rfl) rfl rfl ?_
          refine ⟨rfl, ?_⟩
          first | simp [twoV, bi, *] | (simp only [← Int32.not_le] at *; simp [twoV, bi, *])
    · show sk_S _ _ _ _ 203 _ _ _ _
      replace e1 : _ = (51 : Int32) := e1
      refine sk_S.iload_n (i := 1) (dd DX8_twoOf 59 rfl) rfl rfl ?_
      refine sk_S.if_ne (tgt := 211) (dd DX8_twoOf 60 rfl) (by decide) (fun c204 => ?_) (fun c204 => ?_)
      · refine sk_S.iconst (v := 1) (dd DX8_twoOf 63 rfl) (by decide) ?_
        refine sk_S.goto (tgt := 216) (dd DX8_twoOf 64 rfl) (by decide) ?_
        refine sk_S.iret (dd DX8_twoOf 66 rfl) rfl rfl ?_
        refine ⟨rfl, ?_⟩
        first | simp [twoV, bi, *] | (simp only [← Int32.not_le] at *; simp [twoV, bi, *])
      · refine sk_S.iload_n (i := 2) (dd DX8_twoOf 61 rfl) rfl rfl ?_
        refine sk_S.if_eq (tgt := 215) (dd DX8_twoOf 62 rfl) (by decide) (fun c208 => ?_) (fun c208 => ?_)
        · refine sk_S.iconst (v := 0) (dd DX8_twoOf 65 rfl) (by decide) ?_
          refine sk_S.iret (dd DX8_twoOf 66 rfl) rfl rfl ?_
          refine ⟨rfl, ?_⟩
          first | simp [twoV, bi, *] | (simp only [← Int32.not_le] at *; simp [twoV, bi, *])
        · refine sk_S.iconst (v := 1) (dd DX8_twoOf 63 rfl) (by decide) ?_
          refine sk_S.goto (tgt := 216) (dd DX8_twoOf 64 rfl) (by decide) ?_
          refine sk_S.iret (dd DX8_twoOf 66 rfl) rfl rfl ?_
          refine ⟨rfl, ?_⟩
          first | simp [twoV, bi, *] | (simp only [← Int32.not_le] at *; simp [twoV, bi, *])
    · show sk_S _ _ _ _ 203 _ _ _ _
      replace e1 : _ = (52 : Int32) := e1
      refine sk_S.iload_n (i := 1) (dd DX8_twoOf 59 rfl) rfl rfl ?_
      refine sk_S.if_ne (tgt := 211) (dd DX8_twoOf 60 rfl) (by decide) (fun c204 => ?_) (fun c204 => ?_)
      · refine sk_S.iconst (v := 1) (dd DX8_twoOf 63 rfl) (by decide) ?_
        refine sk_S.goto (tgt := 216) (dd DX8_twoOf 64 rfl) (by decide) ?_
        refine sk_S.iret (dd DX8_twoOf 66 rfl) rfl rfl ?_
        refine ⟨rfl, ?_⟩
        first | simp [twoV, bi, *] | (simp only [← Int32.not_le] at *; simp [twoV, bi, *])
      · refine sk_S.iload_n (i := 2) (dd DX8_twoOf 61 rfl) rfl rfl ?_
        refine sk_S.if_eq (tgt := 215) (dd DX8_twoOf 62 rfl) (by decide) (fun c208 => ?_) (fun c208 => ?_)
        · refine sk_S.iconst (v := 0) (dd DX8_twoOf 65 rfl) (by decide) ?_
          refine sk_S.iret (dd DX8_twoOf 66 rfl) rfl rfl ?_
          refine ⟨rfl, ?_⟩
          first | simp [twoV, bi, *] | (simp only [← Int32.not_le] at *; simp [twoV, bi, *])
        · refine sk_S.iconst (v := 1) (dd DX8_twoOf 63 rfl) (by decide) ?_
          refine sk_S.goto (tgt := 216) (dd DX8_twoOf 64 rfl) (by decide) ?_
          refine sk_S.iret (dd DX8_twoOf 66 rfl) rfl rfl ?_
          refine ⟨rfl, ?_⟩
          first | simp [twoV, bi, *] | (simp only [← Int32.not_le] at *; simp [twoV, bi, *])
    · show sk_S _ _ _ _ 203 _ _ _ _
      replace e1 : _ = (53 : Int32) := e1
      refine sk_S.iload_n (i := 1) (dd DX8_twoOf 59 rfl) rfl rfl ?_
      refine sk_S.if_ne (tgt := 211) (dd DX8_twoOf 60 rfl) (by decide) (fun c204 => ?_) (fun c204 => ?_)
      · refine sk_S.iconst (v := 1) (dd DX8_twoOf 63 rfl) (by decide) ?_
        refine sk_S.goto (tgt := 216) (dd DX8_twoOf 64 rfl) (by decide) ?_
        refine sk_S.iret (dd DX8_twoOf 66 rfl) rfl rfl ?_
        refine ⟨rfl, ?_⟩
        first | simp [twoV, bi, *] | (simp only [← Int32.not_le] at *; simp [twoV, bi, *])
      · refine sk_S.iload_n (i := 2) (dd DX8_twoOf 61 rfl) rfl rfl ?_
        refine sk_S.if_eq (tgt := 215) (dd DX8_twoOf 62 rfl) (by decide) (fun c208 => ?_) (fun c208 => ?_)
        · refine sk_S.iconst (v := 0) (dd DX8_twoOf 65 rfl) (by decide) ?_
          refine sk_S.iret (dd DX8_twoOf 66 rfl) rfl rfl ?_
          refine ⟨rfl, ?_⟩
          first | simp [twoV, bi, *] | (simp only [← Int32.not_le] at *; simp [twoV, bi, *])
        · refine sk_S.iconst (v := 1) (dd DX8_twoOf 63 rfl) (by decide) ?_
          refine sk_S.goto (tgt := 216) (dd DX8_twoOf 64 rfl) (by decide) ?_
          refine sk_S.iret (dd DX8_twoOf 66 rfl) rfl rfl ?_
          refine ⟨rfl, ?_⟩
          first | simp [twoV, bi, *] | (simp only [← Int32.not_le] at *; simp [twoV, bi, *])
    · show sk_S _ _ _ _ 203 _ _ _ _
      replace e1 : _ = (54 : Int32) := e1
      refine sk_S.iload_n (i := 1) (dd DX8_twoOf 59 rfl) rfl rfl ?_
      refine sk_S.if_ne (tgt := 211) (dd DX8_twoOf 60 rfl) (by decide) (fun c204 => ?_) (fun c204 => ?_)
      · refine sk_S.iconst (v := 1) (dd DX8_twoOf 63 rfl) (by decide) ?_
        refine sk_S.goto (tgt := 216) (dd DX8_twoOf 64 rfl) (by decide) ?_
        refine sk_S.iret (dd DX8_twoOf 66 rfl) rfl rfl ?_
        refine ⟨rfl, ?_⟩
        first | simp [twoV, bi, *] | (simp only [← Int32.not_le] at *; simp [twoV, bi, *])
      · refine sk_S.iload_n (i := 2) (dd DX8_twoOf 61 rfl) rfl rfl ?_
        refine sk_S.if_eq (tgt := 215) (dd DX8_twoOf 62 rfl) (by decide) (fun c208 => ?_) (fun c208 => ?_)
        · refine sk_S.iconst (v := 0) (dd DX8_twoOf 65 rfl) (by decide) ?_
          refine sk_S.iret (dd DX8_twoOf 66 rfl) rfl rfl ?_
          refine ⟨rfl, ?_⟩
          first | simp [twoV, bi, *] | (simp only [← Int32.not_le] at *; simp [twoV, bi, *])
        · refine sk_S.iconst (v := 1) (dd DX8_twoOf 63 rfl) (by decide) ?_
          refine sk_S.goto (tgt := 216) (dd DX8_twoOf 64 rfl) (by decide) ?_
          refine sk_S.iret (dd DX8_twoOf 66 rfl) rfl rfl ?_
          refine ⟨rfl, ?_⟩
          first | simp [twoV, bi, *] | (simp only [← Int32.not_le] at *; simp [twoV, bi, *])
    · show sk_S _ _ _ _ 203 _ _ _ _
      replace e1 : _ = (55 : Int32) := e1
      refine sk_S.iload_n (i := 1) (dd DX8_twoOf 59 rfl) rfl rfl ?_
      refine sk_S.if_ne (tgt := 211) (dd DX8_twoOf 60 rfl) (by decide) (fun c204 => ?_) (fun c204 => ?_)
      · refine sk_S.iconst (v := 1) (dd DX8_twoOf 63 rfl) (by decide) ?_
        refine sk_S.goto (tgt := 216) (dd DX8_twoOf 64 rfl) (by decide) ?_
        refine sk_S.iret (dd DX8_twoOf 66 rfl) rfl rfl ?_
        refine ⟨rfl, ?_⟩
        first | simp [twoV, bi, *] | (simp only [← Int32.not_le] at *; simp [twoV, bi, *])
      · refine sk_S.iload_n (i := 2) (dd DX8_twoOf 61 rfl) rfl rfl ?_
        refine sk_S.if_eq (tgt := 215) (dd DX8_twoOf 62 rfl) (by decide) (fun c208 => ?_) (fun c208 => ?_)
        · refine sk_S.iconst (v := 0) (dd DX8_twoOf 65 rfl) (by decide) ?_
          refine sk_S.iret (dd DX8_twoOf 66 rfl) rfl rfl ?_
          refine ⟨rfl, ?_⟩
          first | simp [twoV, bi, *] | (simp only [← Int32.not_le] at *; simp [twoV, bi, *])
        · refine sk_S.iconst (v := 1) (dd DX8_twoOf 63 rfl) (by decide) ?_
          refine sk_S.goto (tgt := 216) (dd DX8_twoOf 64 rfl) (by decide) ?_
          refine sk_S.iret (dd DX8_twoOf 66 rfl) rfl rfl ?_
          refine ⟨rfl, ?_⟩
          first | simp [twoV, bi, *] | (simp only [← Int32.not_le] at *; simp [twoV, bi, *])
    · show sk_S _ _ _ _ 203 _ _ _ _
      replace e1 : _ = (56 : Int32) := e1
      refine sk_S.iload_n (i := 1) (dd DX8_twoOf 59 rfl) rfl rfl ?_
      refine sk_S.if_ne (tgt := 211) (dd DX8_twoOf 60 rfl) (by decide) (fun c204 => ?_) (fun c204 => ?_)
      · refine sk_S.iconst (v := 1) (dd DX8_twoOf 63 rfl) (by decide) ?_
        refine sk_S.goto (tgt := 216) (dd DX8_twoOf 64 rfl) (by decide) ?_
        refine sk_S.iret (dd DX8_twoOf 66 rfl) rfl rfl ?_
        refine ⟨rfl, ?_⟩
        first | simp [twoV, bi, *] | (simp only [← Int32.not_le] at *; simp [twoV, bi, *])
      · refine sk_S.iload_n (i := 2) (dd DX8_twoOf 61 rfl) rfl rfl ?_
        refine sk_S.if_eq (tgt := 215) (dd DX8_twoOf 62 rfl) (by decide) (fun c208 => ?_) (fun c208 => ?_)
        · refine sk_S.iconst (v := 0) (dd DX8_twoOf 65 rfl) (by decide) ?_
          refine sk_S.iret (dd DX8_twoOf 66 rfl) rfl rfl ?_
          refine ⟨rfl, ?_⟩
          first | simp [twoV, bi, *] | (simp only [← Int32.not_le] at *; simp [twoV, bi, *])
        · refine sk_S.iconst (v := 1) (dd DX8_twoOf 63 rfl) (by decide) ?_
          refine sk_S.goto (tgt := 216) (dd DX8_twoOf 64 rfl) (by decide) ?_
          refine sk_S.iret (dd DX8_twoOf 66 rfl) rfl rfl ?_
          refine ⟨rfl, ?_⟩
          first | simp [twoV, bi, *] | (simp only [← Int32.not_le] at *; simp [twoV, bi, *])
    · show sk_S _ _ _ _ 203 _ _ _ _
      replace e1 : _ = (57 : Int32) := e1
      refine sk_S.iload_n (i := 1) (dd DX8_twoOf 59 rfl) rfl rfl ?_
      refine sk_S.if_ne (tgt := 211) (dd DX8_twoOf 60 rfl) (by decide) (fun c204 => ?_) (fun c204 => ?_)
      · refine sk_S.iconst (v := 1) (dd DX8_twoOf 63 rfl) (by decide) ?_
        refine sk_S.goto (tgt := 216) (dd DX8_twoOf 64 rfl) (by decide) ?_
        refine sk_S.iret (dd DX8_twoOf 66 rfl) rfl rfl ?_
        refine ⟨rfl, ?_⟩
        first | simp [twoV, bi, *] | (simp only [← Int32.not_le] at *; simp [twoV, bi, *])
      · refine sk_S.iload_n (i := 2) (dd DX8_twoOf 61 rfl) rfl rfl ?_
        refine sk_S.if_eq (tgt := 215) (dd DX8_twoOf 62 rfl) (by decide) (fun c208 => ?_) (fun c208 => ?_)
        · refine sk_S.iconst (v := 0) (dd DX8_twoOf 65 rfl) (by decide) ?_
          refine sk_S.iret (dd DX8_twoOf 66 rfl) rfl rfl ?_
          refine ⟨rfl, ?_⟩
          first | simp [twoV, bi, *] | (simp only [← Int32.not_le] at *; simp [twoV, bi, *])
        · refine sk_S.iconst (v := 1) (dd DX8_twoOf 63 rfl) (by decide) ?_
          refine sk_S.goto (tgt := 216) (dd DX8_twoOf 64 rfl) (by decide) ?_
          refine sk_S.iret (dd DX8_twoOf 66 rfl) rfl rfl ?_
          refine ⟨rfl, ?_⟩
          first | simp [twoV, bi, *] | (simp only [← Int32.not_le] at *; simp [twoV, bi, *])
    · show sk_S _ _ _ _ 203 _ _ _ _
      replace e1 : _ = (58 : Int32) := e1
      refine sk_S.iload_n (i := 1) (dd DX8_twoOf 59 rfl) rfl rfl ?_
      refine sk_S.if_ne (tgt := 211) (dd DX8_twoOf 60 rfl) (by decide) (fun c204 => ?_) (fun c204 => ?_)
      · refine sk_S.iconst (v := 1) (dd DX8_twoOf 63 rfl) (by decide) ?_
        refine sk_S.goto (tgt := 216) (dd DX8_twoOf 64 rfl) (by decide) ?_
        refine sk_S.iret (dd DX8_twoOf 66 rfl) rfl rfl ?_
        refine ⟨rfl, ?_⟩
        first | simp [twoV, bi, *] | (simp only [← Int32.not_le] at *; simp [twoV, bi, *])
      · refine sk_S.iload_n (i := 2) (dd DX8_twoOf 61 rfl) rfl rfl ?_
        refine sk_S.if_eq (tgt := 215) (dd DX8_twoOf 62 rfl) (by decide) (fun c208 => ?_) (fun c208 => ?_)
        · refine sk_S.iconst (v := 0) (dd DX8_twoOf 65 rfl) (by decide) ?_
          refine sk_S.iret (dd DX8_twoOf 66 rfl) rfl rfl ?_
          refine ⟨rfl, ?_⟩
          first | simp [twoV, bi, *] | (simp only [← Int32.not_le] at *; simp [twoV, bi, *])
        · refine sk_S.iconst (v := 1) (dd DX8_twoOf 63 rfl) (by decide) ?_
          refine sk_S.goto (tgt := 216) (dd DX8_twoOf 64 rfl) (by decide) ?_
          refine sk_S.iret (dd DX8_twoOf 66 rfl) rfl rfl ?_
          refine ⟨rfl, ?_⟩
          first | simp [twoV, bi, *] | (simp only [← Int32.not_le] at *; simp [twoV, bi, *])
    · show sk_S _ _ _ _ 203 _ _ _ _
      replace e1 : _ = (59 : Int32) := e1
      refine sk_S.iload_n (i := 1) (dd DX8_twoOf 59 rfl) rfl rfl ?_
      refine sk_S.if_ne (tgt := 211) (dd DX8_twoOf 60 rfl) (by decide) (fun c204 => ?_) (fun c204 => ?_)
      · refine sk_S.iconst (v := 1) (dd DX8_twoOf 63 rfl) (by decide) ?_
        refine sk_S.goto (tgt := 216) (dd DX8_twoOf 64 rfl) (by decide) ?_
        refine sk_S.iret (dd DX8_twoOf 66 rfl) rfl rfl ?_
        refine ⟨rfl, ?_⟩
        first | simp [twoV, bi, *] | (simp only [← Int32.not_le] at *; simp [twoV, bi, *])
      · refine sk_S.iload_n (i := 2) (dd DX8_twoOf 61 rfl) rfl rfl ?_
        refine sk_S.if_eq (tgt := 215) (dd DX8_twoOf 62 rfl) (by decide) (fun c208 => ?_) (fun c208 => ?_)
        · refine sk_S.iconst (v := 0) (dd DX8_twoOf 65 rfl) (by decide) ?_
          refine sk_S.iret (dd DX8_twoOf 66 rfl) rfl rfl ?_
          refine ⟨rfl, ?_⟩
          first | simp [twoV, bi, *] | (simp only [← Int32.not_le] at *; simp [twoV, bi, *])
        · refine sk_S.iconst (v := 1) (dd DX8_twoOf 63 rfl) (by decide) ?_
          refine sk_S.goto (tgt := 216) (dd DX8_twoOf 64 rfl) (by decide) ?_
          refine sk_S.iret (dd DX8_twoOf 66 rfl) rfl rfl ?_
          refine ⟨rfl, ?_⟩
          first | simp [twoV, bi, *] | (simp only [← Int32.not_le] at *; simp [twoV, bi, *])
    · show sk_S _ _ _ _ 156 _ _ _ _
      replace e1 : _ = (60 : Int32) := e1
      refine sk_S.iload_n (i := 1) (dd DX8_twoOf 30 rfl) rfl rfl ?_
      refine sk_S.iload_n (i := 2) (dd DX8_twoOf 31 rfl) rfl rfl ?_
      refine sk_S.icmp_ge (tgt := 165) (dd DX8_twoOf 32 rfl) (by decide) (fun c158 => ?_) (fun c158 => ?_)
      · refine sk_S.iconst (v := 0) (dd DX8_twoOf 35 rfl) (by decide) ?_
        refine sk_S.iret (dd DX8_twoOf 36 rfl) rfl rfl ?_
        refine ⟨rfl, ?_⟩
        first | simp [twoV, bi, *] | (simp only [← Int32.not_le] at *; simp [twoV, bi, *])
      · refine sk_S.iconst (v := 1) (dd DX8_twoOf 33 rfl) (by decide) ?_
        refine sk_S.goto (tgt := 166) (dd DX8_twoOf 34 rfl) (by decide) ?_
        refine sk_S.iret (dd DX8_twoOf 36 rfl) rfl rfl ?_
        refine ⟨rfl, ?_⟩
        first | simp [twoV, bi, *] | (simp only [← Int32.not_le] at *; simp [twoV, bi, *])
    · show sk_S _ _ _ _ 167 _ _ _ _
      replace e1 : _ = (61 : Int32) := e1
      refine sk_S.iload_n (i := 1) (dd DX8_twoOf 37 rfl) rfl rfl ?_
      refine sk_S.iload_n (i := 2) (dd DX8_twoOf 38 rfl) rfl rfl ?_
      refine sk_S.icmp_ne (tgt := 176) (dd DX8_twoOf 39 rfl) (by decide) (fun c169 => ?_) (fun c169 => ?_)
      · refine sk_S.iconst (v := 0) (dd DX8_twoOf 42 rfl) (by decide) ?_
        refine sk_S.iret (dd DX8_twoOf 43 rfl) rfl rfl ?_
        refine ⟨rfl, ?_⟩
        first | simp [twoV, bi, *] | (simp only [← Int32.not_le] at *; simp [twoV, bi, *])
      · refine sk_S.iconst (v := 1) (dd DX8_twoOf 40 rfl) (by decide) ?_
        refine sk_S.goto (tgt := 177) (dd DX8_twoOf 41 rfl) (by decide) ?_
        refine sk_S.iret (dd DX8_twoOf 43 rfl) rfl rfl ?_
        refine ⟨rfl, ?_⟩
        first | simp [twoV, bi, *] | (simp only [← Int32.not_le] at *; simp [twoV, bi, *])
    · show sk_S _ _ _ _ 178 _ _ _ _
      replace e1 : _ = (62 : Int32) := e1
      refine sk_S.iload_n (i := 1) (dd DX8_twoOf 44 rfl) rfl rfl ?_
      refine sk_S.iload_n (i := 2) (dd DX8_twoOf 45 rfl) rfl rfl ?_
      refine sk_S.icmp_le (tgt := 187) (dd DX8_twoOf 46 rfl) (by decide) (fun c180 => ?_) (fun c180 => ?_)
      · refine sk_S.iconst (v := 0) (dd DX8_twoOf 49 rfl) (by decide) ?_
        refine sk_S.iret (dd DX8_twoOf 50 rfl) rfl rfl ?_
        refine ⟨rfl, ?_⟩
        first | simp [twoV, bi, *] | (simp only [← Int32.not_le] at *; simp [twoV, bi, *])
      · refine sk_S.iconst (v := 1) (dd DX8_twoOf 47 rfl) (by decide) ?_
        refine sk_S.goto (tgt := 188) (dd DX8_twoOf 48 rfl) (by decide) ?_
        refine sk_S.iret (dd DX8_twoOf 50 rfl) rfl rfl ?_
        refine ⟨rfl, ?_⟩
        first | simp [twoV, bi, *] | (simp only [← Int32.not_le] at *; simp [twoV, bi, *])
    · exact absurd hj1 (by simp)
  · show sk_S _ _ _ _ 203 _ _ _ _
    have e1_ := (⟨e1 0 (by decide), e1 1 (by decide), e1 2 (by decide), e1 3 (by decide), e1 4 (by decide), e1 5 (by decide), e1 6 (by decide), e1 7 (by decide), e1 8 (by decide), e1 9 (by decide), e1 10 (by decide), e1 11 (by decide), e1 12 (by decide), e1 13 (by decide), e1 14 (by decide), e1 15 (by decide), e1 16 (by decide), e1 17 (by decide), e1 18 (by decide), e1 19 (by decide), e1 20 (by decide), e1 21 (by decide), e1 22 (by decide), e1 23 (by decide), e1 24 (by decide), e1 25 (by decide)⟩ : ¬ _ = (37 : Int32) ∧ ¬ _ = (38 : Int32) ∧ ¬ _ = (39 : Int32) ∧ ¬ _ = (40 : Int32) ∧ ¬ _ = (41 : Int32) ∧ ¬ _ = (42 : Int32) ∧ ¬ _ = (43 : Int32) ∧ ¬ _ = (44 : Int32) ∧ ¬ _ = (45 : Int32) ∧ ¬ _ = (46 : Int32) ∧ ¬ _ = (47 : Int32) ∧ ¬ _ = (48 : Int32) ∧ ¬ _ = (49 : Int32) ∧ ¬ _ = (50 : Int32) ∧ ¬ _ = (51 : Int32) ∧ ¬ _ = (52 : Int32) ∧ ¬ _ = (53 : Int32) ∧ ¬ _ = (54 : Int32) ∧ ¬ _ = (55 : Int32) ∧ ¬ _ = (56 : Int32) ∧ ¬ _ = (57 : Int32) ∧ ¬ _ = (58 : Int32) ∧ ¬ _ = (59 : Int32) ∧ ¬ _ = (60 : Int32) ∧ ¬ _ = (61 : Int32) ∧ ¬ _ = (62 : Int32))
    refine sk_S.iload_n (i := 1) (dd DX8_twoOf 59 rfl) rfl rfl ?_
    refine sk_S.if_ne (tgt := 211) (dd DX8_twoOf 60 rfl) (by decide) (fun c204 => ?_) (fun c204 => ?_)
    · refine sk_S.iconst (v := 1) (dd DX8_twoOf 63 rfl) (by decide) ?_
      refine sk_S.goto (tgt := 216) (dd DX8_twoOf 64 rfl) (by decide) ?_
      refine sk_S.iret (dd DX8_twoOf 66 rfl) rfl rfl ?_
      refine ⟨rfl, ?_⟩
      first | simp [twoV, bi, *] | (simp only [← Int32.not_le] at *; simp [twoV, bi, *])
    · refine sk_S.iload_n (i := 2) (dd DX8_twoOf 61 rfl) rfl rfl ?_
      refine sk_S.if_eq (tgt := 215) (dd DX8_twoOf 62 rfl) (by decide) (fun c208 => ?_) (fun c208 => ?_)
      · refine sk_S.iconst (v := 0) (dd DX8_twoOf 65 rfl) (by decide) ?_
        refine sk_S.iret (dd DX8_twoOf 66 rfl) rfl rfl ?_
        refine ⟨rfl, ?_⟩
        first | simp [twoV, bi, *] | (simp only [← Int32.not_le] at *; simp [twoV, bi, *])
      · refine sk_S.iconst (v := 1) (dd DX8_twoOf 63 rfl) (by decide) ?_
        refine sk_S.goto (tgt := 216) (dd DX8_twoOf 64 rfl) (by decide) ?_
        refine sk_S.iret (dd DX8_twoOf 66 rfl) rfl rfl ?_
        refine ⟨rfl, ?_⟩
        first | simp [twoV, bi, *] | (simp only [← Int32.not_le] at *; simp [twoV, bi, *])
end M2
end
section
section SPEC3
theorem iinc_m1 {x : Int32} : x + Int32.ofInt (-1) = x - 1 := by
  rw [Int32.sub_eq_add_neg]; rfl
theorem sk_S.L {l : Launch} {E : sk_V} {d : Nat} {M : sk_m} {pc : Nat} {L L1 : List (Option Value)} {St : List Value} {h : sk_M} {Q : Option Value → sk_M → Prop} (k : sk_S l E d M pc L1 St h Q) (e : L = L1) : sk_S l E d M pc L St h Q := e ▸ k
section
variable {A B : Nat → Int32} {a b c : Int32} {p : Nat → Int32} {k : Nat}
theorem evS_1 (q : A k = 1) : (evS A B a b c p (k + 1)).2 = upd (evS A B a b c p k).2 (depN A k) (B k) := by
  show (evT (A k) (B k) a b c (evS A B a b c p k)).2 = _
  unfold evT; rw [if_pos q, evS_dep]
theorem evS_2 (q : A k = 2) : (evS A B a b c p (k + 1)).2 = upd (evS A B a b c p k).2 (depN A k) (nmV (B k) a b c) := by
  show (evT (A k) (B k) a b c (evS A B a b c p k)).2 = _
  unfold evT; rw [if_neg (by rw [q]; decide), if_pos q, evS_dep]
theorem evS_3 (q : A k = 3) : (evS A B a b c p (k + 1)).2 = upd (evS A B a b c p k).2 (depN A k - 1) (bi ((evS A B a b c p k).2 (depN A k - 1) = 0)) := by
  show (evT (A k) (B k) a b c (evS A B a b c p k)).2 = _
  unfold evT; rw [if_neg (by rw [q]; decide), if_neg (by rw [q]; decide), if_pos q, evS_dep]
theorem evS_4 (q1 : ¬ A k = 1) (q2 : ¬ A k = 2) (q3 : ¬ A k = 3) : (evS A B a b c p (k + 1)).2 = upd (evS A B a b c p k).2 (depN A k - 2) (twoV (A k) ((evS A B a b c p k).2 (depN A k - 2)) ((evS A B a b c p k).2 (depN A k - 1))) := by
  show (evT (A k) (B k) a b c (evS A B a b c p k)).2 = _
  unfold evT; rw [if_neg q1, if_neg q2, if_neg q3, evS_dep]
theorem depN_1 (q : A k = 1) : depN A (k + 1) = depN A k + 1 := by rw [depN, if_pos q]
theorem depN_2 (q : A k = 2) : depN A (k + 1) = depN A k + 1 := by rw [depN, if_neg (by rw [q]; decide), if_pos q]
theorem depN_3 (q : A k = 3) : depN A (k + 1) = depN A k := by rw [depN, if_neg (by rw [q]; decide), if_neg (by rw [q]; decide), if_pos q]
theorem depN_4 (q1 : ¬ A k = 1) (q2 : ¬ A k = 2) (q3 : ¬ A k = 3) : depN A (k + 1) = depN A k - 1 := by rw [depN, if_neg q1, if_neg q2, if_neg q3]
end
theorem ix3 {x : Int32} (hx : x = 0 ∨ x = 1 ∨ x = 2) : sk_ix x x.toNatClampNeg 3 := by
  rcases hx with rfl | rfl | rfl <;> exact ⟨by decide, rfl, by decide⟩
theorem nm3 {x a b c : Int32} {f : Nat → Int32} (hx : x = 0 ∨ x = 1 ∨ x = 2) (f0 : f 0 = a) (f1 : f 1 = b) (f2 : f 2 = c) : f x.toNatClampNeg = nmV x a b c := by
  rcases hx with rfl | rfl | rfl
  · exact f0
  · exact f1
  · exact f2
theorem ix_p {j n : Nat} (h1 : 1 ≤ j) (h2 : j - 1 < n) (hn : n < 2147483648) : sk_ix (nI j - 1) (j - 1) n := sk_ix_nI (nI_sub (b := 1) h1) h2 hn
theorem ix_p2 {j n : Nat} (h1 : 2 ≤ j) (h2 : j - 2 < n) (hn : n < 2147483648) : sk_ix (nI j - 1 - 1) (j - 2) n :=
  sk_ix_nI (by have e1 := nI_sub (a := j) (b := 1) (by omega); have e2 := nI_sub (a := j - 1) (b := 1) (by omega); show nI j - nI 1 - nI 1 = _; rw [e1, e2]; rfl) h2 hn
end SPEC3
end
section
section M3
set_option maxRecDepth 100000 in
set_option maxHeartbeats 4000000 in
theorem lp_works {l : Launch} {E : sk_V} {d : Nat} {h : sk_M} {ρ : Nat → Int32} {u n : Nat} {a b c : Int32} {p : Nat → Int32} (hu : u < 2) (hρ : h 55 = ρ) (hn : ρ (119 + 121 * u) = nI n) (hw : lawW n (laA ρ u) (laB ρ u)) (f0 : h 63 0 = a) (f1 : h 63 1 = b) (f2 : h 63 2 = c) : ∀ (m k : Nat) (g : sk_M) (x4 : Option Value), k + m = n → sk_o [64] h g → g 64 = (evS (laA ρ u) (laB ρ u) a b c p k).2 → sk_S l E (d + 1) MX8_works 4 [some (.ref 54), some (.int (nI (119 + 121 * u))), some (.int (nI (depN (laA ρ u) k))), some (.int (nI k)), x4] [] g (fun r h1 => sk_o [64] h h1 ∧ h1 64 = (evS (laA ρ u) (laB ρ u) a b c p n).2 ∧ some (.int ((evS (laA ρ u) (laB ρ u) a b c p n).2 0)) = r)
  | 0, k, g, x4, hk, ho, hg => by
    have e55 : g 55 = ρ := (ho 55 (by decide)).trans hρ
    have hkn : k = n := by omega
    subst hkn
    refine sk_S.iload_n (i := 3) (dd DX8_works 4 rfl) rfl rfl ?_
    refine sk_S.aload_n (i := 0) (dd DX8_works 5 rfl) rfl rfl ?_
    refine sk_S.getr (dd DX8_works 6 rfl) rfl fX8_9 se_54 (by decide) rfl ?_
    refine sk_S.iload_n (i := 1) (dd DX8_works 7 rfl) rfl rfl ?_
    refine sk_S.iald (dd DX8_works 8 rfl) se_55 (sk_ix_nI (k := 119 + 121 * u) rfl (by omega) (by decide)) ?_
    refine sk_S.icmp_ge (tgt := 155) (dd DX8_works 9 rfl) (by decide) (fun c11 => ?_) (fun c11 => absurd (by rw [e55, hn]; exact Int32.le_refl _) c11)
    refine sk_S.aload_n (i := 0) (dd DX8_works 95 rfl) rfl rfl ?_
    refine sk_S.getr (dd DX8_works 96 rfl) rfl fX8_37 se_54 (by decide) rfl ?_
    refine sk_S.iconst (v := 0) (dd DX8_works 97 rfl) (by decide) ?_
    refine sk_S.iald (dd DX8_works 98 rfl) se_64 (j := 0) ⟨by decide, by decide, by decide⟩ ?_
    refine sk_S.iret (dd DX8_works 99 rfl) rfl rfl ?_
    exact ⟨ho, hg, by rw [hg]⟩
  | m + 1, k, g, x4, hk, ho, hg => by
    have e55 : g 55 = ρ := (ho 55 (by decide)).trans hρ
    have e63 : g 63 = h 63 := ho 63 (by decide)
    have hkn : k < n := by omega
    have hn60 := hw.1
    have hdk := depN_le (laA ρ u) k
    obtain ⟨w2, w3, w4⟩ := hw.2.1 k hkn
    refine sk_S.iload_n (i := 3) (dd DX8_works 4 rfl) rfl rfl ?_
    refine sk_S.aload_n (i := 0) (dd DX8_works 5 rfl) rfl rfl ?_
    refine sk_S.getr (dd DX8_works 6 rfl) rfl fX8_9 se_54 (by decide) rfl ?_
    refine sk_S.iload_n (i := 1) (dd DX8_works 7 rfl) rfl rfl ?_
    refine sk_S.iald (dd DX8_works 8 rfl) se_55 (sk_ix_nI (k := 119 + 121 * u) rfl (by omega) (by decide)) ?_
    refine sk_S.icmp_ge (tgt := 155) (dd DX8_works 9 rfl) (by decide) (fun c11 => absurd c11 (by rw [e55, hn]; exact nI_ge (by omega) (by omega))) (fun c11 => ?_)
    refine sk_S.aload_n (i := 0) (dd DX8_works 10 rfl) rfl rfl ?_
    refine sk_S.getr (dd DX8_works 11 rfl) rfl fX8_9 se_54 (by decide) rfl ?_
    refine sk_S.iload_n (i := 1) (dd DX8_works 12 rfl) rfl rfl ?_
    refine sk_S.iconst (v := 1) (dd DX8_works 13 rfl) (by decide) ?_
    refine sk_S.iadd (dd DX8_works 14 rfl) ?_
    refine sk_S.iload_n (i := 3) (dd DX8_works 15 rfl) rfl rfl ?_
    refine sk_S.iadd (dd DX8_works 16 rfl) ?_
    refine sk_S.iald (dd DX8_works 17 rfl) se_55 (sk_ix_e (k := 120 + 121 * u + k) (by show nI _ + nI 1 + nI _ = _; rw [nI_add, nI_add]; congr 1; omega) (by omega) (by decide)) ?_
    refine sk_S.istore (i := 4) (dd DX8_works 18 rfl) (Nat.le_of_ble_eq_true rfl) rfl ?_
    refine sk_S.iload (i := 4) (dd DX8_works 19 rfl) rfl ?_
    refine sk_S.iconst (v := 1) (dd DX8_works 20 rfl) (by decide) ?_
    refine sk_S.icmp_eq (tgt := 38) (dd DX8_works 21 rfl) (by decide) (fun c29 => ?_) (fun c29 => ?_)
    · refine sk_S.aload_n (i := 0) (dd DX8_works 25 rfl) rfl rfl ?_
      refine sk_S.getr (dd DX8_works 26 rfl) rfl fX8_37 se_54 (by decide) rfl ?_
      refine sk_S.iload_n (i := 2) (dd DX8_works 27 rfl) rfl rfl ?_
      refine sk_S.iload (i := 4) (dd DX8_works 28 rfl) rfl ?_
      refine sk_S.iconst (v := 1) (dd DX8_works 29 rfl) (by decide) ?_
      refine sk_S.icmp_ne (tgt := 63) (dd DX8_works 30 rfl) (by decide) (fun c46 => absurd c29 c46) (fun c46 => ?_)
      refine sk_S.aload_n (i := 0) (dd DX8_works 31 rfl) rfl rfl ?_
      refine sk_S.getr (dd DX8_works 32 rfl) rfl fX8_9 se_54 (by decide) rfl ?_
      refine sk_S.iload_n (i := 1) (dd DX8_works 33 rfl) rfl rfl ?_
      refine sk_S.bipush (v := 61) (dd DX8_works 34 rfl) (by decide) ?_
      refine sk_S.iadd (dd DX8_works 35 rfl) ?_
      refine sk_S.iload_n (i := 3) (dd DX8_works 36 rfl) rfl rfl ?_
      refine sk_S.iadd (dd DX8_works 37 rfl) ?_
      refine sk_S.iald (dd DX8_works 38 rfl) se_55 (sk_ix_e (k := 180 + 121 * u + k) (by show nI _ + nI 61 + nI _ = _; rw [nI_add, nI_add]; congr 1; omega) (by omega) (by decide)) ?_
      refine sk_S.goto (tgt := 79) (dd DX8_works 39 rfl) (by decide) ?_
      refine sk_S.iast (dd DX8_works 51 rfl) se_64 (sk_ix_nI (k := depN (laA ρ u) k) rfl (by omega) (by decide)) ?_
      refine sk_S.iinc (i := 2) (v := _ + 1) (dd DX8_works 52 rfl) rfl rfl rfl ?_
      refine sk_S.goto (tgt := 149) (dd DX8_works 53 rfl) (by decide) ?_
      refine sk_S.iinc (i := 3) (v := _ + 1) (dd DX8_works 93 rfl) rfl rfl rfl ?_
      refine sk_S.goto (tgt := 4) (dd DX8_works 94 rfl) (by decide) ?_
      have c29a : laA ρ u k = 1 := (congrFun e55 _).symm.trans c29
      refine sk_S.L (lp_works hu hρ hn hw f0 f1 f2 m (k + 1) _ (some (.int (g 55 (120 + 121 * u + k)))) (by omega) (ho.u (by decide)) ?_) ?_
      · refine (sk_r_eq g 64 _).trans ?_
        rw [evS_1 c29a, hg, e55]
      · rw [depN_1 c29a, nI_succ, nI_succ]; rfl
    · refine sk_S.iload (i := 4) (dd DX8_works 22 rfl) rfl ?_
      refine sk_S.iconst (v := 2) (dd DX8_works 23 rfl) (by decide) ?_
      refine sk_S.icmp_ne (tgt := 86) (dd DX8_works 24 rfl) (by decide) (fun c35 => ?_) (fun c35 => ?_)
      · refine sk_S.iload (i := 4) (dd DX8_works 54 rfl) rfl ?_
        refine sk_S.iconst (v := 3) (dd DX8_works 55 rfl) (by decide) ?_
        refine sk_S.icmp_ne (tgt := 119) (dd DX8_works 56 rfl) (by decide) (fun c89 => ?_) (fun c89 => ?_)
        · refine sk_S.iinc (i := 2) (v := _ - 1) (dd DX8_works 74 rfl) rfl iinc_m1 rfl ?_
          refine sk_S.aload_n (i := 0) (dd DX8_works 75 rfl) rfl rfl ?_
          refine sk_S.getr (dd DX8_works 76 rfl) rfl fX8_37 se_54 (by decide) rfl ?_
          refine sk_S.iload_n (i := 2) (dd DX8_works 77 rfl) rfl rfl ?_
          refine sk_S.iconst (v := 1) (dd DX8_works 78 rfl) (by decide) ?_
          refine sk_S.isub (dd DX8_works 79 rfl) ?_
          refine sk_S.iload (i := 4) (dd DX8_works 80 rfl) rfl ?_
          refine sk_S.aload_n (i := 0) (dd DX8_works 81 rfl) rfl rfl ?_
          refine sk_S.getr (dd DX8_works 82 rfl) rfl fX8_37 se_54 (by decide) rfl ?_
          refine sk_S.iload_n (i := 2) (dd DX8_works 83 rfl) rfl rfl ?_
          refine sk_S.iconst (v := 1) (dd DX8_works 84 rfl) (by decide) ?_
          refine sk_S.isub (dd DX8_works 85 rfl) ?_
          refine sk_S.iald (dd DX8_works 86 rfl) se_64 (ix_p2 (w4 (fun q => c29 ((congrFun e55 _).trans q)) (fun q => c35 ((congrFun e55 _).trans q)) (fun q => c89 ((congrFun e55 _).trans q))) (by omega) (by decide)) ?_
          refine sk_S.aload_n (i := 0) (dd DX8_works 87 rfl) rfl rfl ?_
          refine sk_S.getr (dd DX8_works 88 rfl) rfl fX8_37 se_54 (by decide) rfl ?_
          refine sk_S.iload_n (i := 2) (dd DX8_works 89 rfl) rfl rfl ?_
          refine sk_S.iald (dd DX8_works 90 rfl) se_64 (ix_p (Nat.le_of_succ_le (w4 (fun q => c29 ((congrFun e55 _).trans q)) (fun q => c35 ((congrFun e55 _).trans q)) (fun q => c89 ((congrFun e55 _).trans q)))) (by omega) (by decide)) ?_
          refine sk_S.callS (dd DX8_works 91 rfl) rfl kX8_159 cM_twoOf rfl rfl rfl (Nat.le_of_ble_eq_true rfl) (fun r145 h145 q145 => ?_)
          obtain ⟨rfl, rfl⟩ := q145
          show sk_S _ _ _ _ _ _ (.int _ :: _) _ _
          refine sk_S.iast (dd DX8_works 92 rfl) se_64 (ix_p2 (w4 (fun q => c29 ((congrFun e55 _).trans q)) (fun q => c35 ((congrFun e55 _).trans q)) (fun q => c89 ((congrFun e55 _).trans q))) (by omega) (by decide)) ?_
          refine sk_S.iinc (i := 3) (v := _ + 1) (dd DX8_works 93 rfl) rfl rfl rfl ?_
          refine sk_S.goto (tgt := 4) (dd DX8_works 94 rfl) (by decide) ?_
          have c29a : ¬ laA ρ u k = 1 := fun q => c29 ((congrFun e55 _).trans q)
          have c35a : ¬ laA ρ u k = 2 := fun q => c35 ((congrFun e55 _).trans q)
          have c89a : ¬ laA ρ u k = 3 := fun q => c89 ((congrFun e55 _).trans q)
          refine sk_S.L (lp_works hu hρ hn hw f0 f1 f2 m (k + 1) _ (some (.int (g 55 (120 + 121 * u + k)))) (by omega) (ho.u (by decide)) ?_) ?_
          · refine (sk_r_eq g 64 _).trans ?_
            rw [evS_4 c29a c35a c89a, hg, e55]
          · rw [depN_4 c29a c35a c89a, nI_succ, ← nI_sub (b := 1) (by have := w4 c29a c35a c89a; omega)]; rfl
        · refine sk_S.aload_n (i := 0) (dd DX8_works 57 rfl) rfl rfl ?_
          refine sk_S.getr (dd DX8_works 58 rfl) rfl fX8_37 se_54 (by decide) rfl ?_
          refine sk_S.iload_n (i := 2) (dd DX8_works 59 rfl) rfl rfl ?_
          refine sk_S.iconst (v := 1) (dd DX8_works 60 rfl) (by decide) ?_
          refine sk_S.isub (dd DX8_works 61 rfl) ?_
          refine sk_S.aload_n (i := 0) (dd DX8_works 62 rfl) rfl rfl ?_
          refine sk_S.getr (dd DX8_works 63 rfl) rfl fX8_37 se_54 (by decide) rfl ?_
          refine sk_S.iload_n (i := 2) (dd DX8_works 64 rfl) rfl rfl ?_
          refine sk_S.iconst (v := 1) (dd DX8_works 65 rfl) (by decide) ?_
          refine sk_S.isub (dd DX8_works 66 rfl) ?_
          refine sk_S.iald (dd DX8_works 67 rfl) se_64 (ix_p (w3 ((congrFun e55 _).symm.trans c89)) (by omega) (by decide)) ?_
          refine sk_S.if_ne (tgt := 114) (dd DX8_works 68 rfl) (by decide) (fun c107 => ?_) (fun c107 => ?_)
          · refine sk_S.iconst (v := 0) (dd DX8_works 71 rfl) (by decide) ?_
            refine sk_S.iast (dd DX8_works 72 rfl) se_64 (ix_p (w3 ((congrFun e55 _).symm.trans c89)) (by omega) (by decide)) ?_
            refine sk_S.goto (tgt := 149) (dd DX8_works 73 rfl) (by decide) ?_
            refine sk_S.iinc (i := 3) (v := _ + 1) (dd DX8_works 93 rfl) rfl rfl rfl ?_
            refine sk_S.goto (tgt := 4) (dd DX8_works 94 rfl) (by decide) ?_
            have c29a : ¬ laA ρ u k = 1 := fun q => c29 ((congrFun e55 _).trans q)
            have c35a : ¬ laA ρ u k = 2 := fun q => c35 ((congrFun e55 _).trans q)
            have c89a : laA ρ u k = 3 := (congrFun e55 _).symm.trans c89
            refine sk_S.L (lp_works hu hρ hn hw f0 f1 f2 m (k + 1) _ (some (.int (g 55 (120 + 121 * u + k)))) (by omega) (ho.u (by decide)) ?_) ?_
            · refine (sk_r_eq g 64 _).trans ?_
              rw [evS_3 c89a, hg, bi_f (by rw [← hg]; exact c107)]
            · rw [depN_3 c89a, nI_succ]; rfl
          · refine sk_S.iconst (v := 1) (dd DX8_works 69 rfl) (by decide) ?_
            refine sk_S.goto (tgt := 115) (dd DX8_works 70 rfl) (by decide) ?_
            refine sk_S.iast (dd DX8_works 72 rfl) se_64 (ix_p (w3 ((congrFun e55 _).symm.trans c89)) (by omega) (by decide)) ?_
            refine sk_S.goto (tgt := 149) (dd DX8_works 73 rfl) (by decide) ?_
            refine sk_S.iinc (i := 3) (v := _ + 1) (dd DX8_works 93 rfl) rfl rfl rfl ?_
            refine sk_S.goto (tgt := 4) (dd DX8_works 94 rfl) (by decide) ?_
            have c29a : ¬ laA ρ u k = 1 := fun q => c29 ((congrFun e55 _).trans q)
            have c35a : ¬ laA ρ u k = 2 := fun q => c35 ((congrFun e55 _).trans q)
            have c89a : laA ρ u k = 3 := (congrFun e55 _).symm.trans c89
            refine sk_S.L (lp_works hu hρ hn hw f0 f1 f2 m (k + 1) _ (some (.int (g 55 (120 + 121 * u + k)))) (by omega) (ho.u (by decide)) ?_) ?_
            · refine (sk_r_eq g 64 _).trans ?_
              rw [evS_3 c89a, hg, bi_t (by rw [← hg]; exact c107)]
            · rw [depN_3 c89a, nI_succ]; rfl
      · refine sk_S.aload_n (i := 0) (dd DX8_works 25 rfl) rfl rfl ?_
        refine sk_S.getr (dd DX8_works 26 rfl) rfl fX8_37 se_54 (by decide) rfl ?_
        refine sk_S.iload_n (i := 2) (dd DX8_works 27 rfl) rfl rfl ?_
        refine sk_S.iload (i := 4) (dd DX8_works 28 rfl) rfl ?_
        refine sk_S.iconst (v := 1) (dd DX8_works 29 rfl) (by decide) ?_
        refine sk_S.icmp_ne (tgt := 63) (dd DX8_works 30 rfl) (by decide) (fun c46 => ?_) (fun c46 => absurd c46 c29)
        refine sk_S.aload_n (i := 0) (dd DX8_works 40 rfl) rfl rfl ?_
        refine sk_S.getr (dd DX8_works 41 rfl) rfl fX8_34 se_54 (by decide) rfl ?_
        refine sk_S.aload_n (i := 0) (dd DX8_works 42 rfl) rfl rfl ?_
        refine sk_S.getr (dd DX8_works 43 rfl) rfl fX8_9 se_54 (by decide) rfl ?_
        refine sk_S.iload_n (i := 1) (dd DX8_works 44 rfl) rfl rfl ?_
        refine sk_S.bipush (v := 61) (dd DX8_works 45 rfl) (by decide) ?_
        refine sk_S.iadd (dd DX8_works 46 rfl) ?_
        refine sk_S.iload_n (i := 3) (dd DX8_works 47 rfl) rfl rfl ?_
        refine sk_S.iadd (dd DX8_works 48 rfl) ?_
        refine sk_S.iald (dd DX8_works 49 rfl) se_55 (sk_ix_e (k := 180 + 121 * u + k) (by show nI _ + nI 61 + nI _ = _; rw [nI_add, nI_add]; congr 1; omega) (by omega) (by decide)) ?_
        refine sk_S.iald (dd DX8_works 50 rfl) se_63 (ix3 (by rw [e55]; exact w2 ((congrFun e55 _).symm.trans c35))) ?_
        refine sk_S.iast (dd DX8_works 51 rfl) se_64 (sk_ix_nI (k := depN (laA ρ u) k) rfl (by omega) (by decide)) ?_
        refine sk_S.iinc (i := 2) (v := _ + 1) (dd DX8_works 52 rfl) rfl rfl rfl ?_
        refine sk_S.goto (tgt := 149) (dd DX8_works 53 rfl) (by decide) ?_
        refine sk_S.iinc (i := 3) (v := _ + 1) (dd DX8_works 93 rfl) rfl rfl rfl ?_
        refine sk_S.goto (tgt := 4) (dd DX8_works 94 rfl) (by decide) ?_
        have c29a : ¬ laA ρ u k = 1 := fun q => c29 ((congrFun e55 _).trans q)
        have c35a : laA ρ u k = 2 := (congrFun e55 _).symm.trans c35
        refine sk_S.L (lp_works hu hρ hn hw f0 f1 f2 m (k + 1) _ (some (.int (g 55 (120 + 121 * u + k)))) (by omega) (ho.u (by decide)) ?_) ?_
        · refine (sk_r_eq g 64 _).trans ?_
          rw [evS_2 c35a, hg, e63, e55, nm3 (w2 c35a) f0 f1 f2]
        · rw [depN_2 c35a, nI_succ, nI_succ]; rfl
set_option maxRecDepth 100000 in
set_option maxHeartbeats 4000000 in
theorem cM_works {l : Launch} {E : sk_V} {d : Nat} {h : sk_M} {ρ : Nat → Int32} {u n : Nat} {a b c : Int32} (hu : u < 2) (hρ : h 55 = ρ) (hn : ρ (119 + 121 * u) = nI n) (hw : lawW n (laA ρ u) (laB ρ u)) (f0 : h 63 0 = a) (f1 : h 63 1 = b) (f2 : h 63 2 = c) : sk_K l E (d + 1) MX8_works [.ref 54, .int (nI (119 + 121 * u))] h (fun r h1 => sk_o [64] h h1 ∧ some (.int ((evS (laA ρ u) (laB ρ u) a b c (h 64) n).2 0)) = r) := by
  refine sk_K.of (by decide +kernel) (Nat.le_of_ble_eq_true rfl) ?_
  show sk_S l E (d + 1) _ 0 [some (.ref 54), some (.int (nI (119 + 121 * u))), none, none, none] [] h _
  refine sk_S.iconst (v := 0) (dd DX8_works 0 rfl) (by decide) ?_
  refine sk_S.istore_n (i := 2) (dd DX8_works 1 rfl) rfl (Nat.le_of_ble_eq_true rfl) rfl ?_
  refine sk_S.iconst (v := 0) (dd DX8_works 2 rfl) (by decide) ?_
  refine sk_S.istore_n (i := 3) (dd DX8_works 3 rfl) rfl (Nat.le_of_ble_eq_true rfl) rfl ?_
  refine sk_S.mono (lp_works hu hρ hn hw f0 f1 f2 n 0 h none (Nat.zero_add n) sk_o.rf rfl) ?_
  rintro r h1 ⟨q1, -, q3⟩
  exact ⟨q1, q3⟩
end M3
end
section
section SPEC4
theorem ix_at (u : Nat) : (119 : Int32) + 121 * nI u = nI (119 + 121 * u) := by
  show nI 119 + nI 121 * nI u = _
  rw [nI_mul, nI_add]
theorem ix_add (a : Nat) (j : Nat) : nI a + nI j = nI (a + j) := nI_add a j
theorem nI_le0 {n : Nat} (h : n < 2 ^ 31) (q : nI n ≤ 0) : n = 0 := by
  have h1 : nI n ≤ nI 0 := q
  rw [nI_leI h (by decide)] at h1
  omega
theorem lawV_any {g : Nat → Int32} {u : Nat} {a b c : Int32} {p : Nat → Int32} (hi : lawI g u) (h0 : 0 < laN g u) : (evS (laA g u) (laB g u) a b c p (laN g u)).2 0 = lawV g u a b c :=
  evS_low hi.2 (laN g u) (Nat.le_refl _) 0 (hi.2.2.2 h0)
theorem laN_lt {g : Nat → Int32} {u : Nat} (hi : lawI g u) : laN g u ≤ 60 := hi.2.1
/-- how many boats there are -/
def boI (g : Nat → Int32) : Prop := g 2 = nI (boN g) ∧ boN g ≤ 6
end SPEC4
section SPEC4B
def ushr8 (x : Int32) : Int32 := (x.toUInt32 >>> ((8 : Int32).toUInt32 &&& Int32.toUInt32 31)).toInt32
end SPEC4B
end
section
section M4
set_option maxRecDepth 100000 in
set_option maxHeartbeats 4000000 in
theorem cM_gives {l : Launch} {E : sk_V} {d : Nat} {h : sk_M} {ρ : Nat → Int32} {u : Nat} {a b c : Int32} (hu : u < 2) (hρ : h 55 = ρ) (hI : lawI ρ u) : sk_K l E (d + 2) MX8_gives [.ref 54, .int (nI u), .int a, .int b, .int c] h (fun r h1 => sk_o [63, 64] h h1 ∧ some (.int (gvV ρ u a b c)) = r) := by
  refine sk_K.of (by decide +kernel) (Nat.le_of_ble_eq_true rfl) ?_
  show sk_S l E (d + 2) _ 0 [some (.ref 54), some (.int (nI u)), some (.int a), some (.int b), some (.int c), none] [] h _
  refine sk_S.bipush (v := 119) (dd DX8_gives 0 rfl) (by decide) ?_
  refine sk_S.bipush (v := 121) (dd DX8_gives 1 rfl) (by decide) ?_
  refine sk_S.iload_n (i := 1) (dd DX8_gives 2 rfl) rfl rfl ?_
  refine sk_S.imul (dd DX8_gives 3 rfl) ?_
  refine sk_S.iadd (dd DX8_gives 4 rfl) ?_
  refine sk_S.istore (i := 5) (dd DX8_gives 5 rfl) (Nat.le_of_ble_eq_true rfl) rfl ?_
  refine sk_S.L (L1 := [some (.ref 54), some (.int (nI u)), some (.int a), some (.int b), some (.int c), some (.int (nI (119 + 121 * u)))]) ?_ (by rw [← ix_at]; rfl)
  refine sk_S.aload_n (i := 0) (dd DX8_gives 6 rfl) rfl rfl ?_
  refine sk_S.getr (dd DX8_gives 7 rfl) rfl fX8_34 se_54 (by decide) rfl ?_
  refine sk_S.iconst (v := 0) (dd DX8_gives 8 rfl) (by decide) ?_
  refine sk_S.iload_n (i := 2) (dd DX8_gives 9 rfl) rfl rfl ?_
  refine sk_S.iast (dd DX8_gives 10 rfl) se_63 (j := 0) ⟨by decide, by decide, by decide⟩ ?_
  refine sk_S.aload_n (i := 0) (dd DX8_gives 11 rfl) rfl rfl ?_
  refine sk_S.getr (dd DX8_gives 12 rfl) rfl fX8_34 se_54 (by decide) rfl ?_
  refine sk_S.iconst (v := 1) (dd DX8_gives 13 rfl) (by decide) ?_
  refine sk_S.iload_n (i := 3) (dd DX8_gives 14 rfl) rfl rfl ?_
  refine sk_S.iast (dd DX8_gives 15 rfl) se_63 (j := 1) ⟨by decide, by decide, by decide⟩ ?_
  refine sk_S.aload_n (i := 0) (dd DX8_gives 16 rfl) rfl rfl ?_
  refine sk_S.getr (dd DX8_gives 17 rfl) rfl fX8_34 se_54 (by decide) rfl ?_
  refine sk_S.iconst (v := 2) (dd DX8_gives 18 rfl) (by decide) ?_
  refine sk_S.iload (i := 4) (dd DX8_gives 19 rfl) rfl ?_
  refine sk_S.iast (dd DX8_gives 20 rfl) se_63 (j := 2) ⟨by decide, by decide, by decide⟩ ?_
  have eG : (sk_u (sk_u (sk_u h 63 0 a) 63 1 b) 63 2 c) 55 = ρ := hρ
  refine sk_S.aload_n (i := 0) (dd DX8_gives 21 rfl) rfl rfl ?_
  refine sk_S.getr (dd DX8_gives 22 rfl) rfl fX8_9 se_54 (by decide) rfl ?_
  refine sk_S.iload (i := 5) (dd DX8_gives 23 rfl) rfl ?_
  refine sk_S.iald (dd DX8_gives 24 rfl) se_55 (sk_ix_nI (k := 119 + 121 * u) rfl (by omega) (by decide)) ?_
  refine sk_S.if_le (tgt := 50) (dd DX8_gives 25 rfl) (by decide) (fun c38 => ?_) (fun c38 => ?_)
  · refine sk_S.iload_n (i := 2) (dd DX8_gives 30 rfl) rfl rfl ?_
    refine sk_S.iconst (v := 0) (dd DX8_gives 31 rfl) (by decide) ?_
    refine sk_S.bipush (v := 99) (dd DX8_gives 32 rfl) (by decide) ?_
    refine sk_S.callS (dd DX8_gives 33 rfl) rfl kX8_97 cM_held rfl rfl rfl (Nat.le_of_ble_eq_true rfl) (fun r54 h54 q54 => ?_)
    obtain ⟨rfl, rfl⟩ := q54
    show sk_S _ _ _ _ _ _ (.int _ :: _) _ _
    refine sk_S.iret (dd DX8_gives 34 rfl) rfl rfl ?_
    refine ⟨(((sk_o.rf (h := h)).u (by decide)).u (by decide)).u (by decide), ?_⟩
    have c38a : nI (laN ρ u) ≤ 0 := by rw [← hI.1, ← eG]; exact c38
    have e0 := nI_le0 (by have := laN_lt hI; omega) c38a
    unfold gvV
    rw [e0, if_neg (by decide)]
  · refine sk_S.aload_n (i := 0) (dd DX8_gives 26 rfl) rfl rfl ?_
    refine sk_S.iload (i := 5) (dd DX8_gives 27 rfl) rfl ?_
    refine sk_S.callV (dd DX8_gives 28 rfl) rfl kX8_162 (cM_works hu eG hI.1 hI.2 rfl rfl rfl) se_54 (by decide) rfl rfl rfl rfl (Nat.le_of_ble_eq_true rfl) (fun r44 h44 q44 => ?_)
    obtain ⟨ho, rfl⟩ := q44
    show sk_S _ _ _ _ _ _ (.int _ :: _) _ _
    refine sk_S.goto (tgt := 51) (dd DX8_gives 29 rfl) (by decide) ?_
    refine sk_S.iconst (v := 0) (dd DX8_gives 31 rfl) (by decide) ?_
    refine sk_S.bipush (v := 99) (dd DX8_gives 32 rfl) (by decide) ?_
    refine sk_S.callS (dd DX8_gives 33 rfl) rfl kX8_97 cM_held rfl rfl rfl (Nat.le_of_ble_eq_true rfl) (fun r54 h54 q54 => ?_)
    obtain ⟨rfl, rfl⟩ := q54
    show sk_S _ _ _ _ _ _ (.int _ :: _) _ _
    refine sk_S.iret (dd DX8_gives 34 rfl) rfl rfl ?_
    refine ⟨((((sk_o.rf (h := h)).u (by decide)).u (by decide)).u (by decide)).tr (ho.more (by decide)), ?_⟩
    have h0 : 0 < laN ρ u := by
      apply Nat.pos_of_ne_zero
      intro e0
      apply c38
      rw [eG, hI.1, e0]
      decide
    unfold gvV
    rw [if_pos h0, lawV_any hI h0]
    rfl
set_option maxRecDepth 100000 in
set_option maxHeartbeats 4000000 in
theorem cM_landsOf {l : Launch} {E : sk_V} {d : Nat} {h : sk_M} {ρ : Nat → Int32} {j : Nat} {f s : Int32} (hj : j < 6) (hρ : h 55 = ρ) (hI : lawI ρ 0) : sk_K l E (d + 3) MX8_landsOf [.ref 54, .int (nI j), .int f, .int s] h (fun r h1 => sk_o [63, 64] h h1 ∧ some (.int (landsG ρ j f s (ρ 3) (ρ 0))) = r) := by
  refine sk_K.of (by decide +kernel) (Nat.le_of_ble_eq_true rfl) ?_
  show sk_S l E (d + 3) _ 0 [some (.ref 54), some (.int (nI j)), some (.int f), some (.int s)] [] h _
  refine sk_S.aload_n (i := 0) (dd DX8_landsOf 0 rfl) rfl rfl ?_
  refine sk_S.iload_n (i := 1) (dd DX8_landsOf 1 rfl) rfl rfl ?_
  refine sk_S.iconst (v := 2) (dd DX8_landsOf 2 rfl) (by decide) ?_
  refine sk_S.callV (dd DX8_landsOf 3 rfl) rfl kX8_51 (cM_of (j := j) (w := 2) (by omega)) se_54 (by decide) rfl rfl rfl rfl (Nat.le_of_ble_eq_true rfl) (fun r3 h3 q3 => ?_)
  obtain ⟨rfl, rfl⟩ := q3
  show sk_S _ _ _ _ _ _ (.int _ :: _) _ _
  refine sk_S.iconst (v := 1) (dd DX8_landsOf 4 rfl) (by decide) ?_
  refine sk_S.icmp_ne (tgt := 14) (dd DX8_landsOf 5 rfl) (by decide) (fun c7 => ?_) (fun c7 => ?_)
  · refine sk_S.aload_n (i := 0) (dd DX8_landsOf 8 rfl) rfl rfl ?_
    refine sk_S.iconst (v := 0) (dd DX8_landsOf 9 rfl) (by decide) ?_
    refine sk_S.aload_n (i := 0) (dd DX8_landsOf 10 rfl) rfl rfl ?_
    refine sk_S.iload_n (i := 1) (dd DX8_landsOf 11 rfl) rfl rfl ?_
    refine sk_S.iload_n (i := 2) (dd DX8_landsOf 12 rfl) rfl rfl ?_
    refine sk_S.callV (dd DX8_landsOf 13 rfl) rfl kX8_55 (cM_haulsOf hj) se_54 (by decide) rfl rfl rfl rfl (Nat.le_of_ble_eq_true rfl) (fun r19 h19 q19 => ?_)
    obtain ⟨rfl, rfl⟩ := q19
    show sk_S _ _ _ _ _ _ (.int _ :: _) _ _
    refine sk_S.aload_n (i := 0) (dd DX8_landsOf 14 rfl) rfl rfl ?_
    refine sk_S.getr (dd DX8_landsOf 15 rfl) rfl fX8_9 se_54 (by decide) rfl ?_
    refine sk_S.iconst (v := 3) (dd DX8_landsOf 16 rfl) (by decide) ?_
    refine sk_S.iald (dd DX8_landsOf 17 rfl) se_55 (j := 3) ⟨by decide, by decide, by decide⟩ ?_
    refine sk_S.iload_n (i := 3) (dd DX8_landsOf 18 rfl) rfl rfl ?_
    refine sk_S.callV (dd DX8_landsOf 19 rfl) rfl kX8_58 (cM_gives (u := 0) (by decide) hρ hI) se_54 (by decide) rfl rfl rfl rfl (Nat.le_of_ble_eq_true rfl) (fun r29 h29 q29 => ?_)
    obtain ⟨ho, rfl⟩ := q29
    show sk_S _ _ _ _ _ _ (.int _ :: _) _ _
    refine sk_S.iret (dd DX8_landsOf 20 rfl) rfl rfl ?_
    subst hρ
    unfold landsG
    rw [if_neg c7]
    exact ⟨ho, rfl⟩
  · refine sk_S.iconst (v := 0) (dd DX8_landsOf 6 rfl) (by decide) ?_
    refine sk_S.goto (tgt := 32) (dd DX8_landsOf 7 rfl) (by decide) ?_
    refine sk_S.iret (dd DX8_landsOf 20 rfl) rfl rfl ?_
    subst hρ
    unfold landsG
    rw [if_pos c7]
    exact ⟨sk_o.rf, rfl⟩
set_option maxRecDepth 100000 in
set_option maxHeartbeats 4000000 in
theorem lp_catchBy {l : Launch} {E : sk_V} {d : Nat} {h : sk_M} {ρ : Nat → Int32} {f s : Int32} (hρ : h 55 = ρ) (hb : boI ρ) (hI : lawI ρ 0) : ∀ (m j : Nat) (g : sk_M), j + m = boN ρ → sk_o [63, 64] h g → sk_S l E (d + 4) MX8_catchBy 5 [some (.ref 54), some (.int f), some (.int s), some (.int (sumN (fun j => landsG ρ j f s (ρ 3) (ρ 0)) j)), some (.int (nI j))] [] g (fun r h1 => sk_o [63, 64] h h1 ∧ some (.int (sumN (fun j => landsG ρ j f s (ρ 3) (ρ 0)) (boN ρ))) = r)
  | 0, j, g, hj, ho => by
    have e55 : g 55 = ρ := (ho 55 (by decide)).trans hρ
    have hb6 := hb.2
    have hjn : j = boN ρ := by omega
    refine sk_S.iload (i := 4) (dd DX8_catchBy 4 rfl) rfl ?_
    refine sk_S.aload_n (i := 0) (dd DX8_catchBy 5 rfl) rfl rfl ?_
    refine sk_S.getr (dd DX8_catchBy 6 rfl) rfl fX8_9 se_54 (by decide) rfl ?_
    refine sk_S.iconst (v := 2) (dd DX8_catchBy 7 rfl) (by decide) ?_
    refine sk_S.iald (dd DX8_catchBy 8 rfl) se_55 (j := 2) ⟨by decide, by decide, by decide⟩ ?_
    refine sk_S.icmp_ge (tgt := 33) (dd DX8_catchBy 9 rfl) (by decide) (fun c13 => ?_) (fun c13 => absurd (by rw [e55, hb.1, hjn]; exact Int32.le_refl _) c13)
    refine sk_S.iload_n (i := 3) (dd DX8_catchBy 20 rfl) rfl rfl ?_
    refine sk_S.iret (dd DX8_catchBy 21 rfl) rfl rfl ?_
    rw [← hjn]
    exact ⟨ho, rfl⟩
  | m + 1, j, g, hj, ho => by
    have e55 : g 55 = ρ := (ho 55 (by decide)).trans hρ
    have hb6 := hb.2
    
    refine sk_S.iload (i := 4) (dd DX8_catchBy 4 rfl) rfl ?_
    refine sk_S.aload_n (i := 0) (dd DX8_catchBy 5 rfl) rfl rfl ?_
    refine sk_S.getr (dd DX8_catchBy 6 rfl) rfl fX8_9 se_54 (by decide) rfl ?_
    refine sk_S.iconst (v := 2) (dd DX8_catchBy 7 rfl) (by decide) ?_
    refine sk_S.iald (dd DX8_catchBy 8 rfl) se_55 (j := 2) ⟨by decide, by decide, by decide⟩ ?_
    refine sk_S.icmp_ge (tgt := 33) (dd DX8_catchBy 9 rfl) (by decide) (fun c13 => absurd c13 (by rw [e55, hb.1]; exact nI_ge (by omega) (by omega))) (fun c13 => ?_)
    refine sk_S.iload_n (i := 3) (dd DX8_catchBy 10 rfl) rfl rfl ?_
    refine sk_S.aload_n (i := 0) (dd DX8_catchBy 11 rfl) rfl rfl ?_
    refine sk_S.iload (i := 4) (dd DX8_catchBy 12 rfl) rfl ?_
    refine sk_S.iload_n (i := 1) (dd DX8_catchBy 13 rfl) rfl rfl ?_
    refine sk_S.iload_n (i := 2) (dd DX8_catchBy 14 rfl) rfl rfl ?_
    refine sk_S.callV (dd DX8_catchBy 15 rfl) rfl kX8_62 (cM_landsOf (by omega) e55 hI) se_54 (by decide) rfl rfl rfl rfl (Nat.le_of_ble_eq_true rfl) (fun r22 h22 q22 => ?_)
    obtain ⟨ho2, rfl⟩ := q22
    show sk_S _ _ _ _ _ _ (.int _ :: _) _ _
    refine sk_S.iadd (dd DX8_catchBy 16 rfl) ?_
    refine sk_S.istore_n (i := 3) (dd DX8_catchBy 17 rfl) rfl (Nat.le_of_ble_eq_true rfl) rfl ?_
    refine sk_S.iinc (i := 4) (v := _ + 1) (dd DX8_catchBy 18 rfl) rfl rfl rfl ?_
    refine sk_S.goto (tgt := 5) (dd DX8_catchBy 19 rfl) (by decide) ?_
    exact sk_S.L (lp_catchBy hρ hb hI m (j + 1) _ (by omega) (ho.tr ho2)) (by rw [nI_succ]; rfl)
set_option maxRecDepth 100000 in
set_option maxHeartbeats 4000000 in
theorem cM_catchBy {l : Launch} {E : sk_V} {d : Nat} {h : sk_M} {ρ : Nat → Int32} {f s : Int32} (hρ : h 55 = ρ) (hb : boI ρ) (hI : lawI ρ 0) : sk_K l E (d + 4) MX8_catchBy [.ref 54, .int f, .int s] h (fun r h1 => sk_o [63, 64] h h1 ∧ some (.int (catchG ρ f s (ρ 3) (ρ 0))) = r) := by
  refine sk_K.of (by decide +kernel) (Nat.le_of_ble_eq_true rfl) ?_
  show sk_S l E (d + 4) _ 0 [some (.ref 54), some (.int f), some (.int s), none, none] [] h _
  refine sk_S.iconst (v := 0) (dd DX8_catchBy 0 rfl) (by decide) ?_
  refine sk_S.istore_n (i := 3) (dd DX8_catchBy 1 rfl) rfl (Nat.le_of_ble_eq_true rfl) rfl ?_
  refine sk_S.iconst (v := 0) (dd DX8_catchBy 2 rfl) (by decide) ?_
  refine sk_S.istore (i := 4) (dd DX8_catchBy 3 rfl) (Nat.le_of_ble_eq_true rfl) rfl ?_
  exact lp_catchBy hρ hb hI (boN ρ) 0 h (Nat.zero_add _) sk_o.rf
set_option maxRecDepth 100000 in
set_option maxHeartbeats 4000000 in
theorem cM_catchOf {l : Launch} {E : sk_V} {d : Nat} {h : sk_M} {ρ : Nat → Int32} {f : Nat} (hf : f < 4) (hρ : h 55 = ρ) (hb : boI ρ) (hI : lawI ρ 0) : sk_K l E (d + 5) MX8_catchOf [.ref 54, .int (nI f)] h (fun r h1 => sk_o [63, 64] h h1 ∧ some (.int (catchG ρ (nI f) (ρ (9 + f)) (ρ 3) (ρ 0))) = r) := by
  refine sk_K.of (by decide +kernel) (Nat.le_of_ble_eq_true rfl) ?_
  show sk_S l E (d + 5) _ 0 [some (.ref 54), some (.int (nI f))] [] h _
  refine sk_S.aload_n (i := 0) (dd DX8_catchOf 0 rfl) rfl rfl ?_
  refine sk_S.iload_n (i := 1) (dd DX8_catchOf 1 rfl) rfl rfl ?_
  refine sk_S.aload_n (i := 0) (dd DX8_catchOf 2 rfl) rfl rfl ?_
  refine sk_S.getr (dd DX8_catchOf 3 rfl) rfl fX8_9 se_54 (by decide) rfl ?_
  refine sk_S.bipush (v := 9) (dd DX8_catchOf 4 rfl) (by decide) ?_
  refine sk_S.iload_n (i := 1) (dd DX8_catchOf 5 rfl) rfl rfl ?_
  refine sk_S.iadd (dd DX8_catchOf 6 rfl) ?_
  refine sk_S.iald (dd DX8_catchOf 7 rfl) se_55 (sk_ix_e (ix_add 9 f) (by omega) (by decide)) ?_
  refine sk_S.callV (dd DX8_catchOf 8 rfl) rfl kX8_66 (cM_catchBy hρ hb hI) se_54 (by decide) rfl rfl rfl rfl (Nat.le_of_ble_eq_true rfl) (fun r11 h11 q11 => ?_)
  obtain ⟨ho, rfl⟩ := q11
  show sk_S _ _ _ _ _ _ (.int _ :: _) _ _
  refine sk_S.iret (dd DX8_catchOf 9 rfl) rfl rfl ?_
  exact ⟨ho, by rw [hρ]⟩
set_option maxRecDepth 100000 in
set_option maxHeartbeats 4000000 in
theorem cM_shortBy {l : Launch} {E : sk_V} {d : Nat} {h : sk_M} {ρ : Nat → Int32} {f s : Int32} (hρ : h 55 = ρ) (hb : boI ρ) (hI : lawI ρ 0) : sk_K l E (d + 5) MX8_shortBy [.ref 54, .int f, .int s] h (fun r h1 => sk_o [63, 64] h h1 ∧ some (.int (shortG ρ f s)) = r) := by
  refine sk_K.of (by decide +kernel) (Nat.le_of_ble_eq_true rfl) ?_
  show sk_S l E (d + 5) _ 0 [some (.ref 54), some (.int f), some (.int s), none] [] h _
  refine sk_S.iload_n (i := 2) (dd DX8_shortBy 0 rfl) rfl rfl ?_
  refine sk_S.aload_n (i := 0) (dd DX8_shortBy 1 rfl) rfl rfl ?_
  refine sk_S.iload_n (i := 1) (dd DX8_shortBy 2 rfl) rfl rfl ?_
  refine sk_S.iload_n (i := 2) (dd DX8_shortBy 3 rfl) rfl rfl ?_
  refine sk_S.callV (dd DX8_shortBy 4 rfl) rfl kX8_66 (cM_catchBy hρ hb hI) se_54 (by decide) rfl rfl rfl rfl (Nat.le_of_ble_eq_true rfl) (fun r4 h4 q4 => ?_)
  obtain ⟨ho, rfl⟩ := q4
  show sk_S _ _ _ _ _ _ (.int _ :: _) _ _
  refine sk_S.isub (dd DX8_shortBy 5 rfl) ?_
  refine sk_S.istore_n (i := 3) (dd DX8_shortBy 6 rfl) rfl (Nat.le_of_ble_eq_true rfl) rfl ?_
  refine sk_S.iload_n (i := 3) (dd DX8_shortBy 7 rfl) rfl rfl ?_
  refine sk_S.if_ge (tgt := 17) (dd DX8_shortBy 8 rfl) (by decide) (fun c10 => ?_) (fun c10 => ?_)
  · refine sk_S.iload_n (i := 3) (dd DX8_shortBy 11 rfl) rfl rfl ?_
    refine sk_S.iret (dd DX8_shortBy 12 rfl) rfl rfl ?_
    refine ⟨ho, ?_⟩
    unfold shortG
    rw [if_neg (by rw [Int32.not_lt]; exact c10)]
  · refine sk_S.iconst (v := 0) (dd DX8_shortBy 9 rfl) (by decide) ?_
    refine sk_S.goto (tgt := 18) (dd DX8_shortBy 10 rfl) (by decide) ?_
    refine sk_S.iret (dd DX8_shortBy 12 rfl) rfl rfl ?_
    refine ⟨ho, ?_⟩
    unfold shortG
    rw [if_pos (by rw [← Int32.not_le]; exact c10)]
set_option maxRecDepth 100000 in
set_option maxHeartbeats 4000000 in
theorem cM_coinsFor {l : Launch} {E : sk_V} {d : Nat} {h : sk_M} {ρ : Nat → Int32} {f : Nat} {s : Int32} (hf : f < 4) (hρ : h 55 = ρ) (hI : lawI ρ 1) : sk_K l E (d + 3) MX8_coinsFor [.ref 54, .int (nI f), .int s] h (fun r h1 => sk_o [63, 64] h h1 ∧ some (.int (coinsG ρ f s)) = r) := by
  refine sk_K.of (by decide +kernel) (Nat.le_of_ble_eq_true rfl) ?_
  show sk_S l E (d + 3) _ 0 [some (.ref 54), some (.int (nI f)), some (.int s)] [] h _
  refine sk_S.aload_n (i := 0) (dd DX8_coinsFor 0 rfl) rfl rfl ?_
  refine sk_S.iconst (v := 1) (dd DX8_coinsFor 1 rfl) (by decide) ?_
  refine sk_S.aload_n (i := 0) (dd DX8_coinsFor 2 rfl) rfl rfl ?_
  refine sk_S.getr (dd DX8_coinsFor 3 rfl) rfl fX8_9 se_54 (by decide) rfl ?_
  refine sk_S.bipush (v := 13) (dd DX8_coinsFor 4 rfl) (by decide) ?_
  refine sk_S.iload_n (i := 1) (dd DX8_coinsFor 5 rfl) rfl rfl ?_
  refine sk_S.iadd (dd DX8_coinsFor 6 rfl) ?_
  refine sk_S.iald (dd DX8_coinsFor 7 rfl) se_55 (sk_ix_e (ix_add 13 f) (by omega) (by decide)) ?_
  refine sk_S.aload_n (i := 0) (dd DX8_coinsFor 8 rfl) rfl rfl ?_
  refine sk_S.getr (dd DX8_coinsFor 9 rfl) rfl fX8_9 se_54 (by decide) rfl ?_
  refine sk_S.bipush (v := 6) (dd DX8_coinsFor 10 rfl) (by decide) ?_
  refine sk_S.iald (dd DX8_coinsFor 11 rfl) se_55 (j := 6) ⟨by decide, by decide, by decide⟩ ?_
  refine sk_S.iload_n (i := 2) (dd DX8_coinsFor 12 rfl) rfl rfl ?_
  refine sk_S.callV (dd DX8_coinsFor 13 rfl) rfl kX8_58 (cM_gives (u := 1) (by decide) hρ hI) se_54 (by decide) rfl rfl rfl rfl (Nat.le_of_ble_eq_true rfl) (fun r19 h19 q19 => ?_)
  obtain ⟨ho, rfl⟩ := q19
  show sk_S _ _ _ _ _ _ (.int _ :: _) _ _
  refine sk_S.iret (dd DX8_coinsFor 14 rfl) rfl rfl ?_
  exact ⟨ho, by rw [hρ]; rfl⟩
set_option maxRecDepth 100000 in
set_option maxHeartbeats 4000000 in
theorem cM_pays {l : Launch} {E : sk_V} {d : Nat} {h : sk_M} {n : Int32}  : sk_K l E (d + 1) MX8_pays [.ref 54, .int n] h (fun r h1 => sk_u h 55 4 (heldV (h 55 4 - n) (-99999) 99999) = h1 ∧ none = r) := by
  refine sk_K.of (by decide +kernel) (Nat.le_of_ble_eq_true rfl) ?_
  show sk_S l E (d + 1) _ 0 [some (.ref 54), some (.int n)] [] h _
  refine sk_S.aload_n (i := 0) (dd DX8_pays 0 rfl) rfl rfl ?_
  refine sk_S.getr (dd DX8_pays 1 rfl) rfl fX8_9 se_54 (by decide) rfl ?_
  refine sk_S.iconst (v := 4) (dd DX8_pays 2 rfl) (by decide) ?_
  refine sk_S.aload_n (i := 0) (dd DX8_pays 3 rfl) rfl rfl ?_
  refine sk_S.getr (dd DX8_pays 4 rfl) rfl fX8_9 se_54 (by decide) rfl ?_
  refine sk_S.iconst (v := 4) (dd DX8_pays 5 rfl) (by decide) ?_
  refine sk_S.iald (dd DX8_pays 6 rfl) se_55 (j := 4) ⟨by decide, by decide, by decide⟩ ?_
  refine sk_S.iload_n (i := 1) (dd DX8_pays 7 rfl) rfl rfl ?_
  refine sk_S.isub (dd DX8_pays 8 rfl) ?_
  refine sk_S.ldc (dd DX8_pays 9 rfl) rfl cnX8_95 ?_
  refine sk_S.ldc (dd DX8_pays 10 rfl) rfl cnX8_96 ?_
  refine sk_S.callS (dd DX8_pays 11 rfl) rfl kX8_97 cM_held rfl rfl rfl (Nat.le_of_ble_eq_true rfl) (fun r17 h17 q17 => ?_)
  obtain ⟨rfl, rfl⟩ := q17
  show sk_S _ _ _ _ _ _ (.int _ :: _) _ _
  refine sk_S.iast (dd DX8_pays 12 rfl) se_55 (j := 4) ⟨by decide, by decide, by decide⟩ ?_
  refine sk_S.vret (dd DX8_pays 13 rfl) rfl ?_
  exact ⟨rfl, rfl⟩
set_option maxRecDepth 100000 in
set_option maxHeartbeats 4000000 in
theorem cM_draw {l : Launch} {E : sk_V} {d : Nat} {h : sk_M}   : sk_K l E (d + 0) MX8_draw [.ref 54] h (fun r h1 => sk_u h 55 1 (h 55 1 * 1103515245 + 12345) = h1 ∧ some (.int (ushr8 (h 55 1 * 1103515245 + 12345))) = r) := by
  refine sk_K.of (by decide +kernel) (Nat.le_of_ble_eq_true rfl) ?_
  show sk_S l E (d + 0) _ 0 [some (.ref 54)] [] h _
  refine sk_S.aload_n (i := 0) (dd DX8_draw 0 rfl) rfl rfl ?_
  refine sk_S.getr (dd DX8_draw 1 rfl) rfl fX8_9 se_54 (by decide) rfl ?_
  refine sk_S.iconst (v := 1) (dd DX8_draw 2 rfl) (by decide) ?_
  refine sk_S.aload_n (i := 0) (dd DX8_draw 3 rfl) rfl rfl ?_
  refine sk_S.getr (dd DX8_draw 4 rfl) rfl fX8_9 se_54 (by decide) rfl ?_
  refine sk_S.iconst (v := 1) (dd DX8_draw 5 rfl) (by decide) ?_
  refine sk_S.iald (dd DX8_draw 6 rfl) se_55 (j := 1) ⟨by decide, by decide, by decide⟩ ?_
  refine sk_S.ldc (dd DX8_draw 7 rfl) rfl cnX8_174 ?_
  refine sk_S.imul (dd DX8_draw 8 rfl) ?_
  refine sk_S.sipush (v := 12345) (dd DX8_draw 9 rfl) (by decide) ?_
  refine sk_S.iadd (dd DX8_draw 10 rfl) ?_
  refine sk_S.iast (dd DX8_draw 11 rfl) se_55 (j := 1) ⟨by decide, by decide, by decide⟩ ?_
  refine sk_S.aload_n (i := 0) (dd DX8_draw 12 rfl) rfl rfl ?_
  refine sk_S.getr (dd DX8_draw 13 rfl) rfl fX8_9 se_54 (by decide) rfl ?_
  refine sk_S.iconst (v := 1) (dd DX8_draw 14 rfl) (by decide) ?_
  refine sk_S.iald (dd DX8_draw 15 rfl) se_55 (j := 1) ⟨by decide, by decide, by decide⟩ ?_
  refine sk_S.bipush (v := 8) (dd DX8_draw 16 rfl) (by decide) ?_
  refine sk_S.iushr (dd DX8_draw 17 rfl) ?_
  refine sk_S.iret (dd DX8_draw 18 rfl) rfl rfl ?_
  exact ⟨rfl, rfl⟩
end M4
end
section
section SPEC5
/-- a number among the first n -/
def inN (x : Int32) (n : Nat) : Prop := ∃ j : Nat, j < n ∧ x = nI j
theorem inN_lt {x M : Int32} {n : Nat} (hM : M.toInt = (n : Int)) : (0 ≤ x ∧ x < M) ↔ inN x n := by
  have hb : M.toInt < 2147483648 := Int32.toInt_lt M
  constructor
  · rintro ⟨h1, h2⟩
    rw [Int32.le_iff_toInt_le] at h1
    rw [Int32.lt_iff_toInt_lt] at h2
    have h1' : 0 ≤ x.toInt := h1
    refine ⟨x.toInt.toNat, by omega, ?_⟩
    apply Int32.toInt_inj.mp
    rw [nI_toInt (by omega)]
    omega
  · rintro ⟨j, hj, rfl⟩
    refine ⟨nI_pos' (by omega), ?_⟩
    rw [Int32.lt_iff_toInt_lt, nI_toInt (by omega)]
    omega
theorem inN_le {x M : Int32} {n : Nat} (hM : M.toInt + 1 = (n : Int)) : (0 ≤ x ∧ x ≤ M) ↔ inN x n := by
  have hb : M.toInt < 2147483648 := Int32.toInt_lt M
  constructor
  · rintro ⟨h1, h2⟩
    rw [Int32.le_iff_toInt_le] at h1 h2
    have h1' : 0 ≤ x.toInt := h1
    refine ⟨x.toInt.toNat, by omega, ?_⟩
    apply Int32.toInt_inj.mp
    rw [nI_toInt (by omega)]
    omega
  · rintro ⟨j, hj, rfl⟩
    refine ⟨nI_pos' (by omega), ?_⟩
    rw [Int32.le_iff_toInt_le, nI_toInt (by omega)]
    omega
theorem inN_pred {x : Int32} {n : Nat} (hn : n < 1000000) : (0 ≤ x ∧ x ≤ nI n - 1) ↔ inN x n := by
  cases n with
  | zero =>
    constructor
    · rintro ⟨h1, h2⟩
      rw [Int32.le_iff_toInt_le] at h1 h2
      have h1' : 0 ≤ x.toInt := h1
      have h2' : x.toInt ≤ -1 := h2
      omega
    · rintro ⟨j, hj, -⟩
      exact absurd hj (Nat.not_lt_zero _)
  | succ m =>
    rw [nI_pred]
    exact inN_le (by rw [nI_toInt (by omega)]; rfl)
/-- the errors, by number -/
def erI (k : Nat) : Int32 := match k with
  | 1 => -1000000001
  | 2 => -1000000002
  | 3 => -1000000003
  | 4 => -1000000004
  | 5 => -1000000005
  | _ => -1000000006
def erM (h : sk_M) (k : Nat) (h1 : sk_M) (r : Option Value) : Prop := sk_u h 57 k (h 57 k + 1) = h1 ∧ some (.int (erI k)) = r
theorem landsG_cg {g g1 : Nat → Int32} (e : ∀ k, 17 ≤ k → g1 k = g k) {j : Nat} {f s sea day : Int32} : landsG g1 j f s sea day = landsG g j f s sea day := by
  have a1 : laA g1 0 = laA g 0 := funext fun k => e _ (by omega)
  have a2 : laB g1 0 = laB g 0 := funext fun k => e _ (by omega)
  have a3 : laN g1 0 = laN g 0 := by unfold laN; rw [e _ (by omega)]
  unfold landsG gvV lawV
  rw [a1, a2, a3, e _ (by omega), e _ (by omega), e _ (by omega)]
theorem sumN_cg {f g : Nat → Int32} : ∀ n, (∀ k, k < n → f k = g k) → sumN f n = sumN g n
  | 0, _ => rfl
  | n + 1, h => by
    show sumN f n + f n = sumN g n + g n
    rw [sumN_cg n (fun k hk => h k (by omega)), h n (by omega)]
theorem catchG_cg {g g1 : Nat → Int32} (e : ∀ k, 17 ≤ k → g1 k = g k) (e2 : g1 2 = g 2) {f s sea day : Int32} : catchG g1 f s sea day = catchG g f s sea day := by
  unfold catchG boN
  rw [e2]
  exact sumN_cg _ (fun k _ => landsG_cg e)
theorem shortG_cg {g g1 : Nat → Int32} (e : ∀ k, 17 ≤ k → g1 k = g k) (e2 : g1 2 = g 2) (e3 : g1 3 = g 3) (e0 : g1 0 = g 0) {f s : Int32} : shortG g1 f s = shortG g f s := by
  unfold shortG
  rw [catchG_cg e e2, e3, e0]
theorem lawI_cg {g g1 : Nat → Int32} (e : ∀ k, 119 ≤ k → g1 k = g k) {u : Nat} (h : lawI g u) : lawI g1 u := by
  have a1 : laA g1 u = laA g u := funext fun k => e _ (by omega)
  have a2 : laB g1 u = laB g u := funext fun k => e _ (by omega)
  have a3 : laN g1 u = laN g u := by unfold laN; rw [e _ (by omega)]
  unfold lawI
  rw [a1, a2, a3, e _ (by omega)]
  exact h
theorem boI_cg {g g1 : Nat → Int32} (e : g1 2 = g 2) (h : boI g) : boI g1 := by
  unfold boI boN at *
  rw [e]
  exact h
theorem upd_ne {f : Nat → Int32} {k i : Nat} {x : Int32} (n : i ≠ k) : upd f k x i = f i := if_neg n
theorem upd_eq {f : Nat → Int32} {k : Nat} {x : Int32} : upd f k x k = x := if_pos rfl
/-- a sale -/
def sellR (g : Nat → Int32) (j : Nat) (n : Int32) : Nat → Int32 := upd (upd g 4 (heldV (g 4 + n * coinsG g j (g (9 + j))) (-99999) 99999)) (9 + j) (g (9 + j) + n)
theorem sk_r_r (h : sk_M) (k : Nat) (f g : Nat → Int32) : sk_r (sk_r h k f) k g = sk_r h k g := by
  funext a
  unfold sk_r
  split <;> rfl
end SPEC5
section SPEC5B
theorem rg16 {k : Int32} (c : 1 ≤ k ∧ k ≤ 6) : ∃ j, 1 ≤ j ∧ j ≤ 6 ∧ k = nI j := by
  have h0 : (0 : Int32) ≤ k := Int32.le_trans (by decide) c.1
  obtain ⟨j, hj, rfl⟩ := (inN_le (x := k) (M := 6) (n := 7) (by decide)).mp ⟨h0, c.2⟩
  refine ⟨j, ?_, by omega, rfl⟩
  have h1 : nI 1 ≤ nI j := c.1
  rw [nI_leI (by decide) (by omega)] at h1
  exact h1
end SPEC5B
end
section
section M5
set_option maxRecDepth 100000 in
set_option maxHeartbeats 4000000 in
theorem cM_rises {l : Launch} {E : sk_V} {d : Nat} {h : sk_M} {v : Int32}  : sk_K l E (d + 1) MX8_rises [.ref 54, .int v] h (fun r h1 => (inN v 10 ∧ sk_u h 55 3 v = h1 ∧ some (.int (h 55 3)) = r) ∨ (¬ inN v 10 ∧ erM h 1 h1 r)) := by
  refine sk_K.of (by decide +kernel) (Nat.le_of_ble_eq_true rfl) ?_
  show sk_S l E (d + 1) _ 0 [some (.ref 54), some (.int v)] [] h _
  refine sk_S.iload_n (i := 1) (dd DX8_rises 0 rfl) rfl rfl ?_
  refine sk_S.iconst (v := 0) (dd DX8_rises 1 rfl) (by decide) ?_
  refine sk_S.bipush (v := 9) (dd DX8_rises 2 rfl) (by decide) ?_
  refine sk_S.callS (dd DX8_rises 3 rfl) rfl kX8_47 cM_in rfl rfl rfl (Nat.le_of_ble_eq_true rfl) (fun r4 h4 q4 => ?_)
  obtain ⟨rfl, rfl⟩ := q4
  show sk_S _ _ _ _ _ _ (.int _ :: _) _ _
  refine sk_S.bif_eq (tgt := 19) (dd DX8_rises 4 rfl) (by decide) (fun c7 => ?_) (fun c7 => ?_)
  · refine sk_S.aload_n (i := 0) (dd DX8_rises 10 rfl) rfl rfl ?_
    refine sk_S.ldc (dd DX8_rises 11 rfl) rfl cnX8_73 ?_
    refine sk_S.callV (dd DX8_rises 12 rfl) rfl kX8_74 (cM_error (k := 1) ⟨by decide, by decide, by decide⟩) se_54 (by decide) rfl rfl rfl rfl (Nat.le_of_ble_eq_true rfl) (fun r22 h22 q22 => ?_)
    obtain ⟨rfl, rfl⟩ := q22
    show sk_S _ _ _ _ _ _ (.int _ :: _) _ _
    refine sk_S.iret (dd DX8_rises 13 rfl) rfl rfl ?_
    exact Or.inr ⟨fun q => c7 ((inN_le (by decide)).mpr q), rfl, rfl⟩
  · refine sk_S.aload_n (i := 0) (dd DX8_rises 5 rfl) rfl rfl ?_
    refine sk_S.iconst (v := 3) (dd DX8_rises 6 rfl) (by decide) ?_
    refine sk_S.iload_n (i := 1) (dd DX8_rises 7 rfl) rfl rfl ?_
    refine sk_S.callV (dd DX8_rises 8 rfl) rfl kX8_85 (cM_becomes (j := 3) ⟨by decide, by decide, by decide⟩) se_54 (by decide) rfl rfl rfl rfl (Nat.le_of_ble_eq_true rfl) (fun r13 h13 q13 => ?_)
    obtain ⟨rfl, rfl⟩ := q13
    show sk_S _ _ _ _ _ _ (.int _ :: _) _ _
    refine sk_S.goto (tgt := 25) (dd DX8_rises 9 rfl) (by decide) ?_
    refine sk_S.iret (dd DX8_rises 13 rfl) rfl rfl ?_
    exact Or.inl ⟨(inN_le (by decide)).mp c7, rfl, rfl⟩
set_option maxRecDepth 100000 in
set_option maxHeartbeats 4000000 in
theorem cM_seed {l : Launch} {E : sk_V} {d : Nat} {h : sk_M} {v : Int32}  : sk_K l E (d + 1) MX8_seed [.ref 54, .int v] h (fun r h1 => sk_u h 55 1 v = h1 ∧ some (.int (h 55 1)) = r) := by
  refine sk_K.of (by decide +kernel) (Nat.le_of_ble_eq_true rfl) ?_
  show sk_S l E (d + 1) _ 0 [some (.ref 54), some (.int v)] [] h _
  refine sk_S.aload_n (i := 0) (dd DX8_seed 0 rfl) rfl rfl ?_
  refine sk_S.iconst (v := 1) (dd DX8_seed 1 rfl) (by decide) ?_
  refine sk_S.iload_n (i := 1) (dd DX8_seed 2 rfl) rfl rfl ?_
  refine sk_S.callV (dd DX8_seed 3 rfl) rfl kX8_85 (cM_becomes (j := 1) ⟨by decide, by decide, by decide⟩) se_54 (by decide) rfl rfl rfl rfl (Nat.le_of_ble_eq_true rfl) (fun r3 h3 q3 => ?_)
  obtain ⟨rfl, rfl⟩ := q3
  show sk_S _ _ _ _ _ _ (.int _ :: _) _ _
  refine sk_S.iret (dd DX8_seed 4 rfl) rfl rfl ?_
  exact ⟨rfl, rfl⟩
set_option maxRecDepth 100000 in
set_option maxHeartbeats 4000000 in
theorem cM_price {l : Launch} {E : sk_V} {d : Nat} {h : sk_M} {f v : Int32}  : sk_K l E (d + 2) MX8_price [.ref 54, .int f, .int v] h (fun r h1 => (∃ j, j < 4 ∧ f = nI j ∧ inN v 10 ∧ sk_u h 55 (13 + j) v = h1 ∧ some (.int (h 55 (13 + j))) = r) ∨ (¬ (inN f 4 ∧ inN v 10) ∧ erM h 1 h1 r)) := by
  refine sk_K.of (by decide +kernel) (Nat.le_of_ble_eq_true rfl) ?_
  show sk_S l E (d + 2) _ 0 [some (.ref 54), some (.int f), some (.int v)] [] h _
  refine sk_S.iload_n (i := 1) (dd DX8_price 0 rfl) rfl rfl ?_
  refine sk_S.callS (dd DX8_price 1 rfl) rfl kX8_89 cM_isFish rfl rfl rfl (Nat.le_of_ble_eq_true rfl) (fun r1 h1 q1 => ?_)
  obtain ⟨rfl, rfl⟩ := q1
  show sk_S _ _ _ _ _ _ (.int _ :: _) _ _
  refine sk_S.bif_eq (tgt := 29) (dd DX8_price 2 rfl) (by decide) (fun c4 => ?_) (fun c4 => ?_)
  · refine sk_S.aload_n (i := 0) (dd DX8_price 15 rfl) rfl rfl ?_
    refine sk_S.ldc (dd DX8_price 16 rfl) rfl cnX8_73 ?_
    refine sk_S.callV (dd DX8_price 17 rfl) rfl kX8_74 (cM_error (k := 1) ⟨by decide, by decide, by decide⟩) se_54 (by decide) rfl rfl rfl rfl (Nat.le_of_ble_eq_true rfl) (fun r32 h32 q32 => ?_)
    obtain ⟨rfl, rfl⟩ := q32
    show sk_S _ _ _ _ _ _ (.int _ :: _) _ _
    refine sk_S.iret (dd DX8_price 18 rfl) rfl rfl ?_
    exact Or.inr ⟨fun q => c4 ((inN_le (by decide)).mpr q.1), rfl, rfl⟩
  · refine sk_S.iload_n (i := 2) (dd DX8_price 3 rfl) rfl rfl ?_
    refine sk_S.iconst (v := 0) (dd DX8_price 4 rfl) (by decide) ?_
    refine sk_S.bipush (v := 9) (dd DX8_price 5 rfl) (by decide) ?_
    refine sk_S.callS (dd DX8_price 6 rfl) rfl kX8_47 cM_in rfl rfl rfl (Nat.le_of_ble_eq_true rfl) (fun r11 h11 q11 => ?_)
    obtain ⟨rfl, rfl⟩ := q11
    show sk_S _ _ _ _ _ _ (.int _ :: _) _ _
    refine sk_S.bif_eq (tgt := 29) (dd DX8_price 7 rfl) (by decide) (fun c14 => ?_) (fun c14 => ?_)
    · refine sk_S.aload_n (i := 0) (dd DX8_price 15 rfl) rfl rfl ?_
      refine sk_S.ldc (dd DX8_price 16 rfl) rfl cnX8_73 ?_
      refine sk_S.callV (dd DX8_price 17 rfl) rfl kX8_74 (cM_error (k := 1) ⟨by decide, by decide, by decide⟩) se_54 (by decide) rfl rfl rfl rfl (Nat.le_of_ble_eq_true rfl) (fun r32 h32 q32 => ?_)
      obtain ⟨rfl, rfl⟩ := q32
      show sk_S _ _ _ _ _ _ (.int _ :: _) _ _
      refine sk_S.iret (dd DX8_price 18 rfl) rfl rfl ?_
      exact Or.inr ⟨fun q => c14 ((inN_le (by decide)).mpr q.2), rfl, rfl⟩
    · obtain ⟨j, hj, rfl⟩ := (inN_le (n := 4) (by decide)).mp c4
      refine sk_S.aload_n (i := 0) (dd DX8_price 8 rfl) rfl rfl ?_
      refine sk_S.bipush (v := 13) (dd DX8_price 9 rfl) (by decide) ?_
      refine sk_S.iload_n (i := 1) (dd DX8_price 10 rfl) rfl rfl ?_
      refine sk_S.iadd (dd DX8_price 11 rfl) ?_
      refine sk_S.iload_n (i := 2) (dd DX8_price 12 rfl) rfl rfl ?_
      refine sk_S.callV (dd DX8_price 13 rfl) rfl kX8_85 (cM_becomes (j := 13 + j) (sk_ix_e (ix_add 13 j) (by omega) (by decide))) se_54 (by decide) rfl rfl rfl rfl (Nat.le_of_ble_eq_true rfl) (fun r23 h23 q23 => ?_)
      obtain ⟨rfl, rfl⟩ := q23
      show sk_S _ _ _ _ _ _ (.int _ :: _) _ _
      refine sk_S.goto (tgt := 35) (dd DX8_price 14 rfl) (by decide) ?_
      refine sk_S.iret (dd DX8_price 18 rfl) rfl rfl ?_
      exact Or.inl ⟨j, hj, rfl, (inN_le (by decide)).mp c14, rfl, rfl⟩
set_option maxRecDepth 100000 in
set_option maxHeartbeats 4000000 in
theorem cM_lose {l : Launch} {E : sk_V} {d : Nat} {h : sk_M} {b v : Int32} (hb : boI (h 55)) : sk_K l E (d + 2) MX8_lose [.ref 54, .int b, .int v] h (fun r h1 => (∃ j, j < boN (h 55) ∧ b = nI j ∧ inN v 2 ∧ sk_u h 55 (17 + 3 * j + 2) v = h1 ∧ some (.int (h 55 (17 + 3 * j + 2))) = r) ∨ (¬ (inN b (boN (h 55)) ∧ inN v 2) ∧ erM h 1 h1 r)) := by
  refine sk_K.of (by decide +kernel) (Nat.le_of_ble_eq_true rfl) ?_
  show sk_S l E (d + 2) _ 0 [some (.ref 54), some (.int b), some (.int v)] [] h _
  refine sk_S.aload_n (i := 0) (dd DX8_lose 0 rfl) rfl rfl ?_
  refine sk_S.iload_n (i := 1) (dd DX8_lose 1 rfl) rfl rfl ?_
  refine sk_S.callV (dd DX8_lose 2 rfl) rfl kX8_79 cM_isBoat se_54 (by decide) rfl rfl rfl rfl (Nat.le_of_ble_eq_true rfl) (fun r2 h2 q2 => ?_)
  obtain ⟨rfl, rfl⟩ := q2
  show sk_S _ _ _ _ _ _ (.int _ :: _) _ _
  refine sk_S.bif_eq (tgt := 33) (dd DX8_lose 3 rfl) (by decide) (fun c5 => ?_) (fun c5 => ?_)
  · refine sk_S.aload_n (i := 0) (dd DX8_lose 20 rfl) rfl rfl ?_
    refine sk_S.ldc (dd DX8_lose 21 rfl) rfl cnX8_73 ?_
    refine sk_S.callV (dd DX8_lose 22 rfl) rfl kX8_74 (cM_error (k := 1) ⟨by decide, by decide, by decide⟩) se_54 (by decide) rfl rfl rfl rfl (Nat.le_of_ble_eq_true rfl) (fun r36 h36 q36 => ?_)
    obtain ⟨rfl, rfl⟩ := q36
    show sk_S _ _ _ _ _ _ (.int _ :: _) _ _
    refine sk_S.iret (dd DX8_lose 23 rfl) rfl rfl ?_
    exact Or.inr ⟨fun q => c5 (by rw [hb.1]; exact (inN_pred (by have := hb.2; omega)).mpr q.1), rfl, rfl⟩
  · refine sk_S.iload_n (i := 2) (dd DX8_lose 4 rfl) rfl rfl ?_
    refine sk_S.iconst (v := 0) (dd DX8_lose 5 rfl) (by decide) ?_
    refine sk_S.iconst (v := 1) (dd DX8_lose 6 rfl) (by decide) ?_
    refine sk_S.callS (dd DX8_lose 7 rfl) rfl kX8_47 cM_in rfl rfl rfl (Nat.le_of_ble_eq_true rfl) (fun r11 h11 q11 => ?_)
    obtain ⟨rfl, rfl⟩ := q11
    show sk_S _ _ _ _ _ _ (.int _ :: _) _ _
    refine sk_S.bif_eq (tgt := 33) (dd DX8_lose 8 rfl) (by decide) (fun c14 => ?_) (fun c14 => ?_)
    · refine sk_S.aload_n (i := 0) (dd DX8_lose 20 rfl) rfl rfl ?_
      refine sk_S.ldc (dd DX8_lose 21 rfl) rfl cnX8_73 ?_
      refine sk_S.callV (dd DX8_lose 22 rfl) rfl kX8_74 (cM_error (k := 1) ⟨by decide, by decide, by decide⟩) se_54 (by decide) rfl rfl rfl rfl (Nat.le_of_ble_eq_true rfl) (fun r36 h36 q36 => ?_)
      obtain ⟨rfl, rfl⟩ := q36
      show sk_S _ _ _ _ _ _ (.int _ :: _) _ _
      refine sk_S.iret (dd DX8_lose 23 rfl) rfl rfl ?_
      exact Or.inr ⟨fun q => c14 ((inN_le (by decide)).mpr q.2), rfl, rfl⟩
    · rw [hb.1] at c5
      obtain ⟨j, hj, rfl⟩ := (inN_pred (by have := hb.2; omega)).mp c5
      have hb6 := hb.2
      refine sk_S.aload_n (i := 0) (dd DX8_lose 9 rfl) rfl rfl ?_
      refine sk_S.bipush (v := 17) (dd DX8_lose 10 rfl) (by decide) ?_
      refine sk_S.iconst (v := 3) (dd DX8_lose 11 rfl) (by decide) ?_
      refine sk_S.iload_n (i := 1) (dd DX8_lose 12 rfl) rfl rfl ?_
      refine sk_S.imul (dd DX8_lose 13 rfl) ?_
      refine sk_S.iadd (dd DX8_lose 14 rfl) ?_
      refine sk_S.iconst (v := 2) (dd DX8_lose 15 rfl) (by decide) ?_
      refine sk_S.iadd (dd DX8_lose 16 rfl) ?_
      refine sk_S.iload_n (i := 2) (dd DX8_lose 17 rfl) rfl rfl ?_
      refine sk_S.callV (dd DX8_lose 18 rfl) rfl kX8_85 (cM_becomes (j := 17 + 3 * j + 2) (sk_ix_e (k := 17 + 3 * j + 2) (by show nI 17 + nI 3 * nI j + nI 2 = _; rw [nI_mul, nI_add, nI_add]) (by omega) (by decide))) se_54 (by decide) rfl rfl rfl rfl (Nat.le_of_ble_eq_true rfl) (fun r27 h27 q27 => ?_)
      obtain ⟨rfl, rfl⟩ := q27
      show sk_S _ _ _ _ _ _ (.int _ :: _) _ _
      refine sk_S.goto (tgt := 39) (dd DX8_lose 19 rfl) (by decide) ?_
      refine sk_S.iret (dd DX8_lose 23 rfl) rfl rfl ?_
      exact Or.inl ⟨j, hj, rfl, (inN_le (by decide)).mp c14, rfl, rfl⟩
set_option maxRecDepth 100000 in
set_option maxHeartbeats 4000000 in
theorem cM_become {l : Launch} {E : sk_V} {d : Nat} {h : sk_M} {b v : Int32} (hb : boI (h 55)) : sk_K l E (d + 2) MX8_become [.ref 54, .int b, .int v] h (fun r h1 => (∃ j, j < boN (h 55) ∧ b = nI j ∧ inN v 70 ∧ sk_u (sk_u h 55 (17 + 3 * j + 1) (v - v / 10 * 10)) 55 (17 + 3 * j) (v / 10) = h1 ∧ some (.int (h 55 (17 + 3 * j))) = r) ∨ (¬ (inN b (boN (h 55)) ∧ inN v 70) ∧ erM h 1 h1 r)) := by
  refine sk_K.of (by decide +kernel) (Nat.le_of_ble_eq_true rfl) ?_
  show sk_S l E (d + 2) _ 0 [some (.ref 54), some (.int b), some (.int v)] [] h _
  refine sk_S.aload_n (i := 0) (dd DX8_become 0 rfl) rfl rfl ?_
  refine sk_S.iload_n (i := 1) (dd DX8_become 1 rfl) rfl rfl ?_
  refine sk_S.callV (dd DX8_become 2 rfl) rfl kX8_79 cM_isBoat se_54 (by decide) rfl rfl rfl rfl (Nat.le_of_ble_eq_true rfl) (fun r2 h2 q2 => ?_)
  obtain ⟨rfl, rfl⟩ := q2
  show sk_S _ _ _ _ _ _ (.int _ :: _) _ _
  refine sk_S.bif_eq (tgt := 15) (dd DX8_become 3 rfl) (by decide) (fun c5 => ?_) (fun c5 => ?_)
  · refine sk_S.aload_n (i := 0) (dd DX8_become 7 rfl) rfl rfl ?_
    refine sk_S.ldc (dd DX8_become 8 rfl) rfl cnX8_73 ?_
    refine sk_S.callV (dd DX8_become 9 rfl) rfl kX8_74 (cM_error (k := 1) ⟨by decide, by decide, by decide⟩) se_54 (by decide) rfl rfl rfl rfl (Nat.le_of_ble_eq_true rfl) (fun r18 h18 q18 => ?_)
    obtain ⟨rfl, rfl⟩ := q18
    show sk_S _ _ _ _ _ _ (.int _ :: _) _ _
    refine sk_S.iret (dd DX8_become 10 rfl) rfl rfl ?_
    exact Or.inr ⟨fun q => c5 (by rw [hb.1]; exact (inN_pred (by have := hb.2; omega)).mpr q.1), rfl, rfl⟩
  · refine sk_S.iload_n (i := 2) (dd DX8_become 4 rfl) rfl rfl ?_
    refine sk_S.callS (dd DX8_become 5 rfl) rfl kX8_69 cM_isKm rfl rfl rfl (Nat.le_of_ble_eq_true rfl) (fun r9 h9 q9 => ?_)
    obtain ⟨rfl, rfl⟩ := q9
    show sk_S _ _ _ _ _ _ (.int _ :: _) _ _
    refine sk_S.bif_ne (tgt := 22) (dd DX8_become 6 rfl) (by decide) (fun c12 => ?_) (fun c12 => ?_)
    · rw [hb.1] at c5
      obtain ⟨j, hj, rfl⟩ := (inN_pred (by have := hb.2; omega)).mp c5
      have hb6 := hb.2
      refine sk_S.aload_n (i := 0) (dd DX8_become 11 rfl) rfl rfl ?_
      refine sk_S.getr (dd DX8_become 12 rfl) rfl fX8_9 se_54 (by decide) rfl ?_
      refine sk_S.bipush (v := 17) (dd DX8_become 13 rfl) (by decide) ?_
      refine sk_S.iconst (v := 3) (dd DX8_become 14 rfl) (by decide) ?_
      refine sk_S.iload_n (i := 1) (dd DX8_become 15 rfl) rfl rfl ?_
      refine sk_S.imul (dd DX8_become 16 rfl) ?_
      refine sk_S.iadd (dd DX8_become 17 rfl) ?_
      refine sk_S.iconst (v := 1) (dd DX8_become 18 rfl) (by decide) ?_
      refine sk_S.iadd (dd DX8_become 19 rfl) ?_
      refine sk_S.iload_n (i := 2) (dd DX8_become 20 rfl) rfl rfl ?_
      refine sk_S.bipush (v := 10) (dd DX8_become 21 rfl) (by decide) ?_
      refine sk_S.irem (dd DX8_become 22 rfl) (by decide) ?_
      refine sk_S.iast (dd DX8_become 23 rfl) se_55 (sk_ix_e (k := 17 + 3 * j + 1) (by show nI 17 + nI 3 * nI j + nI 1 = _; rw [nI_mul, nI_add, nI_add]) (by omega) (by decide)) ?_
      refine sk_S.aload_n (i := 0) (dd DX8_become 24 rfl) rfl rfl ?_
      refine sk_S.bipush (v := 17) (dd DX8_become 25 rfl) (by decide) ?_
      refine sk_S.iconst (v := 3) (dd DX8_become 26 rfl) (by decide) ?_
      refine sk_S.iload_n (i := 1) (dd DX8_become 27 rfl) rfl rfl ?_
      refine sk_S.imul (dd DX8_become 28 rfl) ?_
      refine sk_S.iadd (dd DX8_become 29 rfl) ?_
      refine sk_S.iload_n (i := 2) (dd DX8_become 30 rfl) rfl rfl ?_
      refine sk_S.bipush (v := 10) (dd DX8_become 31 rfl) (by decide) ?_
      refine sk_S.idiv (dd DX8_become 32 rfl) (by decide) ?_
      refine sk_S.callV (dd DX8_become 33 rfl) rfl kX8_85 (cM_becomes (j := 17 + 3 * j) (sk_ix_e (k := 17 + 3 * j) (by show nI 17 + nI 3 * nI j = _; rw [nI_mul, nI_add]) (by omega) (by decide))) se_54 (by decide) rfl rfl rfl rfl (Nat.le_of_ble_eq_true rfl) (fun r50 h50 q50 => ?_)
      obtain ⟨rfl, rfl⟩ := q50
      show sk_S _ _ _ _ _ _ (.int _ :: _) _ _
      refine sk_S.iret (dd DX8_become 34 rfl) rfl rfl ?_
      refine Or.inl ⟨j, hj, rfl, (inN_le (by decide)).mp c12, rfl, ?_⟩
      rw [sk_u_at, if_pos rfl, if_neg (by omega)]
    · refine sk_S.aload_n (i := 0) (dd DX8_become 7 rfl) rfl rfl ?_
      refine sk_S.ldc (dd DX8_become 8 rfl) rfl cnX8_73 ?_
      refine sk_S.callV (dd DX8_become 9 rfl) rfl kX8_74 (cM_error (k := 1) ⟨by decide, by decide, by decide⟩) se_54 (by decide) rfl rfl rfl rfl (Nat.le_of_ble_eq_true rfl) (fun r18 h18 q18 => ?_)
      obtain ⟨rfl, rfl⟩ := q18
      show sk_S _ _ _ _ _ _ (.int _ :: _) _ _
      refine sk_S.iret (dd DX8_become 10 rfl) rfl rfl ?_
      exact Or.inr ⟨fun q => c12 ((inN_le (by decide)).mpr q.2), rfl, rfl⟩
set_option maxRecDepth 100000 in
set_option maxHeartbeats 4000000 in
theorem cM_boat {l : Launch} {E : sk_V} {d : Nat} {h : sk_M} {v : Int32} (hb : boI (h 55)) : sk_K l E (d + 2) MX8_boat [.ref 54, .int v] h (fun r h1 => (¬ inN v 70 ∧ erM h 1 h1 r) ∨ (inN v 70 ∧ boN (h 55) = 6 ∧ erM h 4 h1 r) ∨ (inN v 70 ∧ boN (h 55) < 6 ∧ sk_u (sk_u (sk_u (sk_u h 55 2 (h 55 2 + 1)) 55 (17 + 3 * boN (h 55)) (v / 10)) 55 (17 + 3 * boN (h 55) + 1) (v - v / 10 * 10)) 55 (17 + 3 * boN (h 55) + 2) 0 = h1 ∧ some (.int (nI (boN (h 55)))) = r)) := by
  refine sk_K.of (by decide +kernel) (Nat.le_of_ble_eq_true rfl) ?_
  show sk_S l E (d + 2) _ 0 [some (.ref 54), some (.int v), none] [] h _
  refine sk_S.iload_n (i := 1) (dd DX8_boat 0 rfl) rfl rfl ?_
  refine sk_S.callS (dd DX8_boat 1 rfl) rfl kX8_69 cM_isKm rfl rfl rfl (Nat.le_of_ble_eq_true rfl) (fun r1 h1 q1 => ?_)
  obtain ⟨rfl, rfl⟩ := q1
  show sk_S _ _ _ _ _ _ (.int _ :: _) _ _
  refine sk_S.bif_ne (tgt := 14) (dd DX8_boat 2 rfl) (by decide) (fun c4 => ?_) (fun c4 => ?_)
  · refine sk_S.aload_n (i := 0) (dd DX8_boat 7 rfl) rfl rfl ?_
    refine sk_S.getr (dd DX8_boat 8 rfl) rfl fX8_9 se_54 (by decide) rfl ?_
    refine sk_S.iconst (v := 2) (dd DX8_boat 9 rfl) (by decide) ?_
    refine sk_S.iald (dd DX8_boat 10 rfl) se_55 (j := 2) ⟨by decide, by decide, by decide⟩ ?_
    refine sk_S.istore_n (i := 2) (dd DX8_boat 11 rfl) rfl (Nat.le_of_ble_eq_true rfl) rfl ?_
    refine sk_S.iload_n (i := 2) (dd DX8_boat 12 rfl) rfl rfl ?_
    refine sk_S.bipush (v := 6) (dd DX8_boat 13 rfl) (by decide) ?_
    refine sk_S.icmp_ne (tgt := 34) (dd DX8_boat 14 rfl) (by decide) (fun c24 => ?_) (fun c24 => ?_)
    · have hb6 := hb.2
      have hlt : boN (h 55) < 6 := by
        apply Nat.lt_of_le_of_ne hb6
        intro q
        apply c24
        rw [hb.1, q]
        rfl
      generalize ej : boN (h 55) = j at *
      refine sk_S.aload_n (i := 0) (dd DX8_boat 19 rfl) rfl rfl ?_
      refine sk_S.getr (dd DX8_boat 20 rfl) rfl fX8_9 se_54 (by decide) rfl ?_
      refine sk_S.iconst (v := 2) (dd DX8_boat 21 rfl) (by decide) ?_
      refine sk_S.dup2 (dd DX8_boat 22 rfl) rfl rfl ?_
      refine sk_S.iald (dd DX8_boat 23 rfl) se_55 (j := 2) ⟨by decide, by decide, by decide⟩ ?_
      refine sk_S.iconst (v := 1) (dd DX8_boat 24 rfl) (by decide) ?_
      refine sk_S.iadd (dd DX8_boat 25 rfl) ?_
      refine sk_S.iast (dd DX8_boat 26 rfl) se_55 (j := 2) ⟨by decide, by decide, by decide⟩ ?_
      refine sk_S.aload_n (i := 0) (dd DX8_boat 27 rfl) rfl rfl ?_
      refine sk_S.getr (dd DX8_boat 28 rfl) rfl fX8_9 se_54 (by decide) rfl ?_
      refine sk_S.bipush (v := 17) (dd DX8_boat 29 rfl) (by decide) ?_
      refine sk_S.iconst (v := 3) (dd DX8_boat 30 rfl) (by decide) ?_
      refine sk_S.iload_n (i := 2) (dd DX8_boat 31 rfl) rfl rfl ?_
      refine sk_S.imul (dd DX8_boat 32 rfl) ?_
      refine sk_S.iadd (dd DX8_boat 33 rfl) ?_
      refine sk_S.iload_n (i := 1) (dd DX8_boat 34 rfl) rfl rfl ?_
      refine sk_S.bipush (v := 10) (dd DX8_boat 35 rfl) (by decide) ?_
      refine sk_S.idiv (dd DX8_boat 36 rfl) (by decide) ?_
      refine sk_S.iast (dd DX8_boat 37 rfl) se_55 (sk_ix_e (k := 17 + 3 * j) (by rw [hb.1, ej]; show nI 17 + nI 3 * nI j = _; rw [nI_mul, nI_add]) (by omega) (by decide)) ?_
      refine sk_S.aload_n (i := 0) (dd DX8_boat 38 rfl) rfl rfl ?_
      refine sk_S.getr (dd DX8_boat 39 rfl) rfl fX8_9 se_54 (by decide) rfl ?_
      refine sk_S.bipush (v := 17) (dd DX8_boat 40 rfl) (by decide) ?_
      refine sk_S.iconst (v := 3) (dd DX8_boat 41 rfl) (by decide) ?_
      refine sk_S.iload_n (i := 2) (dd DX8_boat 42 rfl) rfl rfl ?_
      refine sk_S.imul (dd DX8_boat 43 rfl) ?_
      refine sk_S.iadd (dd DX8_boat 44 rfl) ?_
      refine sk_S.iconst (v := 1) (dd DX8_boat 45 rfl) (by decide) ?_
      refine sk_S.iadd (dd DX8_boat 46 rfl) ?_
      refine sk_S.iload_n (i := 1) (dd DX8_boat 47 rfl) rfl rfl ?_
      refine sk_S.bipush (v := 10) (dd DX8_boat 48 rfl) (by decide) ?_
      refine sk_S.irem (dd DX8_boat 49 rfl) (by decide) ?_
      refine sk_S.iast (dd DX8_boat 50 rfl) se_55 (sk_ix_e (k := 17 + 3 * j + 1) (by rw [hb.1, ej]; show nI 17 + nI 3 * nI j + nI 1 = _; rw [nI_mul, nI_add, nI_add]) (by omega) (by decide)) ?_
      refine sk_S.aload_n (i := 0) (dd DX8_boat 51 rfl) rfl rfl ?_
      refine sk_S.getr (dd DX8_boat 52 rfl) rfl fX8_9 se_54 (by decide) rfl ?_
      refine sk_S.bipush (v := 17) (dd DX8_boat 53 rfl) (by decide) ?_
      refine sk_S.iconst (v := 3) (dd DX8_boat 54 rfl) (by decide) ?_
      refine sk_S.iload_n (i := 2) (dd DX8_boat 55 rfl) rfl rfl ?_
      refine sk_S.imul (dd DX8_boat 56 rfl) ?_
      refine sk_S.iadd (dd DX8_boat 57 rfl) ?_
      refine sk_S.iconst (v := 2) (dd DX8_boat 58 rfl) (by decide) ?_
      refine sk_S.iadd (dd DX8_boat 59 rfl) ?_
      refine sk_S.iconst (v := 0) (dd DX8_boat 60 rfl) (by decide) ?_
      refine sk_S.iast (dd DX8_boat 61 rfl) se_55 (sk_ix_e (k := 17 + 3 * j + 2) (by rw [hb.1, ej]; show nI 17 + nI 3 * nI j + nI 2 = _; rw [nI_mul, nI_add, nI_add]) (by omega) (by decide)) ?_
      refine sk_S.iload_n (i := 2) (dd DX8_boat 62 rfl) rfl rfl ?_
      refine sk_S.iret (dd DX8_boat 63 rfl) rfl rfl ?_
      refine Or.inr (Or.inr ⟨(inN_le (by decide)).mp c4, by omega, rfl, ?_⟩)
      rw [hb.1, ej]
    · refine sk_S.aload_n (i := 0) (dd DX8_boat 15 rfl) rfl rfl ?_
      refine sk_S.ldc (dd DX8_boat 16 rfl) rfl cnX8_78 ?_
      refine sk_S.callV (dd DX8_boat 17 rfl) rfl kX8_74 (cM_error (k := 4) ⟨by decide, by decide, by decide⟩) se_54 (by decide) rfl rfl rfl rfl (Nat.le_of_ble_eq_true rfl) (fun r30 h30 q30 => ?_)
      obtain ⟨rfl, rfl⟩ := q30
      show sk_S _ _ _ _ _ _ (.int _ :: _) _ _
      refine sk_S.iret (dd DX8_boat 18 rfl) rfl rfl ?_
      refine Or.inr (Or.inl ⟨(inN_le (by decide)).mp c4, ?_, rfl, rfl⟩)
      have h2 := hb.1.symm.trans c24
      exact (nI_eq (by have := hb.2; omega) (by decide)).mp h2
  · refine sk_S.aload_n (i := 0) (dd DX8_boat 3 rfl) rfl rfl ?_
    refine sk_S.ldc (dd DX8_boat 4 rfl) rfl cnX8_73 ?_
    refine sk_S.callV (dd DX8_boat 5 rfl) rfl kX8_74 (cM_error (k := 1) ⟨by decide, by decide, by decide⟩) se_54 (by decide) rfl rfl rfl rfl (Nat.le_of_ble_eq_true rfl) (fun r10 h10 q10 => ?_)
    obtain ⟨rfl, rfl⟩ := q10
    show sk_S _ _ _ _ _ _ (.int _ :: _) _ _
    refine sk_S.iret (dd DX8_boat 6 rfl) rfl rfl ?_
    exact Or.inl ⟨fun q => c4 ((inN_le (by decide)).mpr q), rfl, rfl⟩
set_option maxRecDepth 100000 in
set_option maxHeartbeats 4000000 in
theorem cM_told {l : Launch} {E : sk_V} {d : Nat} {h : sk_M} {k : Int32}  : sk_K l E (d + 1) MX8_told [.ref 54, .int k] h (fun r h1 => (∃ j, 1 ≤ j ∧ j ≤ 6 ∧ k = nI j ∧ h = h1 ∧ some (.int (h 57 j)) = r) ∨ (¬ (∃ j, 1 ≤ j ∧ j ≤ 6 ∧ k = nI j) ∧ erM h 1 h1 r)) := by
  refine sk_K.of (by decide +kernel) (Nat.le_of_ble_eq_true rfl) ?_
  show sk_S l E (d + 1) _ 0 [some (.ref 54), some (.int k)] [] h _
  refine sk_S.iload_n (i := 1) (dd DX8_told 0 rfl) rfl rfl ?_
  refine sk_S.iconst (v := 1) (dd DX8_told 1 rfl) (by decide) ?_
  refine sk_S.bipush (v := 6) (dd DX8_told 2 rfl) (by decide) ?_
  refine sk_S.callS (dd DX8_told 3 rfl) rfl kX8_47 cM_in rfl rfl rfl (Nat.le_of_ble_eq_true rfl) (fun r4 h4 q4 => ?_)
  obtain ⟨rfl, rfl⟩ := q4
  show sk_S _ _ _ _ _ _ (.int _ :: _) _ _
  refine sk_S.bif_eq (tgt := 19) (dd DX8_told 4 rfl) (by decide) (fun c7 => ?_) (fun c7 => ?_)
  · refine sk_S.aload_n (i := 0) (dd DX8_told 10 rfl) rfl rfl ?_
    refine sk_S.ldc (dd DX8_told 11 rfl) rfl cnX8_73 ?_
    refine sk_S.callV (dd DX8_told 12 rfl) rfl kX8_74 (cM_error (k := 1) ⟨by decide, by decide, by decide⟩) se_54 (by decide) rfl rfl rfl rfl (Nat.le_of_ble_eq_true rfl) (fun r22 h22 q22 => ?_)
    obtain ⟨rfl, rfl⟩ := q22
    show sk_S _ _ _ _ _ _ (.int _ :: _) _ _
    refine sk_S.iret (dd DX8_told 13 rfl) rfl rfl ?_
    refine Or.inr ⟨?_, rfl, rfl⟩
    rintro ⟨j, q1, q2, rfl⟩
    exact c7 ⟨nI_le (a := 1) q1 (by omega), nI_le (b := 6) q2 (by decide)⟩
  · obtain ⟨j, hj1, hj6, rfl⟩ := rg16 c7
    refine sk_S.aload_n (i := 0) (dd DX8_told 5 rfl) rfl rfl ?_
    refine sk_S.getr (dd DX8_told 6 rfl) rfl fX8_16 se_54 (by decide) rfl ?_
    refine sk_S.iload_n (i := 1) (dd DX8_told 7 rfl) rfl rfl ?_
    refine sk_S.iald (dd DX8_told 8 rfl) se_57 (sk_ix_nI (k := j) rfl (by omega) (by decide)) ?_
    refine sk_S.goto (tgt := 25) (dd DX8_told 9 rfl) (by decide) ?_
    refine sk_S.iret (dd DX8_told 13 rfl) rfl rfl ?_
    exact Or.inl ⟨j, hj1, hj6, rfl, rfl, rfl⟩
set_option maxRecDepth 100000 in
set_option maxHeartbeats 4000000 in
theorem cM_sells {l : Launch} {E : sk_V} {d : Nat} {h : sk_M} {ρ : Nat → Int32} {j : Nat} {n : Int32} (hj : j < 4) (hρ : h 55 = ρ) (hI : lawI ρ 1) : sk_K l E (d + 4) MX8_sells [.ref 54, .int (nI j), .int n] h (fun r h1 => sk_o [55, 63, 64] h h1 ∧ h1 55 = sellR ρ j n ∧ some (.int (n * coinsG ρ j (ρ (9 + j)))) = r) := by
  refine sk_K.of (by decide +kernel) (Nat.le_of_ble_eq_true rfl) ?_
  show sk_S l E (d + 4) _ 0 [some (.ref 54), some (.int (nI j)), some (.int n), none] [] h _
  refine sk_S.iload_n (i := 2) (dd DX8_sells 0 rfl) rfl rfl ?_
  refine sk_S.aload_n (i := 0) (dd DX8_sells 1 rfl) rfl rfl ?_
  refine sk_S.iload_n (i := 1) (dd DX8_sells 2 rfl) rfl rfl ?_
  refine sk_S.aload_n (i := 0) (dd DX8_sells 3 rfl) rfl rfl ?_
  refine sk_S.getr (dd DX8_sells 4 rfl) rfl fX8_9 se_54 (by decide) rfl ?_
  refine sk_S.bipush (v := 9) (dd DX8_sells 5 rfl) (by decide) ?_
  refine sk_S.iload_n (i := 1) (dd DX8_sells 6 rfl) rfl rfl ?_
  refine sk_S.iadd (dd DX8_sells 7 rfl) ?_
  refine sk_S.iald (dd DX8_sells 8 rfl) se_55 (sk_ix_e (k := 9 + j) (ix_add 9 j) (by omega) (by decide)) ?_
  refine sk_S.callV (dd DX8_sells 9 rfl) rfl kX8_92 (cM_coinsFor hj hρ hI) se_54 (by decide) rfl rfl rfl rfl (Nat.le_of_ble_eq_true rfl) (fun r12 h12 q12 => ?_)
  obtain ⟨ho, rfl⟩ := q12
  have e55 : h12 55 = ρ := (ho 55 (by decide)).trans hρ
  show sk_S _ _ _ _ _ _ (.int _ :: _) _ _
  refine sk_S.imul (dd DX8_sells 10 rfl) ?_
  refine sk_S.istore_n (i := 3) (dd DX8_sells 11 rfl) rfl (Nat.le_of_ble_eq_true rfl) rfl ?_
  refine sk_S.aload_n (i := 0) (dd DX8_sells 12 rfl) rfl rfl ?_
  refine sk_S.getr (dd DX8_sells 13 rfl) rfl fX8_9 se_54 (by decide) rfl ?_
  refine sk_S.iconst (v := 4) (dd DX8_sells 14 rfl) (by decide) ?_
  refine sk_S.aload_n (i := 0) (dd DX8_sells 15 rfl) rfl rfl ?_
  refine sk_S.getr (dd DX8_sells 16 rfl) rfl fX8_9 se_54 (by decide) rfl ?_
  refine sk_S.iconst (v := 4) (dd DX8_sells 17 rfl) (by decide) ?_
  refine sk_S.iald (dd DX8_sells 18 rfl) se_55 (j := 4) ⟨by decide, by decide, by decide⟩ ?_
  refine sk_S.iload_n (i := 3) (dd DX8_sells 19 rfl) rfl rfl ?_
  refine sk_S.iadd (dd DX8_sells 20 rfl) ?_
  refine sk_S.ldc (dd DX8_sells 21 rfl) rfl cnX8_95 ?_
  refine sk_S.ldc (dd DX8_sells 22 rfl) rfl cnX8_96 ?_
  refine sk_S.callS (dd DX8_sells 23 rfl) rfl kX8_97 cM_held rfl rfl rfl (Nat.le_of_ble_eq_true rfl) (fun r34 h34 q34 => ?_)
  obtain ⟨rfl, rfl⟩ := q34
  show sk_S _ _ _ _ _ _ (.int _ :: _) _ _
  refine sk_S.iast (dd DX8_sells 24 rfl) se_55 (j := 4) ⟨by decide, by decide, by decide⟩ ?_
  refine sk_S.aload_n (i := 0) (dd DX8_sells 25 rfl) rfl rfl ?_
  refine sk_S.getr (dd DX8_sells 26 rfl) rfl fX8_9 se_54 (by decide) rfl ?_
  refine sk_S.bipush (v := 9) (dd DX8_sells 27 rfl) (by decide) ?_
  refine sk_S.iload_n (i := 1) (dd DX8_sells 28 rfl) rfl rfl ?_
  refine sk_S.iadd (dd DX8_sells 29 rfl) ?_
  refine sk_S.dup2 (dd DX8_sells 30 rfl) rfl rfl ?_
  refine sk_S.iald (dd DX8_sells 31 rfl) se_55 (sk_ix_e (k := 9 + j) (ix_add 9 j) (by omega) (by decide)) ?_
  refine sk_S.iload_n (i := 2) (dd DX8_sells 32 rfl) rfl rfl ?_
  refine sk_S.iadd (dd DX8_sells 33 rfl) ?_
  refine sk_S.iast (dd DX8_sells 34 rfl) se_55 (sk_ix_e (k := 9 + j) (ix_add 9 j) (by omega) (by decide)) ?_
  refine sk_S.iload_n (i := 3) (dd DX8_sells 35 rfl) rfl rfl ?_
  refine sk_S.iret (dd DX8_sells 36 rfl) rfl rfl ?_
  subst hρ
  refine ⟨((ho.more (by decide)).u (by decide)).u (by decide), ?_, rfl⟩
  rw [sk_u, sk_r_eq, sk_u, sk_r_eq]
  unfold sellR
  rw [e55, upd_ne (by omega)]
set_option maxRecDepth 100000 in
set_option maxHeartbeats 4000000 in
theorem cM_sell {l : Launch} {E : sk_V} {d : Nat} {h : sk_M} {f n : Int32} (hI : lawI (h 55) 1) : sk_K l E (d + 5) MX8_sell [.ref 54, .int f, .int n] h (fun r h1 => (¬ (inN f 4 ∧ inN n 100) ∧ erM h 1 h1 r) ∨ (∃ j, j < 4 ∧ f = nI j ∧ inN n 100 ∧ ((¬ h 55 (9 + j) + n ≤ 99 ∧ erM h 3 h1 r) ∨ (h 55 (9 + j) + n ≤ 99 ∧ sk_o [55, 63, 64] h h1 ∧ h1 55 = sellR (h 55) j n ∧ some (.int (n * coinsG (h 55) j (h 55 (9 + j)))) = r)))) := by
  refine sk_K.of (by decide +kernel) (Nat.le_of_ble_eq_true rfl) ?_
  show sk_S l E (d + 5) _ 0 [some (.ref 54), some (.int f), some (.int n)] [] h _
  refine sk_S.iload_n (i := 1) (dd DX8_sell 0 rfl) rfl rfl ?_
  refine sk_S.callS (dd DX8_sell 1 rfl) rfl kX8_89 cM_isFish rfl rfl rfl (Nat.le_of_ble_eq_true rfl) (fun r1 h1 q1 => ?_)
  obtain ⟨rfl, rfl⟩ := q1
  show sk_S _ _ _ _ _ _ (.int _ :: _) _ _
  refine sk_S.bif_eq (tgt := 17) (dd DX8_sell 2 rfl) (by decide) (fun c4 => ?_) (fun c4 => ?_)
  · refine sk_S.aload_n (i := 0) (dd DX8_sell 8 rfl) rfl rfl ?_
    refine sk_S.ldc (dd DX8_sell 9 rfl) rfl cnX8_73 ?_
    refine sk_S.callV (dd DX8_sell 10 rfl) rfl kX8_74 (cM_error (k := 1) ⟨by decide, by decide, by decide⟩) se_54 (by decide) rfl rfl rfl rfl (Nat.le_of_ble_eq_true rfl) (fun r20 h20 q20 => ?_)
    obtain ⟨rfl, rfl⟩ := q20
    show sk_S _ _ _ _ _ _ (.int _ :: _) _ _
    refine sk_S.iret (dd DX8_sell 11 rfl) rfl rfl ?_
    exact Or.inl ⟨fun q => c4 ((inN_le (by decide)).mpr q.1), rfl, rfl⟩
  · refine sk_S.iload_n (i := 2) (dd DX8_sell 3 rfl) rfl rfl ?_
    refine sk_S.iconst (v := 0) (dd DX8_sell 4 rfl) (by decide) ?_
    refine sk_S.bipush (v := 99) (dd DX8_sell 5 rfl) (by decide) ?_
    refine sk_S.callS (dd DX8_sell 6 rfl) rfl kX8_47 cM_in rfl rfl rfl (Nat.le_of_ble_eq_true rfl) (fun r11 h11 q11 => ?_)
    obtain ⟨rfl, rfl⟩ := q11
    show sk_S _ _ _ _ _ _ (.int _ :: _) _ _
    refine sk_S.bif_ne (tgt := 24) (dd DX8_sell 7 rfl) (by decide) (fun c14 => ?_) (fun c14 => ?_)
    · obtain ⟨j, hj, rfl⟩ := (inN_le (n := 4) (by decide)).mp c4
      refine sk_S.aload_n (i := 0) (dd DX8_sell 12 rfl) rfl rfl ?_
      refine sk_S.getr (dd DX8_sell 13 rfl) rfl fX8_9 se_54 (by decide) rfl ?_
      refine sk_S.bipush (v := 9) (dd DX8_sell 14 rfl) (by decide) ?_
      refine sk_S.iload_n (i := 1) (dd DX8_sell 15 rfl) rfl rfl ?_
      refine sk_S.iadd (dd DX8_sell 16 rfl) ?_
      refine sk_S.iald (dd DX8_sell 17 rfl) se_55 (sk_ix_e (k := 9 + j) (ix_add 9 j) (by omega) (by decide)) ?_
      refine sk_S.iload_n (i := 2) (dd DX8_sell 18 rfl) rfl rfl ?_
      refine sk_S.iadd (dd DX8_sell 19 rfl) ?_
      refine sk_S.bipush (v := 99) (dd DX8_sell 20 rfl) (by decide) ?_
      refine sk_S.icmp_le (tgt := 49) (dd DX8_sell 21 rfl) (by decide) (fun c37 => ?_) (fun c37 => ?_)
      · refine sk_S.aload_n (i := 0) (dd DX8_sell 26 rfl) rfl rfl ?_
        refine sk_S.iload_n (i := 1) (dd DX8_sell 27 rfl) rfl rfl ?_
        refine sk_S.iload_n (i := 2) (dd DX8_sell 28 rfl) rfl rfl ?_
        refine sk_S.callV (dd DX8_sell 29 rfl) rfl kX8_101 (cM_sells hj rfl hI) se_54 (by decide) rfl rfl rfl rfl (Nat.le_of_ble_eq_true rfl) (fun r52 h52 q52 => ?_)
        obtain ⟨ho, e55, rfl⟩ := q52
        show sk_S _ _ _ _ _ _ (.int _ :: _) _ _
        refine sk_S.iret (dd DX8_sell 30 rfl) rfl rfl ?_
        exact Or.inr ⟨j, hj, rfl, (inN_le (by decide)).mp c14, Or.inr ⟨c37, ho, e55, rfl⟩⟩
      · refine sk_S.aload_n (i := 0) (dd DX8_sell 22 rfl) rfl rfl ?_
        refine sk_S.ldc (dd DX8_sell 23 rfl) rfl cnX8_100 ?_
        refine sk_S.callV (dd DX8_sell 24 rfl) rfl kX8_74 (cM_error (k := 3) ⟨by decide, by decide, by decide⟩) se_54 (by decide) rfl rfl rfl rfl (Nat.le_of_ble_eq_true rfl) (fun r43 h43 q43 => ?_)
        obtain ⟨rfl, rfl⟩ := q43
        show sk_S _ _ _ _ _ _ (.int _ :: _) _ _
        refine sk_S.goto (tgt := 55) (dd DX8_sell 25 rfl) (by decide) ?_
        refine sk_S.iret (dd DX8_sell 30 rfl) rfl rfl ?_
        exact Or.inr ⟨j, hj, rfl, (inN_le (by decide)).mp c14, Or.inl ⟨c37, rfl, rfl⟩⟩
    · refine sk_S.aload_n (i := 0) (dd DX8_sell 8 rfl) rfl rfl ?_
      refine sk_S.ldc (dd DX8_sell 9 rfl) rfl cnX8_73 ?_
      refine sk_S.callV (dd DX8_sell 10 rfl) rfl kX8_74 (cM_error (k := 1) ⟨by decide, by decide, by decide⟩) se_54 (by decide) rfl rfl rfl rfl (Nat.le_of_ble_eq_true rfl) (fun r20 h20 q20 => ?_)
      obtain ⟨rfl, rfl⟩ := q20
      show sk_S _ _ _ _ _ _ (.int _ :: _) _ _
      refine sk_S.iret (dd DX8_sell 11 rfl) rfl rfl ?_
      exact Or.inl ⟨fun q => c14 ((inN_le (by decide)).mpr q.2), rfl, rfl⟩
set_option maxRecDepth 100000 in
set_option maxHeartbeats 4000000 in
theorem cM_untell {l : Launch} {E : sk_V} {d : Nat} {h : sk_M} {u : Int32}  : sk_K l E (d + 1) MX8_untell [.ref 54, .int u] h (fun r h1 => (¬ inN u 2 ∧ erM h 1 h1 r) ∨ (∃ j, j < 2 ∧ u = nI j ∧ sk_u h 55 (119 + 121 * j) 0 = h1 ∧ some (.int (if h 55 (119 + 121 * j) ≤ 0 then 0 else 1)) = r)) := by
  refine sk_K.of (by decide +kernel) (Nat.le_of_ble_eq_true rfl) ?_
  show sk_S l E (d + 1) _ 0 [some (.ref 54), some (.int u)] [] h _
  refine sk_S.iload_n (i := 1) (dd DX8_untell 0 rfl) rfl rfl ?_
  refine sk_S.iconst (v := 0) (dd DX8_untell 1 rfl) (by decide) ?_
  refine sk_S.iconst (v := 1) (dd DX8_untell 2 rfl) (by decide) ?_
  refine sk_S.callS (dd DX8_untell 3 rfl) rfl kX8_47 cM_in rfl rfl rfl (Nat.le_of_ble_eq_true rfl) (fun r3 h3 q3 => ?_)
  obtain ⟨rfl, rfl⟩ := q3
  show sk_S _ _ _ _ _ _ (.int _ :: _) _ _
  refine sk_S.bif_ne (tgt := 16) (dd DX8_untell 4 rfl) (by decide) (fun c6 => ?_) (fun c6 => ?_)
  · obtain ⟨j, hj, rfl⟩ := (inN_le (n := 2) (by decide)).mp c6
    refine sk_S.aload_n (i := 0) (dd DX8_untell 9 rfl) rfl rfl ?_
    refine sk_S.bipush (v := 119) (dd DX8_untell 10 rfl) (by decide) ?_
    refine sk_S.bipush (v := 121) (dd DX8_untell 11 rfl) (by decide) ?_
    refine sk_S.iload_n (i := 1) (dd DX8_untell 12 rfl) rfl rfl ?_
    refine sk_S.imul (dd DX8_untell 13 rfl) ?_
    refine sk_S.iadd (dd DX8_untell 14 rfl) ?_
    refine sk_S.iconst (v := 0) (dd DX8_untell 15 rfl) (by decide) ?_
    refine sk_S.callV (dd DX8_untell 16 rfl) rfl kX8_85 (cM_becomes (j := 119 + 121 * j) (sk_ix_e (ix_at j) (by omega) (by decide))) se_54 (by decide) rfl rfl rfl rfl (Nat.le_of_ble_eq_true rfl) (fun r25 h25 q25 => ?_)
    obtain ⟨rfl, rfl⟩ := q25
    show sk_S _ _ _ _ _ _ (.int _ :: _) _ _
    refine sk_S.if_le (tgt := 35) (dd DX8_untell 17 rfl) (by decide) (fun c28 => ?_) (fun c28 => ?_)
    · refine sk_S.iconst (v := 0) (dd DX8_untell 20 rfl) (by decide) ?_
      refine sk_S.iret (dd DX8_untell 21 rfl) rfl rfl ?_
      exact Or.inr ⟨j, hj, rfl, rfl, by rw [if_pos c28]⟩
    · refine sk_S.iconst (v := 1) (dd DX8_untell 18 rfl) (by decide) ?_
      refine sk_S.goto (tgt := 36) (dd DX8_untell 19 rfl) (by decide) ?_
      refine sk_S.iret (dd DX8_untell 21 rfl) rfl rfl ?_
      exact Or.inr ⟨j, hj, rfl, rfl, by rw [if_neg c28]⟩
  · refine sk_S.aload_n (i := 0) (dd DX8_untell 5 rfl) rfl rfl ?_
    refine sk_S.ldc (dd DX8_untell 6 rfl) rfl cnX8_73 ?_
    refine sk_S.callV (dd DX8_untell 7 rfl) rfl kX8_74 (cM_error (k := 1) ⟨by decide, by decide, by decide⟩) se_54 (by decide) rfl rfl rfl rfl (Nat.le_of_ble_eq_true rfl) (fun r12 h12 q12 => ?_)
    obtain ⟨rfl, rfl⟩ := q12
    show sk_S _ _ _ _ _ _ (.int _ :: _) _ _
    refine sk_S.iret (dd DX8_untell 8 rfl) rfl rfl ?_
    exact Or.inl ⟨fun q => c6 ((inN_le (by decide)).mpr q), rfl, rfl⟩
set_option maxRecDepth 100000 in
set_option maxHeartbeats 4000000 in
theorem cM_law {l : Launch} {E : sk_V} {d : Nat} {h : sk_M} {u a b c : Int32} (h0 : lawI (h 55) 0) (h9 : lawI (h 55) 1) : sk_K l E (d + 3) MX8_law [.ref 54, .int u, .int a, .int b, .int c] h (fun r h1 => (¬ inN u 2 ∧ erM h 1 h1 r) ∨ (∃ j, j < 2 ∧ u = nI j ∧ sk_o [63, 64] h h1 ∧ some (.int (gvV (h 55) j a b c)) = r)) := by
  refine sk_K.of (by decide +kernel) (Nat.le_of_ble_eq_true rfl) ?_
  show sk_S l E (d + 3) _ 0 [some (.ref 54), some (.int u), some (.int a), some (.int b), some (.int c)] [] h _
  refine sk_S.iload_n (i := 1) (dd DX8_law 0 rfl) rfl rfl ?_
  refine sk_S.iconst (v := 0) (dd DX8_law 1 rfl) (by decide) ?_
  refine sk_S.iconst (v := 1) (dd DX8_law 2 rfl) (by decide) ?_
  refine sk_S.callS (dd DX8_law 3 rfl) rfl kX8_47 cM_in rfl rfl rfl (Nat.le_of_ble_eq_true rfl) (fun r3 h3 q3 => ?_)
  obtain ⟨rfl, rfl⟩ := q3
  show sk_S _ _ _ _ _ _ (.int _ :: _) _ _
  refine sk_S.bif_eq (tgt := 21) (dd DX8_law 4 rfl) (by decide) (fun c6 => ?_) (fun c6 => ?_)
  · refine sk_S.aload_n (i := 0) (dd DX8_law 12 rfl) rfl rfl ?_
    refine sk_S.ldc (dd DX8_law 13 rfl) rfl cnX8_73 ?_
    refine sk_S.callV (dd DX8_law 14 rfl) rfl kX8_74 (cM_error (k := 1) ⟨by decide, by decide, by decide⟩) se_54 (by decide) rfl rfl rfl rfl (Nat.le_of_ble_eq_true rfl) (fun r24 h24 q24 => ?_)
    obtain ⟨rfl, rfl⟩ := q24
    show sk_S _ _ _ _ _ _ (.int _ :: _) _ _
    refine sk_S.iret (dd DX8_law 15 rfl) rfl rfl ?_
    exact Or.inl ⟨fun q => c6 ((inN_le (by decide)).mpr q), rfl, rfl⟩
  · obtain ⟨j, hj, rfl⟩ := (inN_le (n := 2) (by decide)).mp c6
    have hI : lawI (h 55) j := by
      have e2 : j = 0 ∨ j = 1 := by omega
      rcases e2 with rfl | rfl
      · exact h0
      · exact h9
    refine sk_S.aload_n (i := 0) (dd DX8_law 5 rfl) rfl rfl ?_
    refine sk_S.iload_n (i := 1) (dd DX8_law 6 rfl) rfl rfl ?_
    refine sk_S.iload_n (i := 2) (dd DX8_law 7 rfl) rfl rfl ?_
    refine sk_S.iload_n (i := 3) (dd DX8_law 8 rfl) rfl rfl ?_
    refine sk_S.iload (i := 4) (dd DX8_law 9 rfl) rfl ?_
    refine sk_S.callV (dd DX8_law 10 rfl) rfl kX8_58 (cM_gives hj rfl hI) se_54 (by decide) rfl rfl rfl rfl (Nat.le_of_ble_eq_true rfl) (fun r15 h15 q15 => ?_)
    obtain ⟨ho, rfl⟩ := q15
    show sk_S _ _ _ _ _ _ (.int _ :: _) _ _
    refine sk_S.goto (tgt := 27) (dd DX8_law 11 rfl) (by decide) ?_
    refine sk_S.iret (dd DX8_law 15 rfl) rfl rfl ?_
    exact Or.inr ⟨j, hj, rfl, ho, rfl⟩
set_option maxRecDepth 100000 in
set_option maxHeartbeats 4000000 in
theorem cM_catches {l : Launch} {E : sk_V} {d : Nat} {h : sk_M} {f : Int32} (hb : boI (h 55)) (hI : lawI (h 55) 0) : sk_K l E (d + 6) MX8_catches [.ref 54, .int f] h (fun r h1 => (¬ inN f 4 ∧ erM h 1 h1 r) ∨ (∃ j, j < 4 ∧ f = nI j ∧ sk_o [63, 64] h h1 ∧ some (.int (catchG (h 55) (nI j) (h 55 (9 + j)) (h 55 3) (h 55 0))) = r)) := by
  refine sk_K.of (by decide +kernel) (Nat.le_of_ble_eq_true rfl) ?_
  show sk_S l E (d + 6) _ 0 [some (.ref 54), some (.int f)] [] h _
  refine sk_S.iload_n (i := 1) (dd DX8_catches 0 rfl) rfl rfl ?_
  refine sk_S.callS (dd DX8_catches 1 rfl) rfl kX8_89 cM_isFish rfl rfl rfl (Nat.le_of_ble_eq_true rfl) (fun r1 h1 q1 => ?_)
  obtain ⟨rfl, rfl⟩ := q1
  show sk_S _ _ _ _ _ _ (.int _ :: _) _ _
  refine sk_S.bif_eq (tgt := 15) (dd DX8_catches 2 rfl) (by decide) (fun c4 => ?_) (fun c4 => ?_)
  · refine sk_S.aload_n (i := 0) (dd DX8_catches 7 rfl) rfl rfl ?_
    refine sk_S.ldc (dd DX8_catches 8 rfl) rfl cnX8_73 ?_
    refine sk_S.callV (dd DX8_catches 9 rfl) rfl kX8_74 (cM_error (k := 1) ⟨by decide, by decide, by decide⟩) se_54 (by decide) rfl rfl rfl rfl (Nat.le_of_ble_eq_true rfl) (fun r18 h18 q18 => ?_)
    obtain ⟨rfl, rfl⟩ := q18
    show sk_S _ _ _ _ _ _ (.int _ :: _) _ _
    refine sk_S.iret (dd DX8_catches 10 rfl) rfl rfl ?_
    exact Or.inl ⟨fun q => c4 ((inN_le (by decide)).mpr q), rfl, rfl⟩
  · obtain ⟨j, hj, rfl⟩ := (inN_le (n := 4) (by decide)).mp c4
    refine sk_S.aload_n (i := 0) (dd DX8_catches 3 rfl) rfl rfl ?_
    refine sk_S.iload_n (i := 1) (dd DX8_catches 4 rfl) rfl rfl ?_
    refine sk_S.callV (dd DX8_catches 5 rfl) rfl kX8_181 (cM_catchOf hj rfl hb hI) se_54 (by decide) rfl rfl rfl rfl (Nat.le_of_ble_eq_true rfl) (fun r9 h9 q9 => ?_)
    obtain ⟨ho, rfl⟩ := q9
    show sk_S _ _ _ _ _ _ (.int _ :: _) _ _
    refine sk_S.goto (tgt := 21) (dd DX8_catches 6 rfl) (by decide) ?_
    refine sk_S.iret (dd DX8_catches 10 rfl) rfl rfl ?_
    exact Or.inr ⟨j, hj, rfl, ho, rfl⟩
set_option maxRecDepth 100000 in
set_option maxHeartbeats 4000000 in
theorem cM_tell {l : Launch} {E : sk_V} {d : Nat} {h : sk_M} {v : Int32} {n : Nat} (hn : h 55 8 = nI n) (hn24 : n ≤ 24) : sk_K l E (d + 1) MX8_tell [.ref 54, .int v] h (fun r h1 => (n = 24 ∧ erM h 4 h1 r) ∨ (n < 24 ∧ sk_u (sk_u h 55 (95 + n) v) 55 8 (nI (n + 1)) = h1 ∧ some (.int (nI (n + 1))) = r)) := by
  refine sk_K.of (by decide +kernel) (Nat.le_of_ble_eq_true rfl) ?_
  show sk_S l E (d + 1) _ 0 [some (.ref 54), some (.int v)] [] h _
  refine sk_S.aload_n (i := 0) (dd DX8_tell 0 rfl) rfl rfl ?_
  refine sk_S.getr (dd DX8_tell 1 rfl) rfl fX8_9 se_54 (by decide) rfl ?_
  refine sk_S.bipush (v := 8) (dd DX8_tell 2 rfl) (by decide) ?_
  refine sk_S.iald (dd DX8_tell 3 rfl) se_55 (j := 8) ⟨by decide, by decide, by decide⟩ ?_
  refine sk_S.bipush (v := 24) (dd DX8_tell 4 rfl) (by decide) ?_
  refine sk_S.icmp_ne (tgt := 19) (dd DX8_tell 5 rfl) (by decide) (fun c9 => ?_) (fun c9 => ?_)
  · have hlt : n < 24 := by
      apply Nat.lt_of_le_of_ne hn24
      intro q
      apply c9
      rw [hn, q]
      rfl
    refine sk_S.aload_n (i := 0) (dd DX8_tell 10 rfl) rfl rfl ?_
    refine sk_S.getr (dd DX8_tell 11 rfl) rfl fX8_9 se_54 (by decide) rfl ?_
    refine sk_S.bipush (v := 95) (dd DX8_tell 12 rfl) (by decide) ?_
    refine sk_S.aload_n (i := 0) (dd DX8_tell 13 rfl) rfl rfl ?_
    refine sk_S.getr (dd DX8_tell 14 rfl) rfl fX8_9 se_54 (by decide) rfl ?_
    refine sk_S.bipush (v := 8) (dd DX8_tell 15 rfl) (by decide) ?_
    refine sk_S.iald (dd DX8_tell 16 rfl) se_55 (j := 8) ⟨by decide, by decide, by decide⟩ ?_
    refine sk_S.iadd (dd DX8_tell 17 rfl) ?_
    refine sk_S.iload_n (i := 1) (dd DX8_tell 18 rfl) rfl rfl ?_
    refine sk_S.iast (dd DX8_tell 19 rfl) se_55 (sk_ix_e (k := 95 + n) (by rw [hn]; exact ix_add 95 n) (by omega) (by decide)) ?_
    refine sk_S.aload_n (i := 0) (dd DX8_tell 20 rfl) rfl rfl ?_
    refine sk_S.getr (dd DX8_tell 21 rfl) rfl fX8_9 se_54 (by decide) rfl ?_
    refine sk_S.bipush (v := 8) (dd DX8_tell 22 rfl) (by decide) ?_
    refine sk_S.dup2 (dd DX8_tell 23 rfl) rfl rfl ?_
    refine sk_S.iald (dd DX8_tell 24 rfl) se_55 (j := 8) ⟨by decide, by decide, by decide⟩ ?_
    refine sk_S.iconst (v := 1) (dd DX8_tell 25 rfl) (by decide) ?_
    refine sk_S.iadd (dd DX8_tell 26 rfl) ?_
    refine sk_S.iast (dd DX8_tell 27 rfl) se_55 (j := 8) ⟨by decide, by decide, by decide⟩ ?_
    refine sk_S.aload_n (i := 0) (dd DX8_tell 28 rfl) rfl rfl ?_
    refine sk_S.getr (dd DX8_tell 29 rfl) rfl fX8_9 se_54 (by decide) rfl ?_
    refine sk_S.bipush (v := 8) (dd DX8_tell 30 rfl) (by decide) ?_
    refine sk_S.iald (dd DX8_tell 31 rfl) se_55 (j := 8) ⟨by decide, by decide, by decide⟩ ?_
    refine sk_S.iret (dd DX8_tell 32 rfl) rfl rfl ?_
    have e1 : sk_u h 55 (95 + n) v 55 8 = nI n := by rw [sk_u_at, if_pos rfl, if_neg (by omega)]; exact hn
    refine Or.inr ⟨hlt, ?_, ?_⟩
    · rw [e1, nI_succ]
    · rw [sk_u_at, if_pos rfl, if_pos rfl, e1, nI_succ]
  · refine sk_S.aload_n (i := 0) (dd DX8_tell 6 rfl) rfl rfl ?_
    refine sk_S.ldc (dd DX8_tell 7 rfl) rfl cnX8_78 ?_
    refine sk_S.callV (dd DX8_tell 8 rfl) rfl kX8_74 (cM_error (k := 4) ⟨by decide, by decide, by decide⟩) se_54 (by decide) rfl rfl rfl rfl (Nat.le_of_ble_eq_true rfl) (fun r15 h15 q15 => ?_)
    obtain ⟨rfl, rfl⟩ := q15
    show sk_S _ _ _ _ _ _ (.int _ :: _) _ _
    refine sk_S.iret (dd DX8_tell 9 rfl) rfl rfl ?_
    refine Or.inl ⟨?_, rfl, rfl⟩
    exact (nI_eq (by omega) (by decide)).mp (hn.symm.trans c9)
set_option maxRecDepth 100000 in
set_option maxHeartbeats 4000000 in
theorem cM_body {l : Launch} {E : sk_V} {d : Nat} {h : sk_M} {i : Int32} {n : Nat} (hn : h 54 18 = nI n) (hn30 : n ≤ 30) : sk_K l E (d + 1) MX8_body [.ref 54, .int i] h (fun r h1 => (∃ j, j < n ∧ i = nI j ∧ h = h1 ∧ some (.int (h 66 j)) = r) ∨ (¬ inN i n ∧ erM h 2 h1 r)) := by
  refine sk_K.of (by decide +kernel) (Nat.le_of_ble_eq_true rfl) ?_
  show sk_S l E (d + 1) _ 0 [some (.ref 54), some (.int i)] [] h _
  refine sk_S.iload_n (i := 1) (dd DX8_body 0 rfl) rfl rfl ?_
  refine sk_S.iconst (v := 0) (dd DX8_body 1 rfl) (by decide) ?_
  refine sk_S.aload_n (i := 0) (dd DX8_body 2 rfl) rfl rfl ?_
  refine sk_S.geti (dd DX8_body 3 rfl) rfl fX8_206 se_54 (by decide) rfl ?_
  refine sk_S.iconst (v := 1) (dd DX8_body 4 rfl) (by decide) ?_
  refine sk_S.isub (dd DX8_body 5 rfl) ?_
  refine sk_S.callS (dd DX8_body 6 rfl) rfl kX8_47 cM_in rfl rfl rfl (Nat.le_of_ble_eq_true rfl) (fun r8 h8 q8 => ?_)
  obtain ⟨rfl, rfl⟩ := q8
  show sk_S _ _ _ _ _ _ (.int _ :: _) _ _
  refine sk_S.bif_eq (tgt := 23) (dd DX8_body 7 rfl) (by decide) (fun c11 => ?_) (fun c11 => ?_)
  · refine sk_S.aload_n (i := 0) (dd DX8_body 13 rfl) rfl rfl ?_
    refine sk_S.ldc (dd DX8_body 14 rfl) rfl cnX8_190 ?_
    refine sk_S.callV (dd DX8_body 15 rfl) rfl kX8_74 (cM_error (k := 2) ⟨by decide, by decide, by decide⟩) se_54 (by decide) rfl rfl rfl rfl (Nat.le_of_ble_eq_true rfl) (fun r26 h26 q26 => ?_)
    obtain ⟨rfl, rfl⟩ := q26
    show sk_S _ _ _ _ _ _ (.int _ :: _) _ _
    refine sk_S.iret (dd DX8_body 16 rfl) rfl rfl ?_
    exact Or.inr ⟨fun q => c11 (by rw [hn]; exact (inN_pred (by omega)).mpr q), rfl, rfl⟩
  · rw [hn] at c11
    obtain ⟨j, hj, rfl⟩ := (inN_pred (by omega)).mp c11
    refine sk_S.aload_n (i := 0) (dd DX8_body 8 rfl) rfl rfl ?_
    refine sk_S.getr (dd DX8_body 9 rfl) rfl fX8_43 se_54 (by decide) rfl ?_
    refine sk_S.iload_n (i := 1) (dd DX8_body 10 rfl) rfl rfl ?_
    refine sk_S.iald (dd DX8_body 11 rfl) se_66 (sk_ix_nI (k := j) rfl (by omega) (by decide)) ?_
    refine sk_S.goto (tgt := 29) (dd DX8_body 12 rfl) (by decide) ?_
    refine sk_S.iret (dd DX8_body 16 rfl) rfl rfl ?_
    exact Or.inl ⟨j, hj, rfl, rfl, rfl⟩
end M5
end
section
section SPEC6
def cntV (h : sk_M) (j : Nat) : Int32 := match j with
  | 0 => h 55 2
  | 1 => h 55 3
  | 2 => h 55 0
  | 3 => h 55 4
  | 4 => h 55 5
  | 5 => h 55 6
  | 6 => h 55 7
  | 7 => h 55 8
  | 8 => h 54 18
  | _ => h 55 1
/-- an evening -/
def lessG (g : Nat → Int32) (f : Nat) : Int32 := shortG g (nI f) (g (9 + f))
def purF (g : Nat → Int32) : Nat → Int32
  | 0 => g 4
  | f + 1 => heldV (purF g f - 2 * lessG g f * g (13 + f)) (-99999) 99999
def allF (g : Nat → Int32) : Nat → Int32
  | 0 => 0
  | f + 1 => allF g f + lessG g f
def soldK (g : Nat → Int32) (f : Nat) : Nat → Int32 := fun k => if 9 ≤ k ∧ k < 9 + f then 0 else g k
def purB (g : Nat → Int32) : Nat → Int32
  | 0 => purF g 4
  | b + 1 => heldV (purB g b - (if g (17 + 3 * b + 2) = 1 then 0 else eatsV (g (17 + 3 * b)) (g 0))) (-99999) 99999
def talR (g : Nat → Int32) : Nat → Int32 :=
  upd (upd (upd (upd (soldK g 4) 4 (purB g (boN g))) 5 (heldV (g 5 + allF g 4) 0 99999)) 6 (heldV (g 6 + (if allF g 4 = 0 then 1 else -2)) 0 99)) 0 (g 0 + 1)
theorem upd_upd {f : Nat → Int32} {k : Nat} {x y : Int32} : upd (upd f k x) k y = upd f k y := by
  funext j
  unfold upd
  split <;> rfl
theorem upd_self {f : Nat → Int32} {k : Nat} : upd f k (f k) = f := by
  funext j
  unfold upd
  split
  · rename_i q
    rw [q]
  · rfl
theorem soldK_0 {g : Nat → Int32} : soldK g 0 = g := by
  funext k
  unfold soldK
  rw [if_neg (by omega)]
theorem soldK_s {g : Nat → Int32} {f : Nat} : upd (soldK g f) (9 + f) 0 = soldK g (f + 1) := by
  funext k
  unfold soldK upd
  by_cases q : k = 9 + f
  · rw [if_pos q, if_pos (by omega)]
  · rw [if_neg q]
    show (if 9 ≤ k ∧ k < 9 + f then 0 else g k) = _
    by_cases q2 : 9 ≤ k ∧ k < 9 + f
    · rw [if_pos q2, if_pos (by omega)]
    · rw [if_neg q2, if_neg (by omega)]
theorem soldK_up {g : Nat → Int32} {f : Nat} {x : Int32} : soldK (upd g 4 x) f = upd (soldK g f) 4 x := by
  funext k
  unfold soldK upd
  by_cases q : k = 4
  · rw [if_neg (by omega), if_pos q, if_pos q]
  · simp only [if_neg q]
theorem soldK_no {g : Nat → Int32} {f k : Nat} (h : k < 9 ∨ 9 + f ≤ k) : soldK g f k = g k := if_neg (by omega)
end SPEC6
end
section
section M6
set_option maxRecDepth 100000 in
set_option maxHeartbeats 4000000 in
theorem cM_count {l : Launch} {E : sk_V} {d : Nat} {h : sk_M} {w : Int32}  : sk_K l E (d + 1) MX8_count [.ref 54, .int w] h (fun r h1 => (∃ j, j < 10 ∧ w = nI j ∧ h = h1 ∧ some (.int (cntV h j)) = r) ∨ (¬ inN w 10 ∧ erM h 1 h1 r)) := by
  refine sk_K.of (by decide +kernel) (Nat.le_of_ble_eq_true rfl) ?_
  show sk_S l E (d + 1) _ 0 [some (.ref 54), some (.int w)] [] h _
  refine sk_S.iload_n (i := 1) (dd DX8_count 0 rfl) rfl rfl ?_
  refine sk_S.tabL (dd DX8_count 1 rfl) rfl (by decide) (by decide) (by decide) (fun j1 hj1 e1 => ?_) (fun e1 => ?_)
  · rcases j1 with _ | _ | _ | _ | _ | _ | _ | _ | _ | _ | j1
    · show sk_S _ _ _ _ 56 _ _ _ _
      replace e1 : _ = (0 : Int32) := e1
      refine sk_S.aload_n (i := 0) (dd DX8_count 2 rfl) rfl rfl ?_
      refine sk_S.getr (dd DX8_count 3 rfl) rfl fX8_9 se_54 (by decide) rfl ?_
      refine sk_S.iconst (v := 2) (dd DX8_count 4 rfl) (by decide) ?_
      refine sk_S.iald (dd DX8_count 5 rfl) se_55 (j := 2) ⟨by decide, by decide, by decide⟩ ?_
      refine sk_S.iret (dd DX8_count 6 rfl) rfl rfl ?_
      exact Or.inl ⟨0, by decide, e1, rfl, rfl⟩
    · show sk_S _ _ _ _ 63 _ _ _ _
      replace e1 : _ = (1 : Int32) := e1
      refine sk_S.aload_n (i := 0) (dd DX8_count 7 rfl) rfl rfl ?_
      refine sk_S.getr (dd DX8_count 8 rfl) rfl fX8_9 se_54 (by decide) rfl ?_
      refine sk_S.iconst (v := 3) (dd DX8_count 9 rfl) (by decide) ?_
      refine sk_S.iald (dd DX8_count 10 rfl) se_55 (j := 3) ⟨by decide, by decide, by decide⟩ ?_
      refine sk_S.iret (dd DX8_count 11 rfl) rfl rfl ?_
      exact Or.inl ⟨1, by decide, e1, rfl, rfl⟩
    · show sk_S _ _ _ _ 70 _ _ _ _
      replace e1 : _ = (2 : Int32) := e1
      refine sk_S.aload_n (i := 0) (dd DX8_count 12 rfl) rfl rfl ?_
      refine sk_S.getr (dd DX8_count 13 rfl) rfl fX8_9 se_54 (by decide) rfl ?_
      refine sk_S.iconst (v := 0) (dd DX8_count 14 rfl) (by decide) ?_
      refine sk_S.iald (dd DX8_count 15 rfl) se_55 (j := 0) ⟨by decide, by decide, by decide⟩ ?_
      refine sk_S.iret (dd DX8_count 16 rfl) rfl rfl ?_
      exact Or.inl ⟨2, by decide, e1, rfl, rfl⟩
    · show sk_S _ _ _ _ 77 _ _ _ _
      replace e1 : _ = (3 : Int32) := e1
      refine sk_S.aload_n (i := 0) (dd DX8_count 17 rfl) rfl rfl ?_
      refine sk_S.getr (dd DX8_count 18 rfl) rfl fX8_9 se_54 (by decide) rfl ?_
      refine sk_S.iconst (v := 4) (dd DX8_count 19 rfl) (by decide) ?_
      refine sk_S.iload_n (i := 1) (dd DX8_count 20 rfl) rfl rfl ?_
      refine sk_S.iadd (dd DX8_count 21 rfl) ?_
      refine sk_S.iconst (v := 3) (dd DX8_count 22 rfl) (by decide) ?_
      refine sk_S.isub (dd DX8_count 23 rfl) ?_
      refine sk_S.iald (dd DX8_count 24 rfl) se_55 (j := 4) (by rw [e1]; exact ⟨by decide, by decide, by decide⟩) ?_
      refine sk_S.iret (dd DX8_count 25 rfl) rfl rfl ?_
      exact Or.inl ⟨3, by decide, e1, rfl, rfl⟩
    · show sk_S _ _ _ _ 77 _ _ _ _
      replace e1 : _ = (4 : Int32) := e1
      refine sk_S.aload_n (i := 0) (dd DX8_count 17 rfl) rfl rfl ?_
      refine sk_S.getr (dd DX8_count 18 rfl) rfl fX8_9 se_54 (by decide) rfl ?_
      refine sk_S.iconst (v := 4) (dd DX8_count 19 rfl) (by decide) ?_
      refine sk_S.iload_n (i := 1) (dd DX8_count 20 rfl) rfl rfl ?_
      refine sk_S.iadd (dd DX8_count 21 rfl) ?_
      refine sk_S.iconst (v := 3) (dd DX8_count 22 rfl) (by decide) ?_
      refine sk_S.isub (dd DX8_count 23 rfl) ?_
      refine sk_S.iald (dd DX8_count 24 rfl) se_55 (j := 5) (by rw [e1]; exact ⟨by decide, by decide, by decide⟩) ?_
      refine sk_S.iret (dd DX8_count 25 rfl) rfl rfl ?_
      exact Or.inl ⟨4, by decide, e1, rfl, rfl⟩
    · show sk_S _ _ _ _ 77 _ _ _ _
      replace e1 : _ = (5 : Int32) := e1
      refine sk_S.aload_n (i := 0) (dd DX8_count 17 rfl) rfl rfl ?_
      refine sk_S.getr (dd DX8_count 18 rfl) rfl fX8_9 se_54 (by decide) rfl ?_
      refine sk_S.iconst (v := 4) (dd DX8_count 19 rfl) (by decide) ?_
      refine sk_S.iload_n (i := 1) (dd DX8_count 20 rfl) rfl rfl ?_
      refine sk_S.iadd (dd DX8_count 21 rfl) ?_
      refine sk_S.iconst (v := 3) (dd DX8_count 22 rfl) (by decide) ?_
      refine sk_S.isub (dd DX8_count 23 rfl) ?_
      refine sk_S.iald (dd DX8_count 24 rfl) se_55 (j := 6) (by rw [e1]; exact ⟨by decide, by decide, by decide⟩) ?_
      refine sk_S.iret (dd DX8_count 25 rfl) rfl rfl ?_
      exact Or.inl ⟨5, by decide, e1, rfl, rfl⟩
    · show sk_S _ _ _ _ 88 _ _ _ _
      replace e1 : _ = (6 : Int32) := e1
      refine sk_S.aload_n (i := 0) (dd DX8_count 26 rfl) rfl rfl ?_
      refine sk_S.getr (dd DX8_count 27 rfl) rfl fX8_9 se_54 (by decide) rfl ?_
      refine sk_S.bipush (v := 7) (dd DX8_count 28 rfl) (by decide) ?_
      refine sk_S.iald (dd DX8_count 29 rfl) se_55 (j := 7) ⟨by decide, by decide, by decide⟩ ?_
      refine sk_S.iret (dd DX8_count 30 rfl) rfl rfl ?_
      exact Or.inl ⟨6, by decide, e1, rfl, rfl⟩
    · show sk_S _ _ _ _ 96 _ _ _ _
      replace e1 : _ = (7 : Int32) := e1
      refine sk_S.aload_n (i := 0) (dd DX8_count 31 rfl) rfl rfl ?_
      refine sk_S.getr (dd DX8_count 32 rfl) rfl fX8_9 se_54 (by decide) rfl ?_
      refine sk_S.bipush (v := 8) (dd DX8_count 33 rfl) (by decide) ?_
      refine sk_S.iald (dd DX8_count 34 rfl) se_55 (j := 8) ⟨by decide, by decide, by decide⟩ ?_
      refine sk_S.iret (dd DX8_count 35 rfl) rfl rfl ?_
      exact Or.inl ⟨7, by decide, e1, rfl, rfl⟩
    · show sk_S _ _ _ _ 104 _ _ _ _
      replace e1 : _ = (8 : Int32) := e1
      refine sk_S.aload_n (i := 0) (dd DX8_count 36 rfl) rfl rfl ?_
      refine sk_S.geti (dd DX8_count 37 rfl) rfl fX8_206 se_54 (by decide) rfl ?_
      refine sk_S.iret (dd DX8_count 38 rfl) rfl rfl ?_
      exact Or.inl ⟨8, by decide, e1, rfl, rfl⟩
    · show sk_S _ _ _ _ 109 _ _ _ _
      replace e1 : _ = (9 : Int32) := e1
      refine sk_S.aload_n (i := 0) (dd DX8_count 39 rfl) rfl rfl ?_
      refine sk_S.getr (dd DX8_count 40 rfl) rfl fX8_9 se_54 (by decide) rfl ?_
      refine sk_S.iconst (v := 1) (dd DX8_count 41 rfl) (by decide) ?_
      refine sk_S.iald (dd DX8_count 42 rfl) se_55 (j := 1) ⟨by decide, by decide, by decide⟩ ?_
      refine sk_S.iret (dd DX8_count 43 rfl) rfl rfl ?_
      exact Or.inl ⟨9, by decide, e1, rfl, rfl⟩
    · exact absurd hj1 (by simp)
  · show sk_S _ _ _ _ 116 _ _ _ _
    have e1_ := (⟨e1 0 (by decide), e1 1 (by decide), e1 2 (by decide), e1 3 (by decide), e1 4 (by decide), e1 5 (by decide), e1 6 (by decide), e1 7 (by decide), e1 8 (by decide), e1 9 (by decide)⟩ : ¬ _ = (0 : Int32) ∧ ¬ _ = (1 : Int32) ∧ ¬ _ = (2 : Int32) ∧ ¬ _ = (3 : Int32) ∧ ¬ _ = (4 : Int32) ∧ ¬ _ = (5 : Int32) ∧ ¬ _ = (6 : Int32) ∧ ¬ _ = (7 : Int32) ∧ ¬ _ = (8 : Int32) ∧ ¬ _ = (9 : Int32))
    refine sk_S.aload_n (i := 0) (dd DX8_count 44 rfl) rfl rfl ?_
    refine sk_S.ldc (dd DX8_count 45 rfl) rfl cnX8_73 ?_
    refine sk_S.callV (dd DX8_count 46 rfl) rfl kX8_74 (cM_error (k := 1) ⟨by decide, by decide, by decide⟩) se_54 (by decide) rfl rfl rfl rfl (Nat.le_of_ble_eq_true rfl) (fun r119 h119 q119 => ?_)
    obtain ⟨rfl, rfl⟩ := q119
    show sk_S _ _ _ _ _ _ (.int _ :: _) _ _
    refine sk_S.iret (dd DX8_count 47 rfl) rfl rfl ?_
    refine Or.inr ⟨?_, rfl, rfl⟩
    rintro ⟨j, hj, rfl⟩
    obtain ⟨a0, a1, a2, a3, a4, a5, a6, a7, a8, a9⟩ := e1_
    rcases j with _ | _ | _ | _ | _ | _ | _ | _ | _ | _ | j
    · exact a0 rfl
    · exact a1 rfl
    · exact a2 rfl
    · exact a3 rfl
    · exact a4 rfl
    · exact a5 rfl
    · exact a6 rfl
    · exact a7 rfl
    · exact a8 rfl
    · exact a9 rfl
    · omega
set_option maxRecDepth 100000 in
set_option maxHeartbeats 4000000 in
theorem lp_tal3 {l : Launch} {E : sk_V} {d : Nat} {h : sk_M} {ρ : Nat → Int32} (hb : boI ρ) (hI : lawI ρ 0) : ∀ (m j : Nat) (g : sk_M) (x3 : Option Value), j + m = boN ρ → sk_o [55, 63, 64] h g → g 55 = upd (soldK ρ 4) 4 (purB ρ j) → sk_S l E (d + 3) MX8_tallies 76 [some (.ref 54), some (.int (allF ρ 4)), some (.int (nI j)), x3] [] g (fun r h1 => sk_o [55, 63, 64] h h1 ∧ h1 55 = talR ρ ∧ some (.int (allF ρ 4)) = r)
  | 0, j, g, x3, hj, ho, hg => by
    have e2 : g 55 2 = nI (boN ρ) := by rw [hg, upd_ne (by decide), soldK_no (by omega)]; exact hb.1
    have hb6 := hb.2
    have hjn : j = boN ρ := by omega
    refine sk_S.iload_n (i := 2) (dd DX8_tallies_p1 51 rfl) rfl rfl ?_
    refine sk_S.aload_n (i := 0) (dd DX8_tallies_p1 52 rfl) rfl rfl ?_
    refine sk_S.getr (dd DX8_tallies_p1 53 rfl) rfl fX8_9 se_54 (by decide) rfl ?_
    refine sk_S.iconst (v := 2) (dd DX8_tallies_p1 54 rfl) (by decide) ?_
    refine sk_S.iald (dd DX8_tallies_p1 55 rfl) se_55 (j := 2) ⟨by decide, by decide, by decide⟩ ?_
    refine sk_S.icmp_ge (tgt := 115) (dd DX8_tallies_p1 56 rfl) (by decide) (fun c83 => ?_) (fun c83 => absurd (by rw [e2, hjn]; exact Int32.le_refl _) c83)
    refine sk_S.aload_n (i := 0) (dd DX8_tallies_p1 72 rfl) rfl rfl ?_
    refine sk_S.getr (dd DX8_tallies_p1 73 rfl) rfl fX8_9 se_54 (by decide) rfl ?_
    refine sk_S.iconst (v := 5) (dd DX8_tallies_p1 74 rfl) (by decide) ?_
    refine sk_S.aload_n (i := 0) (dd DX8_tallies_p1 75 rfl) rfl rfl ?_
    refine sk_S.getr (dd DX8_tallies_p1 76 rfl) rfl fX8_9 se_54 (by decide) rfl ?_
    refine sk_S.iconst (v := 5) (dd DX8_tallies_p1 77 rfl) (by decide) ?_
    refine sk_S.iald (dd DX8_tallies_p1 78 rfl) se_55 (j := 5) ⟨by decide, by decide, by decide⟩ ?_
    refine sk_S.iload_n (i := 1) (dd DX8_tallies_p1 79 rfl) rfl rfl ?_
    refine sk_S.iadd (dd DX8_tallies_p1 80 rfl) ?_
    refine sk_S.iconst (v := 0) (dd DX8_tallies_p1 81 rfl) (by decide) ?_
    refine sk_S.ldc (dd DX8_tallies_p1 82 rfl) rfl cnX8_96 ?_
    refine sk_S.callS (dd DX8_tallies_p1 83 rfl) rfl kX8_97 cM_held rfl rfl rfl (Nat.le_of_ble_eq_true rfl) (fun r131 h131 q131 => ?_)
    obtain ⟨rfl, rfl⟩ := q131
    show sk_S _ _ _ _ _ _ (.int _ :: _) _ _
    refine sk_S.iast (dd DX8_tallies_p1 84 rfl) se_55 (j := 5) ⟨by decide, by decide, by decide⟩ ?_
    refine sk_S.aload_n (i := 0) (dd DX8_tallies_p1 85 rfl) rfl rfl ?_
    refine sk_S.getr (dd DX8_tallies_p1 86 rfl) rfl fX8_9 se_54 (by decide) rfl ?_
    refine sk_S.bipush (v := 6) (dd DX8_tallies_p1 87 rfl) (by decide) ?_
    refine sk_S.aload_n (i := 0) (dd DX8_tallies_p1 88 rfl) rfl rfl ?_
    refine sk_S.getr (dd DX8_tallies_p1 89 rfl) rfl fX8_9 se_54 (by decide) rfl ?_
    refine sk_S.bipush (v := 6) (dd DX8_tallies_p1 90 rfl) (by decide) ?_
    refine sk_S.iald (dd DX8_tallies_p1 91 rfl) se_55 (j := 6) ⟨by decide, by decide, by decide⟩ ?_
    refine sk_S.iload_n (i := 1) (dd DX8_tallies_p1 92 rfl) rfl rfl ?_
    refine sk_S.if_ne (tgt := 156) (dd DX8_tallies_p1 93 rfl) (by decide) (fun c149 => ?_) (fun c149 => ?_)
    · refine sk_S.bipush (v := -2) (dd DX8_tallies_p1 96 rfl) (by decide) ?_
      refine sk_S.iadd (dd DX8_tallies_p1 97 rfl) ?_
      refine sk_S.iconst (v := 0) (dd DX8_tallies_p1 98 rfl) (by decide) ?_
      refine sk_S.bipush (v := 99) (dd DX8_tallies_p1 99 rfl) (by decide) ?_
      refine sk_S.callS (dd DX8_tallies_p2 0 rfl) rfl kX8_97 cM_held rfl rfl rfl (Nat.le_of_ble_eq_true rfl) (fun r162 h162 q162 => ?_)
      obtain ⟨rfl, rfl⟩ := q162
      show sk_S _ _ _ _ _ _ (.int _ :: _) _ _
      refine sk_S.iast (dd DX8_tallies_p2 1 rfl) se_55 (j := 6) ⟨by decide, by decide, by decide⟩ ?_
      refine sk_S.aload_n (i := 0) (dd DX8_tallies_p2 2 rfl) rfl rfl ?_
      refine sk_S.getr (dd DX8_tallies_p2 3 rfl) rfl fX8_9 se_54 (by decide) rfl ?_
      refine sk_S.iconst (v := 0) (dd DX8_tallies_p2 4 rfl) (by decide) ?_
      refine sk_S.dup2 (dd DX8_tallies_p2 5 rfl) rfl rfl ?_
      refine sk_S.iald (dd DX8_tallies_p2 6 rfl) se_55 (j := 0) ⟨by decide, by decide, by decide⟩ ?_
      refine sk_S.iconst (v := 1) (dd DX8_tallies_p2 7 rfl) (by decide) ?_
      refine sk_S.iadd (dd DX8_tallies_p2 8 rfl) ?_
      refine sk_S.iast (dd DX8_tallies_p2 9 rfl) se_55 (j := 0) ⟨by decide, by decide, by decide⟩ ?_
      refine sk_S.iload_n (i := 1) (dd DX8_tallies_p2 10 rfl) rfl rfl ?_
      refine sk_S.iret (dd DX8_tallies_p2 11 rfl) rfl rfl ?_
      refine ⟨((ho.u (by decide)).u (by decide)).u (by decide), ?_, rfl⟩
      subst hjn
      rw [sk_u, sk_r_eq, sk_u, sk_r_eq, sk_u, sk_r_eq, hg]
      unfold talR
      rw [if_neg c149]
      rfl
    · refine sk_S.iconst (v := 1) (dd DX8_tallies_p1 94 rfl) (by decide) ?_
      refine sk_S.goto (tgt := 158) (dd DX8_tallies_p1 95 rfl) (by decide) ?_
      refine sk_S.iadd (dd DX8_tallies_p1 97 rfl) ?_
      refine sk_S.iconst (v := 0) (dd DX8_tallies_p1 98 rfl) (by decide) ?_
      refine sk_S.bipush (v := 99) (dd DX8_tallies_p1 99 rfl) (by decide) ?_
      refine sk_S.callS (dd DX8_tallies_p2 0 rfl) rfl kX8_97 cM_held rfl rfl rfl (Nat.le_of_ble_eq_true rfl) (fun r162 h162 q162 => ?_)
      obtain ⟨rfl, rfl⟩ := q162
      show sk_S _ _ _ _ _ _ (.int _ :: _) _ _
      refine sk_S.iast (dd DX8_tallies_p2 1 rfl) se_55 (j := 6) ⟨by decide, by decide, by decide⟩ ?_
      refine sk_S.aload_n (i := 0) (dd DX8_tallies_p2 2 rfl) rfl rfl ?_
      refine sk_S.getr (dd DX8_tallies_p2 3 rfl) rfl fX8_9 se_54 (by decide) rfl ?_
      refine sk_S.iconst (v := 0) (dd DX8_tallies_p2 4 rfl) (by decide) ?_
      refine sk_S.dup2 (dd DX8_tallies_p2 5 rfl) rfl rfl ?_
      refine sk_S.iald (dd DX8_tallies_p2 6 rfl) se_55 (j := 0) ⟨by decide, by decide, by decide⟩ ?_
      refine sk_S.iconst (v := 1) (dd DX8_tallies_p2 7 rfl) (by decide) ?_
      refine sk_S.iadd (dd DX8_tallies_p2 8 rfl) ?_
      refine sk_S.iast (dd DX8_tallies_p2 9 rfl) se_55 (j := 0) ⟨by decide, by decide, by decide⟩ ?_
      refine sk_S.iload_n (i := 1) (dd DX8_tallies_p2 10 rfl) rfl rfl ?_
      refine sk_S.iret (dd DX8_tallies_p2 11 rfl) rfl rfl ?_
      refine ⟨((ho.u (by decide)).u (by decide)).u (by decide), ?_, rfl⟩
      subst hjn
      rw [sk_u, sk_r_eq, sk_u, sk_r_eq, sk_u, sk_r_eq, hg]
      unfold talR
      rw [if_pos c149]
      rfl
  | m + 1, j, g, x3, hj, ho, hg => by
    have e2 : g 55 2 = nI (boN ρ) := by rw [hg, upd_ne (by decide), soldK_no (by omega)]; exact hb.1
    have hb6 := hb.2
    
    refine sk_S.iload_n (i := 2) (dd DX8_tallies_p1 51 rfl) rfl rfl ?_
    refine sk_S.aload_n (i := 0) (dd DX8_tallies_p1 52 rfl) rfl rfl ?_
    refine sk_S.getr (dd DX8_tallies_p1 53 rfl) rfl fX8_9 se_54 (by decide) rfl ?_
    refine sk_S.iconst (v := 2) (dd DX8_tallies_p1 54 rfl) (by decide) ?_
    refine sk_S.iald (dd DX8_tallies_p1 55 rfl) se_55 (j := 2) ⟨by decide, by decide, by decide⟩ ?_
    refine sk_S.icmp_ge (tgt := 115) (dd DX8_tallies_p1 56 rfl) (by decide) (fun c83 => absurd c83 (by rw [e2]; exact nI_ge (by omega) (by omega))) (fun c83 => ?_)
    refine sk_S.aload_n (i := 0) (dd DX8_tallies_p1 57 rfl) rfl rfl ?_
    refine sk_S.aload_n (i := 0) (dd DX8_tallies_p1 58 rfl) rfl rfl ?_
    refine sk_S.iload_n (i := 2) (dd DX8_tallies_p1 59 rfl) rfl rfl ?_
    refine sk_S.iconst (v := 2) (dd DX8_tallies_p1 60 rfl) (by decide) ?_
    refine sk_S.callV (dd DX8_tallies_p1 61 rfl) rfl kX8_51 (cM_of (j := j) (w := 2) (by omega)) se_54 (by decide) rfl rfl rfl rfl (Nat.le_of_ble_eq_true rfl) (fun r90 h90 q90 => ?_)
    obtain ⟨rfl, rfl⟩ := q90
    show sk_S _ _ _ _ _ _ (.int _ :: _) _ _
    refine sk_S.iconst (v := 1) (dd DX8_tallies_p1 62 rfl) (by decide) ?_
    refine sk_S.icmp_ne (tgt := 101) (dd DX8_tallies_p1 63 rfl) (by decide) (fun c94 => ?_) (fun c94 => ?_)
    · refine sk_S.aload_n (i := 0) (dd DX8_tallies_p1 66 rfl) rfl rfl ?_
      refine sk_S.iload_n (i := 2) (dd DX8_tallies_p1 67 rfl) rfl rfl ?_
      refine sk_S.callV (dd DX8_tallies_p1 68 rfl) rfl kX8_82 (cM_eatsOf (j := j) (by omega)) se_54 (by decide) rfl rfl rfl rfl (Nat.le_of_ble_eq_true rfl) (fun r103 h103 q103 => ?_)
      obtain ⟨rfl, rfl⟩ := q103
      show sk_S _ _ _ _ _ _ (.int _ :: _) _ _
      refine sk_S.callV (dd DX8_tallies_p1 69 rfl) rfl kX8_168 cM_pays se_54 (by decide) rfl rfl rfl rfl (Nat.le_of_ble_eq_true rfl) (fun r106 h106 q106 => ?_)
      obtain ⟨rfl, rfl⟩ := q106
      show sk_S _ _ _ _ 109 _ _ _ _
      refine sk_S.iinc (i := 2) (v := _ + 1) (dd DX8_tallies_p1 70 rfl) rfl rfl rfl ?_
      refine sk_S.goto (tgt := 76) (dd DX8_tallies_p1 71 rfl) (by decide) ?_
      refine sk_S.L (lp_tal3 hb hI m (j + 1) _ x3 (by omega) (ho.u (by decide)) ?_) (by rw [nI_succ]; rfl)
      have e3 : g 55 (17 + 3 * j + 2) = ρ (17 + 3 * j + 2) := by rw [hg, upd_ne (by omega), soldK_no (by omega)]
      have e4 : g 55 (17 + 3 * j) = ρ (17 + 3 * j) := by rw [hg, upd_ne (by omega), soldK_no (by omega)]
      have e0 : g 55 0 = ρ 0 := by rw [hg, upd_ne (by omega), soldK_no (by omega)]
      rw [e3] at c94
      rw [sk_u, sk_r_eq, e4, e0, hg, upd_upd, upd_eq]
      show upd _ 4 (heldV (purB ρ j - _) _ _) = upd _ 4 (heldV (purB ρ j - _) _ _)
      rw [if_neg c94]
    · refine sk_S.iconst (v := 0) (dd DX8_tallies_p1 64 rfl) (by decide) ?_
      refine sk_S.goto (tgt := 106) (dd DX8_tallies_p1 65 rfl) (by decide) ?_
      refine sk_S.callV (dd DX8_tallies_p1 69 rfl) rfl kX8_168 cM_pays se_54 (by decide) rfl rfl rfl rfl (Nat.le_of_ble_eq_true rfl) (fun r106 h106 q106 => ?_)
      obtain ⟨rfl, rfl⟩ := q106
      show sk_S _ _ _ _ 109 _ _ _ _
      refine sk_S.iinc (i := 2) (v := _ + 1) (dd DX8_tallies_p1 70 rfl) rfl rfl rfl ?_
      refine sk_S.goto (tgt := 76) (dd DX8_tallies_p1 71 rfl) (by decide) ?_
      refine sk_S.L (lp_tal3 hb hI m (j + 1) _ x3 (by omega) (ho.u (by decide)) ?_) (by rw [nI_succ]; rfl)
      have e3 : g 55 (17 + 3 * j + 2) = ρ (17 + 3 * j + 2) := by rw [hg, upd_ne (by omega), soldK_no (by omega)]
      have e4 : g 55 (17 + 3 * j) = ρ (17 + 3 * j) := by rw [hg, upd_ne (by omega), soldK_no (by omega)]
      have e0 : g 55 0 = ρ 0 := by rw [hg, upd_ne (by omega), soldK_no (by omega)]
      rw [e3] at c94
      rw [sk_u, sk_r_eq, hg, upd_upd, upd_eq]
      show upd _ 4 (heldV (purB ρ j - _) _ _) = upd _ 4 (heldV (purB ρ j - _) _ _)
      rw [if_pos c94]
set_option maxRecDepth 100000 in
set_option maxHeartbeats 4000000 in
theorem lp_tal2 {l : Launch} {E : sk_V} {d : Nat} {h : sk_M} {ρ : Nat → Int32} (hb : boI ρ) (hI : lawI ρ 0) : ∀ (m f : Nat) (g : sk_M) (x3 : Option Value), f + m = 4 → sk_o [55, 63, 64] h g → g 55 = soldK (upd ρ 4 (purF ρ 4)) f → sk_S l E (d + 3) MX8_tallies 53 [some (.ref 54), some (.int (allF ρ 4)), some (.int (nI f)), x3] [] g (fun r h1 => sk_o [55, 63, 64] h h1 ∧ h1 55 = talR ρ ∧ some (.int (allF ρ 4)) = r)
  | 0, f, g, x3, hf, ho, hg => by
    have hfn : f = 4 := by omega
    subst hfn
    refine sk_S.iload_n (i := 2) (dd DX8_tallies_p1 37 rfl) rfl rfl ?_
    refine sk_S.iconst (v := 4) (dd DX8_tallies_p1 38 rfl) (by decide) ?_
    refine sk_S.icmp_ge (tgt := 74) (dd DX8_tallies_p1 39 rfl) (by decide) (fun c55 => ?_) (fun c55 => absurd (by decide) c55)
    refine sk_S.iconst (v := 0) (dd DX8_tallies_p1 49 rfl) (by decide) ?_
    refine sk_S.istore_n (i := 2) (dd DX8_tallies_p1 50 rfl) rfl (Nat.le_of_ble_eq_true rfl) rfl ?_
    exact lp_tal3 hb hI (boN ρ) 0 g x3 (Nat.zero_add _) ho (by rw [hg, soldK_up]; rfl)
  | m + 1, f, g, x3, hf, ho, hg => by
    refine sk_S.iload_n (i := 2) (dd DX8_tallies_p1 37 rfl) rfl rfl ?_
    refine sk_S.iconst (v := 4) (dd DX8_tallies_p1 38 rfl) (by decide) ?_
    refine sk_S.icmp_ge (tgt := 74) (dd DX8_tallies_p1 39 rfl) (by decide) (fun c55 => absurd c55 (nI_ge (b := 4) (by omega) (by decide))) (fun c55 => ?_)
    refine sk_S.aload_n (i := 0) (dd DX8_tallies_p1 40 rfl) rfl rfl ?_
    refine sk_S.getr (dd DX8_tallies_p1 41 rfl) rfl fX8_9 se_54 (by decide) rfl ?_
    refine sk_S.bipush (v := 9) (dd DX8_tallies_p1 42 rfl) (by decide) ?_
    refine sk_S.iload_n (i := 2) (dd DX8_tallies_p1 43 rfl) rfl rfl ?_
    refine sk_S.iadd (dd DX8_tallies_p1 44 rfl) ?_
    refine sk_S.iconst (v := 0) (dd DX8_tallies_p1 45 rfl) (by decide) ?_
    refine sk_S.iast (dd DX8_tallies_p1 46 rfl) se_55 (sk_ix_e (k := 9 + f) (ix_add 9 f) (by omega) (by decide)) ?_
    refine sk_S.iinc (i := 2) (v := _ + 1) (dd DX8_tallies_p1 47 rfl) rfl rfl rfl ?_
    refine sk_S.goto (tgt := 53) (dd DX8_tallies_p1 48 rfl) (by decide) ?_
    exact sk_S.L (lp_tal2 hb hI m (f + 1) _ x3 (by omega) (ho.u (by decide)) (by rw [sk_u, sk_r_eq, hg, soldK_s])) (by rw [nI_succ]; rfl)
set_option maxRecDepth 100000 in
set_option maxHeartbeats 4000000 in
theorem lp_tal1 {l : Launch} {E : sk_V} {d : Nat} {h : sk_M} {ρ : Nat → Int32} (hb : boI ρ) (hI : lawI ρ 0) : ∀ (m f : Nat) (g : sk_M) (x3 : Option Value), f + m = 4 → sk_o [55, 63, 64] h g → g 55 = upd ρ 4 (purF ρ f) → sk_S l E (d + 6) MX8_tallies 4 [some (.ref 54), some (.int (allF ρ f)), some (.int (nI f)), x3] [] g (fun r h1 => sk_o [55, 63, 64] h h1 ∧ h1 55 = talR ρ ∧ some (.int (allF ρ 4)) = r)
  | 0, f, g, x3, hf, ho, hg => by
    have hfn : f = 4 := by omega
    subst hfn
    refine sk_S.iload_n (i := 2) (dd DX8_tallies_p1 4 rfl) rfl rfl ?_
    refine sk_S.iconst (v := 4) (dd DX8_tallies_p1 5 rfl) (by decide) ?_
    refine sk_S.icmp_ge (tgt := 51) (dd DX8_tallies_p1 6 rfl) (by decide) (fun c6 => ?_) (fun c6 => absurd (by decide) c6)
    refine sk_S.iconst (v := 0) (dd DX8_tallies_p1 35 rfl) (by decide) ?_
    refine sk_S.istore_n (i := 2) (dd DX8_tallies_p1 36 rfl) rfl (Nat.le_of_ble_eq_true rfl) rfl ?_
    exact lp_tal2 hb hI 4 0 g x3 rfl ho (by rw [soldK_0]; exact hg)
  | m + 1, f, g, x3, hf, ho, hg => by
    have hbg : boI (g 55) := boI_cg (by rw [hg]; exact upd_ne (by decide)) hb
    have hIg : lawI (g 55) 0 := lawI_cg (fun k hk => by rw [hg]; exact upd_ne (by omega)) hI
    refine sk_S.iload_n (i := 2) (dd DX8_tallies_p1 4 rfl) rfl rfl ?_
    refine sk_S.iconst (v := 4) (dd DX8_tallies_p1 5 rfl) (by decide) ?_
    refine sk_S.icmp_ge (tgt := 51) (dd DX8_tallies_p1 6 rfl) (by decide) (fun c6 => absurd c6 (nI_ge (b := 4) (by omega) (by decide))) (fun c6 => ?_)
    refine sk_S.aload_n (i := 0) (dd DX8_tallies_p1 7 rfl) rfl rfl ?_
    refine sk_S.iload_n (i := 2) (dd DX8_tallies_p1 8 rfl) rfl rfl ?_
    refine sk_S.aload_n (i := 0) (dd DX8_tallies_p1 9 rfl) rfl rfl ?_
    refine sk_S.getr (dd DX8_tallies_p1 10 rfl) rfl fX8_9 se_54 (by decide) rfl ?_
    refine sk_S.bipush (v := 9) (dd DX8_tallies_p1 11 rfl) (by decide) ?_
    refine sk_S.iload_n (i := 2) (dd DX8_tallies_p1 12 rfl) rfl rfl ?_
    refine sk_S.iadd (dd DX8_tallies_p1 13 rfl) ?_
    refine sk_S.iald (dd DX8_tallies_p1 14 rfl) se_55 (sk_ix_e (k := 9 + f) (ix_add 9 f) (by omega) (by decide)) ?_
    refine sk_S.callV (dd DX8_tallies_p1 15 rfl) rfl kX8_165 (cM_shortBy rfl hbg hIg) se_54 (by decide) rfl rfl rfl rfl (Nat.le_of_ble_eq_true rfl) (fun r20 h20 q20 => ?_)
    obtain ⟨ho2, rfl⟩ := q20
    have e55 : h20 55 = upd ρ 4 (purF ρ f) := (ho2 55 (by decide)).trans hg
    have eL : shortG (g 55) (nI f) (g 55 (9 + f)) = lessG ρ f := by
      unfold lessG
      rw [hg, upd_ne (by omega)]
      exact shortG_cg (fun k hk => upd_ne (by omega)) (upd_ne (by decide)) (upd_ne (by decide)) (upd_ne (by decide))
    rw [eL]
    show sk_S _ _ _ _ _ _ (.int _ :: _) _ _
    refine sk_S.istore_n (i := 3) (dd DX8_tallies_p1 16 rfl) rfl (Nat.le_of_ble_eq_true rfl) rfl ?_
    refine sk_S.aload_n (i := 0) (dd DX8_tallies_p1 17 rfl) rfl rfl ?_
    refine sk_S.iconst (v := 2) (dd DX8_tallies_p1 18 rfl) (by decide) ?_
    refine sk_S.iload_n (i := 3) (dd DX8_tallies_p1 19 rfl) rfl rfl ?_
    refine sk_S.imul (dd DX8_tallies_p1 20 rfl) ?_
    refine sk_S.aload_n (i := 0) (dd DX8_tallies_p1 21 rfl) rfl rfl ?_
    refine sk_S.getr (dd DX8_tallies_p1 22 rfl) rfl fX8_9 se_54 (by decide) rfl ?_
    refine sk_S.bipush (v := 13) (dd DX8_tallies_p1 23 rfl) (by decide) ?_
    refine sk_S.iload_n (i := 2) (dd DX8_tallies_p1 24 rfl) rfl rfl ?_
    refine sk_S.iadd (dd DX8_tallies_p1 25 rfl) ?_
    refine sk_S.iald (dd DX8_tallies_p1 26 rfl) se_55 (sk_ix_e (k := 13 + f) (ix_add 13 f) (by omega) (by decide)) ?_
    refine sk_S.imul (dd DX8_tallies_p1 27 rfl) ?_
    refine sk_S.callV (dd DX8_tallies_p1 28 rfl) rfl kX8_168 cM_pays se_54 (by decide) rfl rfl rfl rfl (Nat.le_of_ble_eq_true rfl) (fun r38 h38 q38 => ?_)
    obtain ⟨rfl, rfl⟩ := q38
    show sk_S _ _ _ _ 41 _ _ _ _
    refine sk_S.iload_n (i := 1) (dd DX8_tallies_p1 29 rfl) rfl rfl ?_
    refine sk_S.iload_n (i := 3) (dd DX8_tallies_p1 30 rfl) rfl rfl ?_
    refine sk_S.iadd (dd DX8_tallies_p1 31 rfl) ?_
    refine sk_S.istore_n (i := 1) (dd DX8_tallies_p1 32 rfl) rfl (Nat.le_of_ble_eq_true rfl) rfl ?_
    refine sk_S.iinc (i := 2) (v := _ + 1) (dd DX8_tallies_p1 33 rfl) rfl rfl rfl ?_
    refine sk_S.goto (tgt := 4) (dd DX8_tallies_p1 34 rfl) (by decide) ?_
    refine sk_S.L (lp_tal1 hb hI m (f + 1) _ (some (.int (lessG ρ f))) (by omega) ((ho.tr (ho2.more (by decide))).u (by decide)) ?_) (by rw [nI_succ]; rfl)
    rw [sk_u, sk_r_eq, e55, upd_upd, upd_eq, upd_ne (by omega)]
    rfl
set_option maxRecDepth 100000 in
set_option maxHeartbeats 4000000 in
theorem cM_tallies {l : Launch} {E : sk_V} {d : Nat} {h : sk_M} {ρ : Nat → Int32} (hρ : h 55 = ρ) (hb : boI ρ) (hI : lawI ρ 0) : sk_K l E (d + 6) MX8_tallies [.ref 54] h (fun r h1 => sk_o [55, 63, 64] h h1 ∧ h1 55 = talR ρ ∧ some (.int (allF ρ 4)) = r) := by
  refine sk_K.of (by decide +kernel) (Nat.le_of_ble_eq_true rfl) ?_
  show sk_S l E (d + 6) _ 0 [some (.ref 54), none, none, none] [] h _
  refine sk_S.iconst (v := 0) (dd DX8_tallies_p1 0 rfl) (by decide) ?_
  refine sk_S.istore_n (i := 1) (dd DX8_tallies_p1 1 rfl) rfl (Nat.le_of_ble_eq_true rfl) rfl ?_
  refine sk_S.iconst (v := 0) (dd DX8_tallies_p1 2 rfl) (by decide) ?_
  refine sk_S.istore_n (i := 2) (dd DX8_tallies_p1 3 rfl) rfl (Nat.le_of_ble_eq_true rfl) rfl ?_
  exact lp_tal1 hb hI 4 0 h none rfl sk_o.rf (by rw [hρ]; exact upd_self.symm)
set_option maxRecDepth 100000 in
set_option maxHeartbeats 4000000 in
theorem cM_tally {l : Launch} {E : sk_V} {d : Nat} {h : sk_M}  (hb : boI (h 55)) (hI : lawI (h 55) 0) : sk_K l E (d + 7) MX8_tally [.ref 54] h (fun r h1 => (h 55 0 = 9999 ∧ erM h 3 h1 r) ∨ (¬ h 55 0 = 9999 ∧ sk_o [55, 63, 64] h h1 ∧ h1 55 = talR (h 55) ∧ some (.int (allF (h 55) 4)) = r)) := by
  refine sk_K.of (by decide +kernel) (Nat.le_of_ble_eq_true rfl) ?_
  show sk_S l E (d + 7) _ 0 [some (.ref 54)] [] h _
  refine sk_S.aload_n (i := 0) (dd DX8_tally 0 rfl) rfl rfl ?_
  refine sk_S.getr (dd DX8_tally 1 rfl) rfl fX8_9 se_54 (by decide) rfl ?_
  refine sk_S.iconst (v := 0) (dd DX8_tally 2 rfl) (by decide) ?_
  refine sk_S.iald (dd DX8_tally 3 rfl) se_55 (j := 0) ⟨by decide, by decide, by decide⟩ ?_
  refine sk_S.sipush (v := 9999) (dd DX8_tally 4 rfl) (by decide) ?_
  refine sk_S.icmp_ne (tgt := 21) (dd DX8_tally 5 rfl) (by decide) (fun c9 => ?_) (fun c9 => ?_)
  · refine sk_S.aload_n (i := 0) (dd DX8_tally 10 rfl) rfl rfl ?_
    refine sk_S.callV (dd DX8_tally 11 rfl) rfl kX8_171 (cM_tallies rfl hb hI) se_54 (by decide) rfl rfl rfl rfl (Nat.le_of_ble_eq_true rfl) (fun r22 h22 q22 => ?_)
    obtain ⟨ho, e55, rfl⟩ := q22
    show sk_S _ _ _ _ _ _ (.int _ :: _) _ _
    refine sk_S.iret (dd DX8_tally 12 rfl) rfl rfl ?_
    exact Or.inr ⟨c9, ho, e55, rfl⟩
  · refine sk_S.aload_n (i := 0) (dd DX8_tally 6 rfl) rfl rfl ?_
    refine sk_S.ldc (dd DX8_tally 7 rfl) rfl cnX8_100 ?_
    refine sk_S.callV (dd DX8_tally 8 rfl) rfl kX8_74 (cM_error (k := 3) ⟨by decide, by decide, by decide⟩) se_54 (by decide) rfl rfl rfl rfl (Nat.le_of_ble_eq_true rfl) (fun r15 h15 q15 => ?_)
    obtain ⟨rfl, rfl⟩ := q15
    show sk_S _ _ _ _ _ _ (.int _ :: _) _ _
    refine sk_S.goto (tgt := 25) (dd DX8_tally 9 rfl) (by decide) ?_
    refine sk_S.iret (dd DX8_tally 12 rfl) rfl rfl ?_
    exact Or.inl ⟨c9, rfl, rfl⟩
end M6
end
section
section SPEC7
theorem nI_rem {a b : Nat} (ha : a < 2 ^ 31) (hb0 : 0 < b) (hb : b < 2 ^ 31) : nI a - nI a / nI b * nI b = nI (a % b) := pk_rem ha hb0 hb
/-- draws -/
def zN (z : Int32) : Int32 := z * 1103515245 + 12345
def dv (z : Int32) : Nat := z.toUInt32.toNat / 256
theorem ushr8_dv (z : Int32) : ushr8 z = nI (dv z) ∧ dv z < 16777216 := by
  have h1 : z.toUInt32.toNat < 4294967296 := z.toUInt32.toNat_lt
  have h2 : dv z < 16777216 := by unfold dv; omega
  refine ⟨?_, h2⟩
  have e1 : (z.toUInt32 >>> ((8 : Int32).toUInt32 &&& Int32.toUInt32 31)).toNat = dv z := by
    have e2 : ((8 : Int32).toUInt32 &&& Int32.toUInt32 31) = 8 := by decide
    rw [e2, UInt32.toNat_shiftRight, Nat.shiftRight_eq_div_pow]
    rfl
  unfold ushr8
  apply Int32.toInt_inj.mp
  rw [nI_toInt (by omega), ← e1]
  generalize hq : z.toUInt32 >>> ((8 : Int32).toUInt32 &&& Int32.toUInt32 31) = q at *
  have h3 : q.toNat < 16777216 := by rw [e1]; exact h2
  show q.toBitVec.toInt = (q.toBitVec.toNat : Int)
  exact BitVec.toInt_eq_toNat_of_lt (by show 2 * q.toNat < 4294967296; omega)
def cntN (p : Nat → Bool) : Nat → Nat
  | 0 => 0
  | k + 1 => cntN p k + (if p k = true then 1 else 0)
theorem cntN_le (p : Nat → Bool) : ∀ k, cntN p k ≤ k
  | 0 => Nat.le_refl _
  | k + 1 => by
    have ih := cntN_le p k
    unfold cntN
    split <;> omega
/-- by which waves a catch is enough -/
def enP (g : Nat → Int32) (f n : Int32) (w : Nat) : Bool := decide (n ≤ catchG g f n (nI w) (g 0))
def shW (g : Nat → Int32) (f n : Int32) (w : Nat) : Int32 := if n - catchG g f n (nI w) (g 0) < 0 then 0 else n - catchG g f n (nI w) (g 0)
def safeN (g : Nat → Int32) (f : Int32) : Nat → Nat
  | 0 => 0
  | n + 1 => if cntN (enP g f (nI (n + 1))) 10 = 10 then n + 1 else safeN g f n
theorem catchG_w {g : Nat → Int32} {f n x : Int32} : catchG (upd g 3 x) f n ((upd g 3 x) 3) ((upd g 3 x) 0) = catchG g f n x (g 0) := by
  rw [upd_eq, upd_ne (by decide)]
  exact catchG_cg (fun k hk => upd_ne (by omega)) (upd_ne (by decide))
theorem shortG_w {g : Nat → Int32} {f n : Int32} {w : Nat} : shortG (upd g 3 (nI w)) f n = shW g f n w := by
  unfold shortG shW
  rw [catchG_w]
/-- a day by draws, up to its evening -/
def drF (g : Nat → Int32) : Nat := dv (zN (g 1)) % 4
def drN (g : Nat → Int32) : Nat := dv (zN (zN (g 1))) % 30
def drS (g : Nat → Int32) : Nat → Int32 := if upd g 1 (zN (zN (g 1))) (9 + drF g) + nI (drN g) ≤ 99 then sellR (upd g 1 (zN (zN (g 1)))) (drF g) (nI (drN g)) else upd g 1 (zN (zN (g 1)))
def drR (g : Nat → Int32) : Nat → Int32 := upd (upd (drS g) 1 (zN (zN (zN (g 1))))) 3 (nI (dv (zN (zN (zN (g 1)))) % 10))
theorem sellR_no {g : Nat → Int32} {j k : Nat} {n : Int32} (hj : j < 4) (h : k < 4 ∨ k = 5 ∨ k = 6 ∨ k = 7 ∨ k = 8 ∨ 13 ≤ k) : sellR g j n k = g k := by
  unfold sellR
  rw [upd_ne (by omega), upd_ne (by omega)]
theorem drF_lt {g : Nat → Int32} : drF g < 4 := Nat.mod_lt _ (by decide)
theorem drS_no {g : Nat → Int32} {k : Nat} (h : k = 2 ∨ 13 ≤ k) : drS g k = g k := by
  unfold drS
  split
  · rw [sellR_no drF_lt (by omega), upd_ne (by omega)]
  · rw [upd_ne (by omega)]
theorem drR_no {g : Nat → Int32} {k : Nat} (h : k = 2 ∨ 13 ≤ k) : drR g k = g k := by
  unfold drR
  rw [upd_ne (by omega), upd_ne (by omega), drS_no h]
theorem talR_no {g : Nat → Int32} {k : Nat} (h : k = 2 ∨ 13 ≤ k) : talR g k = g k := by
  unfold talR
  rw [upd_ne (by omega), upd_ne (by omega), upd_ne (by omega), upd_ne (by omega), soldK_no (by omega)]
def looR (g : Nat → Int32) : Nat → (Nat → Int32)
  | 0 => g
  | k + 1 => talR (drR (looR g k))
def looA (g : Nat → Int32) : Nat → Int32
  | 0 => 0
  | k + 1 => looA g k + allF (drR (looR g k)) 4
theorem looR_no {g : Nat → Int32} {k : Nat} (h : k = 2 ∨ 13 ≤ k) : ∀ i, looR g i k = g k
  | 0 => rfl
  | i + 1 => by
    show talR (drR (looR g i)) k = g k
    rw [talR_no h, drR_no h, looR_no h i]
end SPEC7
section SPEC7B
theorem rg30 {k : Int32} (c : 1 ≤ k ∧ k ≤ 30) : ∃ j, 1 ≤ j ∧ j ≤ 30 ∧ k = nI j := by
  have h0 : (0 : Int32) ≤ k := Int32.le_trans (by decide) c.1
  obtain ⟨j, hj, rfl⟩ := (inN_le (x := k) (M := 30) (n := 31) (by decide)).mp ⟨h0, c.2⟩
  refine ⟨j, ?_, by omega, rfl⟩
  have h1 : nI 1 ≤ nI j := c.1
  rw [nI_leI (by decide) (by omega)] at h1
  exact h1
theorem back_o {h g : sk_M} (a : sk_o [55, 63, 64] h g) (e : g 55 = h 55) : sk_o [63, 64] h g := by
  intro k hk
  by_cases q : k = 55
  · rw [q]; exact e
  · exact a k (by simp only [List.mem_cons, not_or] at hk ⊢; exact ⟨q, hk⟩)
end SPEC7B
section SPEC7C
theorem rem_4 {a : Nat} (ha : a < 2 ^ 31) : nI a - nI a / 4 * 4 = nI (a % 4) := nI_rem ha (by decide) (by decide)
theorem rem_10 {a : Nat} (ha : a < 2 ^ 31) : nI a - nI a / 10 * 10 = nI (a % 10) := nI_rem ha (by decide) (by decide)
theorem rem_30 {a : Nat} (ha : a < 2 ^ 31) : nI a - nI a / 30 * 30 = nI (a % 30) := nI_rem ha (by decide) (by decide)
end SPEC7C
end
section
section M7
set_option maxRecDepth 100000 in
set_option maxHeartbeats 4000000 in
theorem cM_drawZ {l : Launch} {E : sk_V} {d : Nat} {h : sk_M} {ρ : Nat → Int32} {z : Int32} (hρ : h 55 = ρ) (hz : ρ 1 = z) : sk_K l E (d + 0) MX8_draw [.ref 54] h (fun r h1 => sk_o [55] h h1 ∧ h1 55 = upd ρ 1 (zN z) ∧ some (.int (nI (dv (zN z)))) = r) := by
  refine sk_K.of (by decide +kernel) (Nat.le_of_ble_eq_true rfl) ?_
  show sk_S l E (d + 0) _ 0 [some (.ref 54)] [] h _
  refine sk_S.aload_n (i := 0) (dd DX8_draw 0 rfl) rfl rfl ?_
  refine sk_S.getr (dd DX8_draw 1 rfl) rfl fX8_9 se_54 (by decide) rfl ?_
  refine sk_S.iconst (v := 1) (dd DX8_draw 2 rfl) (by decide) ?_
  refine sk_S.aload_n (i := 0) (dd DX8_draw 3 rfl) rfl rfl ?_
  refine sk_S.getr (dd DX8_draw 4 rfl) rfl fX8_9 se_54 (by decide) rfl ?_
  refine sk_S.iconst (v := 1) (dd DX8_draw 5 rfl) (by decide) ?_
  refine sk_S.iald (dd DX8_draw 6 rfl) se_55 (j := 1) ⟨by decide, by decide, by decide⟩ ?_
  refine sk_S.ldc (dd DX8_draw 7 rfl) rfl cnX8_174 ?_
  refine sk_S.imul (dd DX8_draw 8 rfl) ?_
  refine sk_S.sipush (v := 12345) (dd DX8_draw 9 rfl) (by decide) ?_
  refine sk_S.iadd (dd DX8_draw 10 rfl) ?_
  refine sk_S.iast (dd DX8_draw 11 rfl) se_55 (j := 1) ⟨by decide, by decide, by decide⟩ ?_
  refine sk_S.aload_n (i := 0) (dd DX8_draw 12 rfl) rfl rfl ?_
  refine sk_S.getr (dd DX8_draw 13 rfl) rfl fX8_9 se_54 (by decide) rfl ?_
  refine sk_S.iconst (v := 1) (dd DX8_draw 14 rfl) (by decide) ?_
  refine sk_S.iald (dd DX8_draw 15 rfl) se_55 (j := 1) ⟨by decide, by decide, by decide⟩ ?_
  refine sk_S.bipush (v := 8) (dd DX8_draw 16 rfl) (by decide) ?_
  refine sk_S.iushr (dd DX8_draw 17 rfl) ?_
  refine sk_S.iret (dd DX8_draw 18 rfl) rfl rfl ?_
  subst hρ; subst hz
  refine ⟨sk_o.rf.u (by decide), sk_r_eq _ _ _, ?_⟩
  rw [← (ushr8_dv _).1]
  rfl
set_option maxRecDepth 100000 in
set_option maxHeartbeats 4000000 in
theorem cM_drawn {l : Launch} {E : sk_V} {d : Nat} {h : sk_M} {ρ : Nat → Int32} (hρ : h 55 = ρ) (hb : boI ρ) (hI : lawI ρ 0) (hJ : lawI ρ 1) : sk_K l E (d + 7) MX8_drawn [.ref 54] h (fun r h1 => sk_o [55, 63, 64] h h1 ∧ h1 55 = talR (drR ρ) ∧ some (.int (allF (drR ρ) 4)) = r) := by
  refine sk_K.of (by decide +kernel) (Nat.le_of_ble_eq_true rfl) ?_
  show sk_S l E (d + 7) _ 0 [some (.ref 54), none, none, none] [] h _
  refine sk_S.aload_n (i := 0) (dd DX8_drawn 0 rfl) rfl rfl ?_
  refine sk_S.callV (dd DX8_drawn 1 rfl) rfl kX8_175 (cM_drawZ hρ rfl) se_54 (by decide) rfl rfl rfl rfl (Nat.le_of_ble_eq_true rfl) (fun r1 h1 q1 => ?_)
  obtain ⟨oa, ea, rfl⟩ := q1
  show sk_S _ _ _ _ _ _ (.int _ :: _) _ _
  refine sk_S.iconst (v := 4) (dd DX8_drawn 2 rfl) (by decide) ?_
  refine sk_S.irem (dd DX8_drawn 3 rfl) (by decide) ?_
  rw [rem_4 (by have := (ushr8_dv (zN (ρ 1))).2; omega)]
  refine sk_S.istore_n (i := 1) (dd DX8_drawn 4 rfl) rfl (Nat.le_of_ble_eq_true rfl) rfl ?_
  refine sk_S.aload_n (i := 0) (dd DX8_drawn 5 rfl) rfl rfl ?_
  refine sk_S.callV (dd DX8_drawn 6 rfl) rfl kX8_175 (cM_drawZ ea upd_eq) se_54 (by decide) rfl rfl rfl rfl (Nat.le_of_ble_eq_true rfl) (fun r8 h8 q8 => ?_)
  obtain ⟨ob, eb0, rfl⟩ := q8
  have eb : h8 55 = upd ρ 1 (zN (zN (ρ 1))) := eb0.trans upd_upd
  show sk_S _ _ _ _ _ _ (.int _ :: _) _ _
  refine sk_S.bipush (v := 30) (dd DX8_drawn 7 rfl) (by decide) ?_
  refine sk_S.irem (dd DX8_drawn 8 rfl) (by decide) ?_
  rw [rem_30 (by have := (ushr8_dv (zN (zN (ρ 1)))).2; omega)]
  refine sk_S.istore_n (i := 2) (dd DX8_drawn 9 rfl) rfl (Nat.le_of_ble_eq_true rfl) rfl ?_
  refine sk_S.aload_n (i := 0) (dd DX8_drawn 10 rfl) rfl rfl ?_
  refine sk_S.getr (dd DX8_drawn 11 rfl) rfl fX8_9 se_54 (by decide) rfl ?_
  refine sk_S.bipush (v := 9) (dd DX8_drawn 12 rfl) (by decide) ?_
  refine sk_S.iload_n (i := 1) (dd DX8_drawn 13 rfl) rfl rfl ?_
  refine sk_S.iadd (dd DX8_drawn 14 rfl) ?_
  refine sk_S.iald (dd DX8_drawn 15 rfl) se_55 (sk_ix_e (k := 9 + drF ρ) (ix_add 9 _) (by have := drF_lt (g := ρ); omega) (by decide)) ?_
  refine sk_S.iload_n (i := 2) (dd DX8_drawn 16 rfl) rfl rfl ?_
  refine sk_S.iadd (dd DX8_drawn 17 rfl) ?_
  refine sk_S.bipush (v := 99) (dd DX8_drawn 18 rfl) (by decide) ?_
  refine sk_S.icmp_gt (tgt := 38) (dd DX8_drawn 19 rfl) (by decide) (fun c28 => ?_) (fun c28 => ?_)
  · refine sk_S.aload_n (i := 0) (dd DX8_drawn 25 rfl) rfl rfl ?_
    refine sk_S.getr (dd DX8_drawn 26 rfl) rfl fX8_9 se_54 (by decide) rfl ?_
    refine sk_S.iconst (v := 3) (dd DX8_drawn 27 rfl) (by decide) ?_
    have e44 := eb
    have e44z : upd ρ 1 (zN (zN (ρ 1))) 1 = (zN (zN (ρ 1))) := upd_eq
    have eS : drS ρ = upd ρ 1 (zN (zN (ρ 1))) := by unfold drS; rw [if_neg (by rw [← eb]; exact Int32.not_le.mpr c28)]; try rfl
    refine sk_S.aload_n (i := 0) (dd DX8_drawn 28 rfl) rfl rfl ?_
    refine sk_S.callV (dd DX8_drawn 29 rfl) rfl kX8_175 (cM_drawZ (z := (zN (zN (ρ 1)))) e44 e44z) se_54 (by decide) rfl rfl rfl rfl (Nat.le_of_ble_eq_true rfl) (fun r44 h44 q44 => ?_)
    obtain ⟨od, ed, rfl⟩ := q44
    show sk_S _ _ _ _ _ _ (.int _ :: _) _ _
    refine sk_S.bipush (v := 10) (dd DX8_drawn 30 rfl) (by decide) ?_
    refine sk_S.irem (dd DX8_drawn 31 rfl) (by decide) ?_
    rw [rem_10 (by have := (ushr8_dv (zN (zN (zN (ρ 1))))).2; omega)]
    refine sk_S.iast (dd DX8_drawn 32 rfl) se_55 (j := 3) ⟨by decide, by decide, by decide⟩ ?_
    have e52 : sk_u h44 55 3 (nI (dv (zN (zN (zN (ρ 1)))) % 10)) 55 = drR ρ := by rw [sk_u, sk_r_eq, ed]; unfold drR; rw [eS]; try rfl
    refine sk_S.aload_n (i := 0) (dd DX8_drawn 33 rfl) rfl rfl ?_
    refine sk_S.callV (dd DX8_drawn 34 rfl) rfl kX8_171 (cM_tallies (ρ := drR ρ) e52 (boI_cg (drR_no (Or.inl rfl)) hb) (lawI_cg (fun k hk => drR_no (Or.inr (by omega))) hI)) se_54 (by decide) rfl rfl rfl rfl (Nat.le_of_ble_eq_true rfl) (fun r52 h52 q52 => ?_)
    obtain ⟨oe, ee, rfl⟩ := q52
    show sk_S _ _ _ _ _ _ (.int _ :: _) _ _
    refine sk_S.iret (dd DX8_drawn 35 rfl) rfl rfl ?_
    refine ⟨(((((oa.more (S1 := [55, 63, 64]) (by decide)).tr (ob.more (by decide)))).tr (od.more (by decide))).u (by decide)).tr oe, ee, rfl⟩
  · refine sk_S.aload_n (i := 0) (dd DX8_drawn 20 rfl) rfl rfl ?_
    refine sk_S.iload_n (i := 1) (dd DX8_drawn 21 rfl) rfl rfl ?_
    refine sk_S.iload_n (i := 2) (dd DX8_drawn 22 rfl) rfl rfl ?_
    refine sk_S.callV (dd DX8_drawn 23 rfl) rfl kX8_101 (cM_sells drF_lt eb (lawI_cg (fun k hk => upd_ne (by omega)) hJ)) se_54 (by decide) rfl rfl rfl rfl (Nat.le_of_ble_eq_true rfl) (fun r34 h34 q34 => ?_)
    obtain ⟨oc, ec, rfl⟩ := q34
    show sk_S _ _ _ _ _ _ (.int _ :: _) _ _
    refine sk_S.istore_n (i := 3) (dd DX8_drawn 24 rfl) rfl (Nat.le_of_ble_eq_true rfl) rfl ?_
    refine sk_S.aload_n (i := 0) (dd DX8_drawn 25 rfl) rfl rfl ?_
    refine sk_S.getr (dd DX8_drawn 26 rfl) rfl fX8_9 se_54 (by decide) rfl ?_
    refine sk_S.iconst (v := 3) (dd DX8_drawn 27 rfl) (by decide) ?_
    have e44 := ec
    have e44z : sellR (upd ρ 1 (zN (zN (ρ 1)))) (drF ρ) (nI (drN ρ)) 1 = (zN (zN (ρ 1))) := by rw [sellR_no drF_lt (by omega), upd_eq]
    have eS : drS ρ = sellR (upd ρ 1 (zN (zN (ρ 1)))) (drF ρ) (nI (drN ρ)) := by unfold drS; rw [if_pos (by rw [← eb]; exact Int32.not_lt.mp c28)]; try rfl
    refine sk_S.aload_n (i := 0) (dd DX8_drawn 28 rfl) rfl rfl ?_
    refine sk_S.callV (dd DX8_drawn 29 rfl) rfl kX8_175 (cM_drawZ (z := (zN (zN (ρ 1)))) e44 e44z) se_54 (by decide) rfl rfl rfl rfl (Nat.le_of_ble_eq_true rfl) (fun r44 h44 q44 => ?_)
    obtain ⟨od, ed, rfl⟩ := q44
    show sk_S _ _ _ _ _ _ (.int _ :: _) _ _
    refine sk_S.bipush (v := 10) (dd DX8_drawn 30 rfl) (by decide) ?_
    refine sk_S.irem (dd DX8_drawn 31 rfl) (by decide) ?_
    rw [rem_10 (by have := (ushr8_dv (zN (zN (zN (ρ 1))))).2; omega)]
    refine sk_S.iast (dd DX8_drawn 32 rfl) se_55 (j := 3) ⟨by decide, by decide, by decide⟩ ?_
    have e52 : sk_u h44 55 3 (nI (dv (zN (zN (zN (ρ 1)))) % 10)) 55 = drR ρ := by rw [sk_u, sk_r_eq, ed]; unfold drR; rw [eS]; try rfl
    refine sk_S.aload_n (i := 0) (dd DX8_drawn 33 rfl) rfl rfl ?_
    refine sk_S.callV (dd DX8_drawn 34 rfl) rfl kX8_171 (cM_tallies (ρ := drR ρ) e52 (boI_cg (drR_no (Or.inl rfl)) hb) (lawI_cg (fun k hk => drR_no (Or.inr (by omega))) hI)) se_54 (by decide) rfl rfl rfl rfl (Nat.le_of_ble_eq_true rfl) (fun r52 h52 q52 => ?_)
    obtain ⟨oe, ee, rfl⟩ := q52
    show sk_S _ _ _ _ _ _ (.int _ :: _) _ _
    refine sk_S.iret (dd DX8_drawn 35 rfl) rfl rfl ?_
    refine ⟨(((((oa.more (S1 := [55, 63, 64]) (by decide)).tr (ob.more (by decide))).tr oc).tr (od.more (by decide))).u (by decide)).tr oe, ee, rfl⟩
set_option maxRecDepth 100000 in
set_option maxHeartbeats 4000000 in
theorem lp_loose {l : Launch} {E : sk_V} {d : Nat} {h : sk_M} {ρ : Nat → Int32} {n : Nat} (hn : n ≤ 30) (hb : boI ρ) (hI : lawI ρ 0) (hJ : lawI ρ 1) : ∀ (m i : Nat) (g : sk_M), i + m = n → sk_o [55, 63, 64] h g → g 55 = looR ρ i → sk_S l E (d + 8) MX8_loose 42 [some (.ref 54), some (.int (nI n)), some (.int (looA ρ i)), some (.int (nI i))] [] g (fun r h1 => sk_o [55, 63, 64] h h1 ∧ h1 55 = looR ρ n ∧ some (.int (looA ρ n)) = r)
  | 0, i, g, hi, ho, hg => by
    have hin : i = n := by omega
    subst hin
    refine sk_S.iload_n (i := 3) (dd DX8_loose 25 rfl) rfl rfl ?_
    refine sk_S.iload_n (i := 1) (dd DX8_loose 26 rfl) rfl rfl ?_
    refine sk_S.icmp_ge (tgt := 60) (dd DX8_loose 27 rfl) (by decide) (fun c44 => ?_) (fun c44 => absurd (Int32.le_refl _) c44)
    refine sk_S.iload_n (i := 2) (dd DX8_loose 35 rfl) rfl rfl ?_
    refine sk_S.iret (dd DX8_loose 36 rfl) rfl rfl ?_
    exact ⟨ho, hg, rfl⟩
  | m + 1, i, g, hi, ho, hg => by
    refine sk_S.iload_n (i := 3) (dd DX8_loose 25 rfl) rfl rfl ?_
    refine sk_S.iload_n (i := 1) (dd DX8_loose 26 rfl) rfl rfl ?_
    refine sk_S.icmp_ge (tgt := 60) (dd DX8_loose 27 rfl) (by decide) (fun c44 => absurd c44 (nI_ge (by omega) (by omega))) (fun c44 => ?_)
    refine sk_S.iload_n (i := 2) (dd DX8_loose 28 rfl) rfl rfl ?_
    refine sk_S.aload_n (i := 0) (dd DX8_loose 29 rfl) rfl rfl ?_
    refine sk_S.callV (dd DX8_loose 30 rfl) rfl kX8_178 (cM_drawn hg (boI_cg (looR_no (Or.inl rfl) i) hb) (lawI_cg (fun k hk => looR_no (Or.inr (by omega)) i) hI) (lawI_cg (fun k hk => looR_no (Or.inr (by omega)) i) hJ)) se_54 (by decide) rfl rfl rfl rfl (Nat.le_of_ble_eq_true rfl) (fun r49 h49 q49 => ?_)
    obtain ⟨o2, e2, rfl⟩ := q49
    show sk_S _ _ _ _ _ _ (.int _ :: _) _ _
    refine sk_S.iadd (dd DX8_loose 31 rfl) ?_
    refine sk_S.istore_n (i := 2) (dd DX8_loose 32 rfl) rfl (Nat.le_of_ble_eq_true rfl) rfl ?_
    refine sk_S.iinc (i := 3) (v := _ + 1) (dd DX8_loose 33 rfl) rfl rfl rfl ?_
    refine sk_S.goto (tgt := 42) (dd DX8_loose 34 rfl) (by decide) ?_
    exact sk_S.L (lp_loose hn hb hI hJ m (i + 1) _ (by omega) (ho.tr o2) e2) (by rw [nI_succ]; rfl)
set_option maxRecDepth 100000 in
set_option maxHeartbeats 4000000 in
theorem cM_loose {l : Launch} {E : sk_V} {d : Nat} {h : sk_M} {x : Int32} (hb : boI (h 55)) (hI : lawI (h 55) 0) (hJ : lawI (h 55) 1) : sk_K l E (d + 8) MX8_loose [.ref 54, .int x] h (fun r h1 => (¬ (1 ≤ x ∧ x ≤ 30) ∧ erM h 1 h1 r) ∨ (∃ n, n ≤ 30 ∧ 1 ≤ n ∧ x = nI n ∧ ((¬ h 55 0 + x ≤ 9999 ∧ erM h 3 h1 r) ∨ (h 55 0 + x ≤ 9999 ∧ sk_o [55, 63, 64] h h1 ∧ h1 55 = looR (h 55) n ∧ some (.int (looA (h 55) n)) = r)))) := by
  refine sk_K.of (by decide +kernel) (Nat.le_of_ble_eq_true rfl) ?_
  show sk_S l E (d + 8) _ 0 [some (.ref 54), some (.int x), none, none] [] h _
  refine sk_S.iload_n (i := 1) (dd DX8_loose 0 rfl) rfl rfl ?_
  refine sk_S.iconst (v := 1) (dd DX8_loose 1 rfl) (by decide) ?_
  refine sk_S.bipush (v := 30) (dd DX8_loose 2 rfl) (by decide) ?_
  refine sk_S.callS (dd DX8_loose 3 rfl) rfl kX8_47 cM_in rfl rfl rfl (Nat.le_of_ble_eq_true rfl) (fun r4 h4 q4 => ?_)
  obtain ⟨rfl, rfl⟩ := q4
  show sk_S _ _ _ _ _ _ (.int _ :: _) _ _
  refine sk_S.bif_ne (tgt := 17) (dd DX8_loose 4 rfl) (by decide) (fun c7 => ?_) (fun c7 => ?_)
  · obtain ⟨n, hn1, hn, rfl⟩ := rg30 c7
    refine sk_S.aload_n (i := 0) (dd DX8_loose 9 rfl) rfl rfl ?_
    refine sk_S.getr (dd DX8_loose 10 rfl) rfl fX8_9 se_54 (by decide) rfl ?_
    refine sk_S.iconst (v := 0) (dd DX8_loose 11 rfl) (by decide) ?_
    refine sk_S.iald (dd DX8_loose 12 rfl) se_55 (j := 0) ⟨by decide, by decide, by decide⟩ ?_
    refine sk_S.iload_n (i := 1) (dd DX8_loose 13 rfl) rfl rfl ?_
    refine sk_S.iadd (dd DX8_loose 14 rfl) ?_
    refine sk_S.sipush (v := 9999) (dd DX8_loose 15 rfl) (by decide) ?_
    refine sk_S.icmp_le (tgt := 38) (dd DX8_loose 16 rfl) (by decide) (fun c28 => ?_) (fun c28 => ?_)
    · refine sk_S.iconst (v := 0) (dd DX8_loose 21 rfl) (by decide) ?_
      refine sk_S.istore_n (i := 2) (dd DX8_loose 22 rfl) rfl (Nat.le_of_ble_eq_true rfl) rfl ?_
      refine sk_S.iconst (v := 0) (dd DX8_loose 23 rfl) (by decide) ?_
      refine sk_S.istore_n (i := 3) (dd DX8_loose 24 rfl) rfl (Nat.le_of_ble_eq_true rfl) rfl ?_
      refine sk_S.mono (lp_loose hn hb hI hJ n 0 h (Nat.zero_add _) sk_o.rf rfl) ?_
      rintro r h1 ⟨q1, q2, q3⟩
      exact Or.inr ⟨n, hn, hn1, rfl, Or.inr ⟨c28, q1, q2, q3⟩⟩
    · refine sk_S.aload_n (i := 0) (dd DX8_loose 17 rfl) rfl rfl ?_
      refine sk_S.ldc (dd DX8_loose 18 rfl) rfl cnX8_100 ?_
      refine sk_S.callV (dd DX8_loose 19 rfl) rfl kX8_74 (cM_error (k := 3) ⟨by decide, by decide, by decide⟩) se_54 (by decide) rfl rfl rfl rfl (Nat.le_of_ble_eq_true rfl) (fun r34 h34 q34 => ?_)
      obtain ⟨rfl, rfl⟩ := q34
      show sk_S _ _ _ _ _ _ (.int _ :: _) _ _
      refine sk_S.iret (dd DX8_loose 20 rfl) rfl rfl ?_
      exact Or.inr ⟨n, hn, hn1, rfl, Or.inl ⟨c28, rfl, rfl⟩⟩
  · refine sk_S.aload_n (i := 0) (dd DX8_loose 5 rfl) rfl rfl ?_
    refine sk_S.ldc (dd DX8_loose 6 rfl) rfl cnX8_73 ?_
    refine sk_S.callV (dd DX8_loose 7 rfl) rfl kX8_74 (cM_error (k := 1) ⟨by decide, by decide, by decide⟩) se_54 (by decide) rfl rfl rfl rfl (Nat.le_of_ble_eq_true rfl) (fun r13 h13 q13 => ?_)
    obtain ⟨rfl, rfl⟩ := q13
    show sk_S _ _ _ _ _ _ (.int _ :: _) _ _
    refine sk_S.iret (dd DX8_loose 8 rfl) rfl rfl ?_
    exact Or.inl ⟨c7, rfl, rfl⟩
set_option maxRecDepth 100000 in
set_option maxHeartbeats 4000000 in
theorem lp_enough {l : Launch} {E : sk_V} {d : Nat} {h : sk_M} {ρ : Nat → Int32} {f n : Int32} (hρ : h 55 = ρ) (hb : boI ρ) (hI : lawI ρ 0) : ∀ (m w : Nat) (g : sk_M) (x : Int32), w + m = 10 → sk_o [55, 63, 64] h g → g 55 = upd ρ 3 x → sk_S l E (d + 5) MX8_enough 13 [some (.ref 54), some (.int f), some (.int n), some (.int (ρ 3)), some (.int (nI (cntN (enP ρ f n) w))), some (.int (nI w))] [] g (fun r h1 => sk_o [63, 64] h h1 ∧ some (.int (nI (cntN (enP ρ f n) 10))) = r)
  | 0, w, g, x, hw, ho, hg => by
    have hwn : w = 10 := by omega
    subst hwn
    refine sk_S.iload (i := 5) (dd DX8_enough 9 rfl) rfl ?_
    refine sk_S.bipush (v := 10) (dd DX8_enough 10 rfl) (by decide) ?_
    refine sk_S.icmp_ge (tgt := 54) (dd DX8_enough 11 rfl) (by decide) (fun c17 => ?_) (fun c17 => absurd (by decide) c17)
    refine sk_S.aload_n (i := 0) (dd DX8_enough 31 rfl) rfl rfl ?_
    refine sk_S.getr (dd DX8_enough 32 rfl) rfl fX8_9 se_54 (by decide) rfl ?_
    refine sk_S.iconst (v := 3) (dd DX8_enough 33 rfl) (by decide) ?_
    refine sk_S.iload_n (i := 3) (dd DX8_enough 34 rfl) rfl rfl ?_
    refine sk_S.iast (dd DX8_enough 35 rfl) se_55 (j := 3) ⟨by decide, by decide, by decide⟩ ?_
    refine sk_S.iload (i := 4) (dd DX8_enough 36 rfl) rfl ?_
    refine sk_S.iret (dd DX8_enough 37 rfl) rfl rfl ?_
    refine ⟨back_o (ho.u (by decide)) ?_, rfl⟩
    rw [sk_u, sk_r_eq, hg, upd_upd, upd_self, hρ]
  | m + 1, w, g, x, hw, ho, hg => by
    refine sk_S.iload (i := 5) (dd DX8_enough 9 rfl) rfl ?_
    refine sk_S.bipush (v := 10) (dd DX8_enough 10 rfl) (by decide) ?_
    refine sk_S.icmp_ge (tgt := 54) (dd DX8_enough 11 rfl) (by decide) (fun c17 => absurd c17 (nI_ge (b := 10) (by omega) (by decide))) (fun c17 => ?_)
    refine sk_S.aload_n (i := 0) (dd DX8_enough 12 rfl) rfl rfl ?_
    refine sk_S.getr (dd DX8_enough 13 rfl) rfl fX8_9 se_54 (by decide) rfl ?_
    refine sk_S.iconst (v := 3) (dd DX8_enough 14 rfl) (by decide) ?_
    refine sk_S.iload (i := 5) (dd DX8_enough 15 rfl) rfl ?_
    refine sk_S.iast (dd DX8_enough 16 rfl) se_55 (j := 3) ⟨by decide, by decide, by decide⟩ ?_
    have e55 : sk_u g 55 3 (nI w) 55 = upd ρ 3 (nI w) := by rw [sk_u, sk_r_eq, hg, upd_upd]
    refine sk_S.iload (i := 4) (dd DX8_enough 17 rfl) rfl ?_
    refine sk_S.aload_n (i := 0) (dd DX8_enough 18 rfl) rfl rfl ?_
    refine sk_S.iload_n (i := 1) (dd DX8_enough 19 rfl) rfl rfl ?_
    refine sk_S.iload_n (i := 2) (dd DX8_enough 20 rfl) rfl rfl ?_
    refine sk_S.callV (dd DX8_enough 21 rfl) rfl kX8_66 (cM_catchBy e55 (boI_cg (upd_ne (by decide)) hb) (lawI_cg (fun k hk => upd_ne (by omega)) hI)) se_54 (by decide) rfl rfl rfl rfl (Nat.le_of_ble_eq_true rfl) (fun r33 h33 q33 => ?_)
    obtain ⟨o2, rfl⟩ := q33
    rw [catchG_w]
    show sk_S _ _ _ _ _ _ (.int _ :: _) _ _
    refine sk_S.iload_n (i := 2) (dd DX8_enough 22 rfl) rfl rfl ?_
    refine sk_S.icmp_lt (tgt := 44) (dd DX8_enough 23 rfl) (by decide) (fun c37 => ?_) (fun c37 => ?_)
    · refine sk_S.iconst (v := 0) (dd DX8_enough 26 rfl) (by decide) ?_
      refine sk_S.iadd (dd DX8_enough 27 rfl) ?_
      refine sk_S.istore (i := 4) (dd DX8_enough 28 rfl) (Nat.le_of_ble_eq_true rfl) rfl ?_
      refine sk_S.iinc (i := 5) (v := _ + 1) (dd DX8_enough 29 rfl) rfl rfl rfl ?_
      refine sk_S.goto (tgt := 13) (dd DX8_enough 30 rfl) (by decide) ?_
      refine sk_S.L (lp_enough hρ hb hI m (w + 1) _ (nI w) (by omega) ((ho.u (by decide)).tr (o2.more (by decide))) ((o2 55 (by decide)).trans e55)) ?_
      have e9 : cntN (enP ρ f n) (w + 1) = cntN (enP ρ f n) w + 0 := by
        show cntN (enP ρ f n) w + (if _ then 1 else 0) = _
        rw [if_neg (by unfold enP; rw [decide_eq_true_iff, Int32.not_le]; exact c37)]
      rw [e9, ← nI_add (cntN (enP ρ f n) w), nI_succ w]; rfl
    · refine sk_S.iconst (v := 1) (dd DX8_enough 24 rfl) (by decide) ?_
      refine sk_S.goto (tgt := 45) (dd DX8_enough 25 rfl) (by decide) ?_
      refine sk_S.iadd (dd DX8_enough 27 rfl) ?_
      refine sk_S.istore (i := 4) (dd DX8_enough 28 rfl) (Nat.le_of_ble_eq_true rfl) rfl ?_
      refine sk_S.iinc (i := 5) (v := _ + 1) (dd DX8_enough 29 rfl) rfl rfl rfl ?_
      refine sk_S.goto (tgt := 13) (dd DX8_enough 30 rfl) (by decide) ?_
      refine sk_S.L (lp_enough hρ hb hI m (w + 1) _ (nI w) (by omega) ((ho.u (by decide)).tr (o2.more (by decide))) ((o2 55 (by decide)).trans e55)) ?_
      have e9 : cntN (enP ρ f n) (w + 1) = cntN (enP ρ f n) w + 1 := by
        show cntN (enP ρ f n) w + (if _ then 1 else 0) = _
        rw [if_pos (by unfold enP; rw [decide_eq_true_iff, ← Int32.not_lt]; exact c37)]
      rw [e9, ← nI_add (cntN (enP ρ f n) w), nI_succ w]; rfl
set_option maxRecDepth 100000 in
set_option maxHeartbeats 4000000 in
theorem cM_enough {l : Launch} {E : sk_V} {d : Nat} {h : sk_M} {ρ : Nat → Int32} {f n : Int32} (hρ : h 55 = ρ) (hb : boI ρ) (hI : lawI ρ 0) : sk_K l E (d + 5) MX8_enough [.ref 54, .int f, .int n] h (fun r h1 => sk_o [63, 64] h h1 ∧ some (.int (nI (cntN (enP ρ f n) 10))) = r) := by
  refine sk_K.of (by decide +kernel) (Nat.le_of_ble_eq_true rfl) ?_
  show sk_S l E (d + 5) _ 0 [some (.ref 54), some (.int f), some (.int n), none, none, none] [] h _
  refine sk_S.aload_n (i := 0) (dd DX8_enough 0 rfl) rfl rfl ?_
  refine sk_S.getr (dd DX8_enough 1 rfl) rfl fX8_9 se_54 (by decide) rfl ?_
  refine sk_S.iconst (v := 3) (dd DX8_enough 2 rfl) (by decide) ?_
  refine sk_S.iald (dd DX8_enough 3 rfl) se_55 (j := 3) ⟨by decide, by decide, by decide⟩ ?_
  refine sk_S.istore_n (i := 3) (dd DX8_enough 4 rfl) rfl (Nat.le_of_ble_eq_true rfl) rfl ?_
  refine sk_S.iconst (v := 0) (dd DX8_enough 5 rfl) (by decide) ?_
  refine sk_S.istore (i := 4) (dd DX8_enough 6 rfl) (Nat.le_of_ble_eq_true rfl) rfl ?_
  refine sk_S.iconst (v := 0) (dd DX8_enough 7 rfl) (by decide) ?_
  refine sk_S.istore (i := 5) (dd DX8_enough 8 rfl) (Nat.le_of_ble_eq_true rfl) rfl ?_
  refine sk_S.L (lp_enough hρ hb hI 10 0 h (ρ 3) rfl sk_o.rf (hρ.trans upd_self.symm)) ?_
  rw [hρ]; rfl
set_option maxRecDepth 100000 in
set_option maxHeartbeats 4000000 in
theorem lp_shortest {l : Launch} {E : sk_V} {d : Nat} {h : sk_M} {ρ : Nat → Int32} {f n : Int32} (hρ : h 55 = ρ) (hb : boI ρ) (hI : lawI ρ 0) : ∀ (m w : Nat) (g : sk_M) (x : Int32), w + m = 10 → sk_o [55, 63, 64] h g → g 55 = upd ρ 3 x → sk_S l E (d + 6) MX8_shortest 13 [some (.ref 54), some (.int f), some (.int n), some (.int (ρ 3)), some (.int (sumN (shW ρ f n) w)), some (.int (nI w))] [] g (fun r h1 => sk_o [63, 64] h h1 ∧ some (.int (sumN (shW ρ f n) 10)) = r)
  | 0, w, g, x, hw, ho, hg => by
    have hwn : w = 10 := by omega
    subst hwn
    refine sk_S.iload (i := 5) (dd DX8_shortest 9 rfl) rfl ?_
    refine sk_S.bipush (v := 10) (dd DX8_shortest 10 rfl) (by decide) ?_
    refine sk_S.icmp_ge (tgt := 45) (dd DX8_shortest 11 rfl) (by decide) (fun c17 => ?_) (fun c17 => absurd (by decide) c17)
    refine sk_S.aload_n (i := 0) (dd DX8_shortest 26 rfl) rfl rfl ?_
    refine sk_S.getr (dd DX8_shortest 27 rfl) rfl fX8_9 se_54 (by decide) rfl ?_
    refine sk_S.iconst (v := 3) (dd DX8_shortest 28 rfl) (by decide) ?_
    refine sk_S.iload_n (i := 3) (dd DX8_shortest 29 rfl) rfl rfl ?_
    refine sk_S.iast (dd DX8_shortest 30 rfl) se_55 (j := 3) ⟨by decide, by decide, by decide⟩ ?_
    refine sk_S.iload (i := 4) (dd DX8_shortest 31 rfl) rfl ?_
    refine sk_S.iret (dd DX8_shortest 32 rfl) rfl rfl ?_
    refine ⟨back_o (ho.u (by decide)) ?_, rfl⟩
    rw [sk_u, sk_r_eq, hg, upd_upd, upd_self, hρ]
  | m + 1, w, g, x, hw, ho, hg => by
    refine sk_S.iload (i := 5) (dd DX8_shortest 9 rfl) rfl ?_
    refine sk_S.bipush (v := 10) (dd DX8_shortest 10 rfl) (by decide) ?_
    refine sk_S.icmp_ge (tgt := 45) (dd DX8_shortest 11 rfl) (by decide) (fun c17 => absurd c17 (nI_ge (b := 10) (by omega) (by decide))) (fun c17 => ?_)
    refine sk_S.aload_n (i := 0) (dd DX8_shortest 12 rfl) rfl rfl ?_
    refine sk_S.getr (dd DX8_shortest 13 rfl) rfl fX8_9 se_54 (by decide) rfl ?_
    refine sk_S.iconst (v := 3) (dd DX8_shortest 14 rfl) (by decide) ?_
    refine sk_S.iload (i := 5) (dd DX8_shortest 15 rfl) rfl ?_
    refine sk_S.iast (dd DX8_shortest 16 rfl) se_55 (j := 3) ⟨by decide, by decide, by decide⟩ ?_
    have e55 : sk_u g 55 3 (nI w) 55 = upd ρ 3 (nI w) := by rw [sk_u, sk_r_eq, hg, upd_upd]
    refine sk_S.iload (i := 4) (dd DX8_shortest 17 rfl) rfl ?_
    refine sk_S.aload_n (i := 0) (dd DX8_shortest 18 rfl) rfl rfl ?_
    refine sk_S.iload_n (i := 1) (dd DX8_shortest 19 rfl) rfl rfl ?_
    refine sk_S.iload_n (i := 2) (dd DX8_shortest 20 rfl) rfl rfl ?_
    refine sk_S.callV (dd DX8_shortest 21 rfl) rfl kX8_165 (cM_shortBy e55 (boI_cg (upd_ne (by decide)) hb) (lawI_cg (fun k hk => upd_ne (by omega)) hI)) se_54 (by decide) rfl rfl rfl rfl (Nat.le_of_ble_eq_true rfl) (fun r33 h33 q33 => ?_)
    obtain ⟨o2, rfl⟩ := q33
    rw [shortG_w]
    show sk_S _ _ _ _ _ _ (.int _ :: _) _ _
    refine sk_S.iadd (dd DX8_shortest 22 rfl) ?_
    refine sk_S.istore (i := 4) (dd DX8_shortest 23 rfl) (Nat.le_of_ble_eq_true rfl) rfl ?_
    refine sk_S.iinc (i := 5) (v := _ + 1) (dd DX8_shortest 24 rfl) rfl rfl rfl ?_
    refine sk_S.goto (tgt := 13) (dd DX8_shortest 25 rfl) (by decide) ?_
    exact sk_S.L (lp_shortest hρ hb hI m (w + 1) _ (nI w) (by omega) ((ho.u (by decide)).tr (o2.more (by decide))) ((o2 55 (by decide)).trans e55)) (by rw [nI_succ]; rfl)
set_option maxRecDepth 100000 in
set_option maxHeartbeats 4000000 in
theorem cM_shortest {l : Launch} {E : sk_V} {d : Nat} {h : sk_M} {ρ : Nat → Int32} {f n : Int32} (hρ : h 55 = ρ) (hb : boI ρ) (hI : lawI ρ 0) : sk_K l E (d + 6) MX8_shortest [.ref 54, .int f, .int n] h (fun r h1 => sk_o [63, 64] h h1 ∧ some (.int (sumN (shW ρ f n) 10)) = r) := by
  refine sk_K.of (by decide +kernel) (Nat.le_of_ble_eq_true rfl) ?_
  show sk_S l E (d + 6) _ 0 [some (.ref 54), some (.int f), some (.int n), none, none, none] [] h _
  refine sk_S.aload_n (i := 0) (dd DX8_shortest 0 rfl) rfl rfl ?_
  refine sk_S.getr (dd DX8_shortest 1 rfl) rfl fX8_9 se_54 (by decide) rfl ?_
  refine sk_S.iconst (v := 3) (dd DX8_shortest 2 rfl) (by decide) ?_
  refine sk_S.iald (dd DX8_shortest 3 rfl) se_55 (j := 3) ⟨by decide, by decide, by decide⟩ ?_
  refine sk_S.istore_n (i := 3) (dd DX8_shortest 4 rfl) rfl (Nat.le_of_ble_eq_true rfl) rfl ?_
  refine sk_S.iconst (v := 0) (dd DX8_shortest 5 rfl) (by decide) ?_
  refine sk_S.istore (i := 4) (dd DX8_shortest 6 rfl) (Nat.le_of_ble_eq_true rfl) rfl ?_
  refine sk_S.iconst (v := 0) (dd DX8_shortest 7 rfl) (by decide) ?_
  refine sk_S.istore (i := 5) (dd DX8_shortest 8 rfl) (Nat.le_of_ble_eq_true rfl) rfl ?_
  refine sk_S.L (lp_shortest hρ hb hI 10 0 h (ρ 3) rfl sk_o.rf (hρ.trans upd_self.symm)) ?_
  rw [hρ]; rfl
set_option maxRecDepth 100000 in
set_option maxHeartbeats 4000000 in
theorem lp_safe {l : Launch} {E : sk_V} {d : Nat} {h : sk_M} {ρ : Nat → Int32} {f : Int32} (hρ : h 55 = ρ) (hb : boI ρ) (hI : lawI ρ 0) : ∀ (n : Nat) (g : sk_M), n ≤ 99 → sk_o [63, 64] h g → sk_S l E (d + 6) MX8_safe 17 [some (.ref 54), some (.int f), some (.int (nI n))] [] g (fun r h1 => sk_o [63, 64] h h1 ∧ some (.int (nI (safeN ρ f n))) = r)
  | 0, g, hn, ho => by
    refine sk_S.iload_n (i := 2) (dd DX8_safe 9 rfl) rfl rfl ?_
    refine sk_S.if_le (tgt := 38) (dd DX8_safe 10 rfl) (by decide) (fun c18 => ?_) (fun c18 => absurd (by decide) c18)
    refine sk_S.iload_n (i := 2) (dd DX8_safe 19 rfl) rfl rfl ?_
    refine sk_S.iret (dd DX8_safe 20 rfl) rfl rfl ?_
    exact ⟨ho, rfl⟩
  | n + 1, g, hn, ho => by
    have e55 : g 55 = ρ := (ho 55 (by decide)).trans hρ
    have hc := cntN_le (enP ρ f (nI (n + 1))) 10
    refine sk_S.iload_n (i := 2) (dd DX8_safe 9 rfl) rfl rfl ?_
    refine sk_S.if_le (tgt := 38) (dd DX8_safe 10 rfl) (by decide) (fun c18 => absurd c18 (nI_nle (by omega) (by omega))) (fun c18 => ?_)
    refine sk_S.aload_n (i := 0) (dd DX8_safe 11 rfl) rfl rfl ?_
    refine sk_S.iload_n (i := 1) (dd DX8_safe 12 rfl) rfl rfl ?_
    refine sk_S.iload_n (i := 2) (dd DX8_safe 13 rfl) rfl rfl ?_
    refine sk_S.callV (dd DX8_safe 14 rfl) rfl kX8_184 (cM_enough e55 hb hI) se_54 (by decide) rfl rfl rfl rfl (Nat.le_of_ble_eq_true rfl) (fun r24 h24 q24 => ?_)
    obtain ⟨o2, rfl⟩ := q24
    show sk_S _ _ _ _ _ _ (.int _ :: _) _ _
    refine sk_S.bipush (v := 10) (dd DX8_safe 15 rfl) (by decide) ?_
    refine sk_S.icmp_ge (tgt := 38) (dd DX8_safe 16 rfl) (by decide) (fun c29 => ?_) (fun c29 => ?_)
    · refine sk_S.iload_n (i := 2) (dd DX8_safe 19 rfl) rfl rfl ?_
      refine sk_S.iret (dd DX8_safe 20 rfl) rfl rfl ?_
      have e9 : cntN (enP ρ f (nI (n + 1))) 10 = 10 := by
        have h2 : nI 10 ≤ nI (cntN (enP ρ f (nI (n + 1))) 10) := c29
        rw [nI_leI (by decide) (by omega)] at h2
        omega
      refine ⟨ho.tr o2, ?_⟩
      show some (Value.int (nI (if _ then _ else _))) = _
      rw [if_pos e9]
    · refine sk_S.iinc (i := 2) (v := _ - 1) (dd DX8_safe 17 rfl) rfl iinc_m1 rfl ?_
      refine sk_S.goto (tgt := 17) (dd DX8_safe 18 rfl) (by decide) ?_
      have e9 : safeN ρ f (n + 1) = safeN ρ f n := by
        show (if _ then _ else _) = _
        rw [if_neg]
        intro q
        apply c29
        rw [q]
        decide
      rw [e9]
      exact sk_S.L (lp_safe hρ hb hI n _ (by omega) (ho.tr o2)) (by rw [← nI_pred n]; rfl)
set_option maxRecDepth 100000 in
set_option maxHeartbeats 4000000 in
theorem cM_safe {l : Launch} {E : sk_V} {d : Nat} {h : sk_M} {f : Int32} (hb : boI (h 55)) (hI : lawI (h 55) 0) : sk_K l E (d + 6) MX8_safe [.ref 54, .int f] h (fun r h1 => (¬ inN f 4 ∧ erM h 1 h1 r) ∨ (inN f 4 ∧ sk_o [63, 64] h h1 ∧ some (.int (nI (safeN (h 55) f 99))) = r)) := by
  refine sk_K.of (by decide +kernel) (Nat.le_of_ble_eq_true rfl) ?_
  show sk_S l E (d + 6) _ 0 [some (.ref 54), some (.int f), none] [] h _
  refine sk_S.iload_n (i := 1) (dd DX8_safe 0 rfl) rfl rfl ?_
  refine sk_S.callS (dd DX8_safe 1 rfl) rfl kX8_89 cM_isFish rfl rfl rfl (Nat.le_of_ble_eq_true rfl) (fun r1 h1 q1 => ?_)
  obtain ⟨rfl, rfl⟩ := q1
  show sk_S _ _ _ _ _ _ (.int _ :: _) _ _
  refine sk_S.bif_ne (tgt := 14) (dd DX8_safe 2 rfl) (by decide) (fun c4 => ?_) (fun c4 => ?_)
  · refine sk_S.bipush (v := 99) (dd DX8_safe 7 rfl) (by decide) ?_
    refine sk_S.istore_n (i := 2) (dd DX8_safe 8 rfl) rfl (Nat.le_of_ble_eq_true rfl) rfl ?_
    refine sk_S.mono (lp_safe rfl hb hI 99 h (by omega) sk_o.rf) ?_
    rintro r h1 ⟨q1, q2⟩
    exact Or.inr ⟨(inN_le (by decide)).mp c4, q1, q2⟩
  · refine sk_S.aload_n (i := 0) (dd DX8_safe 3 rfl) rfl rfl ?_
    refine sk_S.ldc (dd DX8_safe 4 rfl) rfl cnX8_73 ?_
    refine sk_S.callV (dd DX8_safe 5 rfl) rfl kX8_74 (cM_error (k := 1) ⟨by decide, by decide, by decide⟩) se_54 (by decide) rfl rfl rfl rfl (Nat.le_of_ble_eq_true rfl) (fun r10 h10 q10 => ?_)
    obtain ⟨rfl, rfl⟩ := q10
    show sk_S _ _ _ _ _ _ (.int _ :: _) _ _
    refine sk_S.iret (dd DX8_safe 6 rfl) rfl rfl ?_
    exact Or.inl ⟨fun q => c4 ((inN_le (by decide)).mpr q), rfl, rfl⟩
end M7
end
section
section SPEC8
/-- how much a number sold would bring -/
def gainG (g : Nat → Int32) (j n : Nat) : Int32 := 10 * nI n * coinsG g j 0 - 2 * g (13 + j) * sumN (shW g (nI j) (nI n)) 10
def bstG (g : Nat → Int32) (j : Nat) : Nat → Int32 × Int32
  | 0 => (0, 0)
  | n + 1 => if n = 0 ∨ (bstG g j n).2 < gainG g j n then (nI n, gainG g j n) else bstG g j n
/-- which numbers agree with themselves -/
def agP (g : Nat → Int32) (f : Int32) (n : Nat) : Bool := decide (catchG g f (nI n) (g 3) (g 0) = nI n)
/-- the least number from k on, below 100, for which p holds; -1: none (counted from above: k = 100 - m) -/
def lstN (p : Nat → Bool) : Nat → Int32
  | 0 => -1
  | m + 1 => if p (99 - m) = true then nI (99 - m) else lstN p m
def cntD (p : Nat → Bool) : Nat → Nat
  | 0 => 0
  | m + 1 => cntD p m + (if p (99 - m) = true then 1 else 0)
theorem cntD_le (p : Nat → Bool) : ∀ m, cntD p m ≤ m
  | 0 => Nat.le_refl _
  | m + 1 => by
    have ih := cntD_le p m
    unfold cntD
    split <;> omega
/-- the as of a kind -/
def asV (k i : Int32) : Prop := k = 0 ∨ k = i ∨ (k = 1 ∧ i = 4) ∨ (k = 2 ∧ i = 5)
def isV (g : Nat → Int32) (j w : Nat) : Int32 := if w < 3 then g (17 + 3 * j + w) else if w = 3 then eatsV (g (17 + 3 * j)) (g 0) else landsG g j (nI (w - 4)) (g (9 + (w - 4))) (g 3) (g 0)
theorem div_nI {a b : Nat} (ha : a < 2 ^ 31) (hb0 : 0 < b) (hb : b < 2 ^ 31) : nI a / nI b = nI (a / b) := pk_div ha hb0 hb
theorem gcd_step {a b : Nat} (h : 0 < a) : Nat.gcd (b % a) a = Nat.gcd a b := by
  rw [Nat.gcd_rec a b]
end SPEC8
section SPEC8B
theorem i3lt {i : Nat} (hi : i < 100) (c : ¬ 3 ≤ nI i) : i < 3 := by
  apply Decidable.byContradiction
  intro q
  exact c (nI_le (a := 3) (by omega) (by omega))
theorem i3ge {i : Nat} (hi : i < 100) (c : 3 ≤ nI i) : ¬ i < 3 := by
  have h1 : nI 3 ≤ nI i := c
  rw [nI_leI (by decide) (by omega)] at h1
  omega
theorem i3eq {i : Nat} (hi : i < 100) (c : nI i = 3) : i = 3 := (nI_eq (by omega) (by decide)).mp c
theorem i3ne {i : Nat} (c : ¬ nI i = 3) : ¬ i = 3 := fun q => c (by rw [q]; rfl)
end SPEC8B
end
section
section M8
set_option maxRecDepth 100000 in
set_option maxHeartbeats 4000000 in
theorem cM_as {l : Launch} {E : sk_V} {d : Nat} {h : sk_M} {b k : Int32} (hb : boI (h 55)) : sk_K l E (d + 2) MX8_as [.ref 54, .int b, .int k] h (fun r h1 => (¬ (inN b (boN (h 55)) ∧ inN k 7) ∧ erM h 1 h1 r) ∨ (∃ j, j < boN (h 55) ∧ b = nI j ∧ inN k 7 ∧ ((asV k (h 55 (17 + 3 * j)) ∧ h = h1 ∧ some (.int (h 55 (17 + 3 * j + 1))) = r) ∨ (¬ asV k (h 55 (17 + 3 * j)) ∧ erM h 5 h1 r)))) := by
  refine sk_K.of (by decide +kernel) (Nat.le_of_ble_eq_true rfl) ?_
  show sk_S l E (d + 2) _ 0 [some (.ref 54), some (.int b), some (.int k), none, none] [] h _
  refine sk_S.aload_n (i := 0) (dd DX8_as 0 rfl) rfl rfl ?_
  refine sk_S.iload_n (i := 1) (dd DX8_as 1 rfl) rfl rfl ?_
  refine sk_S.callV (dd DX8_as 2 rfl) rfl kX8_79 cM_isBoat se_54 (by decide) rfl rfl rfl rfl (Nat.le_of_ble_eq_true rfl) (fun r2 h2 q2 => ?_)
  obtain ⟨rfl, rfl⟩ := q2
  show sk_S _ _ _ _ _ _ (.int _ :: _) _ _
  refine sk_S.bif_eq (tgt := 18) (dd DX8_as 3 rfl) (by decide) (fun c5 => ?_) (fun c5 => ?_)
  · refine sk_S.aload_n (i := 0) (dd DX8_as 9 rfl) rfl rfl ?_
    refine sk_S.ldc (dd DX8_as 10 rfl) rfl cnX8_73 ?_
    refine sk_S.callV (dd DX8_as 11 rfl) rfl kX8_74 (cM_error (k := 1) ⟨by decide, by decide, by decide⟩) se_54 (by decide) rfl rfl rfl rfl (Nat.le_of_ble_eq_true rfl) (fun r21 h21 q21 => ?_)
    obtain ⟨rfl, rfl⟩ := q21
    show sk_S _ _ _ _ _ _ (.int _ :: _) _ _
    refine sk_S.iret (dd DX8_as 12 rfl) rfl rfl ?_
    exact Or.inl ⟨fun q => c5 (by rw [hb.1]; exact (inN_pred (by have := hb.2; omega)).mpr q.1), rfl, rfl⟩
  · refine sk_S.iload_n (i := 2) (dd DX8_as 4 rfl) rfl rfl ?_
    refine sk_S.iconst (v := 0) (dd DX8_as 5 rfl) (by decide) ?_
    refine sk_S.bipush (v := 6) (dd DX8_as 6 rfl) (by decide) ?_
    refine sk_S.callS (dd DX8_as 7 rfl) rfl kX8_47 cM_in rfl rfl rfl (Nat.le_of_ble_eq_true rfl) (fun r12 h12 q12 => ?_)
    obtain ⟨rfl, rfl⟩ := q12
    show sk_S _ _ _ _ _ _ (.int _ :: _) _ _
    refine sk_S.bif_ne (tgt := 25) (dd DX8_as 8 rfl) (by decide) (fun c15 => ?_) (fun c15 => ?_)
    · rw [hb.1] at c5
      obtain ⟨j, hj, rfl⟩ := (inN_pred (by have := hb.2; omega)).mp c5
      have hb6 := hb.2
      refine sk_S.aload_n (i := 0) (dd DX8_as 13 rfl) rfl rfl ?_
      refine sk_S.iload_n (i := 1) (dd DX8_as 14 rfl) rfl rfl ?_
      refine sk_S.iconst (v := 0) (dd DX8_as 15 rfl) (by decide) ?_
      refine sk_S.callV (dd DX8_as 16 rfl) rfl kX8_51 (cM_of (j := j) (w := 0) (by omega)) se_54 (by decide) rfl rfl rfl rfl (Nat.le_of_ble_eq_true rfl) (fun r28 h28 q28 => ?_)
      obtain ⟨rfl, rfl⟩ := q28
      show sk_S _ _ _ _ _ _ (.int _ :: _) _ _
      refine sk_S.istore_n (i := 3) (dd DX8_as 17 rfl) rfl (Nat.le_of_ble_eq_true rfl) rfl ?_
      refine sk_S.iload_n (i := 2) (dd DX8_as 18 rfl) rfl rfl ?_
      refine sk_S.if_eq (tgt := 61) (dd DX8_as 19 rfl) (by decide) (fun c33 => ?_) (fun c33 => ?_)
      · refine sk_S.iconst (v := 1) (dd DX8_as 35 rfl) (by decide) ?_
        refine sk_S.goto (tgt := 66) (dd DX8_as 36 rfl) (by decide) ?_
        refine sk_S.istore (i := 4) (dd DX8_as 38 rfl) (Nat.le_of_ble_eq_true rfl) rfl ?_
        refine sk_S.iload (i := 4) (dd DX8_as 39 rfl) rfl ?_
        refine sk_S.if_eq (tgt := 82) (dd DX8_as 40 rfl) (by decide) (fun c70 => absurd c70 (by decide)) (fun c70 => ?_)
        refine sk_S.aload_n (i := 0) (dd DX8_as 41 rfl) rfl rfl ?_
        refine sk_S.iload_n (i := 1) (dd DX8_as 42 rfl) rfl rfl ?_
        refine sk_S.iconst (v := 1) (dd DX8_as 43 rfl) (by decide) ?_
        refine sk_S.callV (dd DX8_as 44 rfl) rfl kX8_51 (cM_of (j := j) (w := 1) (by omega)) se_54 (by decide) rfl rfl rfl rfl (Nat.le_of_ble_eq_true rfl) (fun r76 h76 q76 => ?_)
        obtain ⟨rfl, rfl⟩ := q76
        show sk_S _ _ _ _ _ _ (.int _ :: _) _ _
        refine sk_S.goto (tgt := 88) (dd DX8_as 45 rfl) (by decide) ?_
        refine sk_S.iret (dd DX8_as 49 rfl) rfl rfl ?_
        exact Or.inr ⟨j, hj, rfl, (inN_le (by decide)).mp c15, Or.inl ⟨Or.inl c33, rfl, rfl⟩⟩
      · refine sk_S.iload_n (i := 2) (dd DX8_as 20 rfl) rfl rfl ?_
        refine sk_S.iload_n (i := 3) (dd DX8_as 21 rfl) rfl rfl ?_
        refine sk_S.icmp_eq (tgt := 61) (dd DX8_as 22 rfl) (by decide) (fun c38 => ?_) (fun c38 => ?_)
        · refine sk_S.iconst (v := 1) (dd DX8_as 35 rfl) (by decide) ?_
          refine sk_S.goto (tgt := 66) (dd DX8_as 36 rfl) (by decide) ?_
          refine sk_S.istore (i := 4) (dd DX8_as 38 rfl) (Nat.le_of_ble_eq_true rfl) rfl ?_
          refine sk_S.iload (i := 4) (dd DX8_as 39 rfl) rfl ?_
          refine sk_S.if_eq (tgt := 82) (dd DX8_as 40 rfl) (by decide) (fun c70 => absurd c70 (by decide)) (fun c70 => ?_)
          refine sk_S.aload_n (i := 0) (dd DX8_as 41 rfl) rfl rfl ?_
          refine sk_S.iload_n (i := 1) (dd DX8_as 42 rfl) rfl rfl ?_
          refine sk_S.iconst (v := 1) (dd DX8_as 43 rfl) (by decide) ?_
          refine sk_S.callV (dd DX8_as 44 rfl) rfl kX8_51 (cM_of (j := j) (w := 1) (by omega)) se_54 (by decide) rfl rfl rfl rfl (Nat.le_of_ble_eq_true rfl) (fun r76 h76 q76 => ?_)
          obtain ⟨rfl, rfl⟩ := q76
          show sk_S _ _ _ _ _ _ (.int _ :: _) _ _
          refine sk_S.goto (tgt := 88) (dd DX8_as 45 rfl) (by decide) ?_
          refine sk_S.iret (dd DX8_as 49 rfl) rfl rfl ?_
          exact Or.inr ⟨j, hj, rfl, (inN_le (by decide)).mp c15, Or.inl ⟨Or.inr (Or.inl c38), rfl, rfl⟩⟩
        · refine sk_S.iload_n (i := 2) (dd DX8_as 23 rfl) rfl rfl ?_
          refine sk_S.iconst (v := 1) (dd DX8_as 24 rfl) (by decide) ?_
          refine sk_S.icmp_ne (tgt := 51) (dd DX8_as 25 rfl) (by decide) (fun c43 => ?_) (fun c43 => ?_)
          · refine sk_S.iload_n (i := 2) (dd DX8_as 29 rfl) rfl rfl ?_
            refine sk_S.iconst (v := 2) (dd DX8_as 30 rfl) (by decide) ?_
            refine sk_S.icmp_ne (tgt := 65) (dd DX8_as 31 rfl) (by decide) (fun c53 => ?_) (fun c53 => ?_)
            · refine sk_S.iconst (v := 0) (dd DX8_as 37 rfl) (by decide) ?_
              refine sk_S.istore (i := 4) (dd DX8_as 38 rfl) (Nat.le_of_ble_eq_true rfl) rfl ?_
              refine sk_S.iload (i := 4) (dd DX8_as 39 rfl) rfl ?_
              refine sk_S.if_eq (tgt := 82) (dd DX8_as 40 rfl) (by decide) (fun c70 => ?_) (fun c70 => absurd rfl c70)
              refine sk_S.aload_n (i := 0) (dd DX8_as 46 rfl) rfl rfl ?_
              refine sk_S.ldc (dd DX8_as 47 rfl) rfl cnX8_88 ?_
              refine sk_S.callV (dd DX8_as 48 rfl) rfl kX8_74 (cM_error (k := 5) ⟨by decide, by decide, by decide⟩) se_54 (by decide) rfl rfl rfl rfl (Nat.le_of_ble_eq_true rfl) (fun r85 h85 q85 => ?_)
              obtain ⟨rfl, rfl⟩ := q85
              show sk_S _ _ _ _ _ _ (.int _ :: _) _ _
              refine sk_S.iret (dd DX8_as 49 rfl) rfl rfl ?_
              refine Or.inr ⟨j, hj, rfl, (inN_le (by decide)).mp c15, Or.inr ⟨?_, rfl, rfl⟩⟩
              rintro (q | q | ⟨q1, q2⟩ | ⟨q1, q2⟩)
              · exact c33 q
              · exact c38 q
              · exact c43 q1
              · exact c53 q1
            · refine sk_S.iload_n (i := 3) (dd DX8_as 32 rfl) rfl rfl ?_
              refine sk_S.iconst (v := 5) (dd DX8_as 33 rfl) (by decide) ?_
              refine sk_S.icmp_ne (tgt := 65) (dd DX8_as 34 rfl) (by decide) (fun c58 => ?_) (fun c58 => ?_)
              · refine sk_S.iconst (v := 0) (dd DX8_as 37 rfl) (by decide) ?_
                refine sk_S.istore (i := 4) (dd DX8_as 38 rfl) (Nat.le_of_ble_eq_true rfl) rfl ?_
                refine sk_S.iload (i := 4) (dd DX8_as 39 rfl) rfl ?_
                refine sk_S.if_eq (tgt := 82) (dd DX8_as 40 rfl) (by decide) (fun c70 => ?_) (fun c70 => absurd rfl c70)
                refine sk_S.aload_n (i := 0) (dd DX8_as 46 rfl) rfl rfl ?_
                refine sk_S.ldc (dd DX8_as 47 rfl) rfl cnX8_88 ?_
                refine sk_S.callV (dd DX8_as 48 rfl) rfl kX8_74 (cM_error (k := 5) ⟨by decide, by decide, by decide⟩) se_54 (by decide) rfl rfl rfl rfl (Nat.le_of_ble_eq_true rfl) (fun r85 h85 q85 => ?_)
                obtain ⟨rfl, rfl⟩ := q85
                show sk_S _ _ _ _ _ _ (.int _ :: _) _ _
                refine sk_S.iret (dd DX8_as 49 rfl) rfl rfl ?_
                refine Or.inr ⟨j, hj, rfl, (inN_le (by decide)).mp c15, Or.inr ⟨?_, rfl, rfl⟩⟩
                rintro (q | q | ⟨q1, q2⟩ | ⟨q1, q2⟩)
                · exact c33 q
                · exact c38 q
                · exact c43 q1
                · exact c58 q2
              · refine sk_S.iconst (v := 1) (dd DX8_as 35 rfl) (by decide) ?_
                refine sk_S.goto (tgt := 66) (dd DX8_as 36 rfl) (by decide) ?_
                refine sk_S.istore (i := 4) (dd DX8_as 38 rfl) (Nat.le_of_ble_eq_true rfl) rfl ?_
                refine sk_S.iload (i := 4) (dd DX8_as 39 rfl) rfl ?_
                refine sk_S.if_eq (tgt := 82) (dd DX8_as 40 rfl) (by decide) (fun c70 => absurd c70 (by decide)) (fun c70 => ?_)
                refine sk_S.aload_n (i := 0) (dd DX8_as 41 rfl) rfl rfl ?_
                refine sk_S.iload_n (i := 1) (dd DX8_as 42 rfl) rfl rfl ?_
                refine sk_S.iconst (v := 1) (dd DX8_as 43 rfl) (by decide) ?_
                refine sk_S.callV (dd DX8_as 44 rfl) rfl kX8_51 (cM_of (j := j) (w := 1) (by omega)) se_54 (by decide) rfl rfl rfl rfl (Nat.le_of_ble_eq_true rfl) (fun r76 h76 q76 => ?_)
                obtain ⟨rfl, rfl⟩ := q76
                show sk_S _ _ _ _ _ _ (.int _ :: _) _ _
                refine sk_S.goto (tgt := 88) (dd DX8_as 45 rfl) (by decide) ?_
                refine sk_S.iret (dd DX8_as 49 rfl) rfl rfl ?_
                exact Or.inr ⟨j, hj, rfl, (inN_le (by decide)).mp c15, Or.inl ⟨Or.inr (Or.inr (Or.inr ⟨c53, c58⟩)), rfl, rfl⟩⟩
          · refine sk_S.iload_n (i := 3) (dd DX8_as 26 rfl) rfl rfl ?_
            refine sk_S.iconst (v := 4) (dd DX8_as 27 rfl) (by decide) ?_
            refine sk_S.icmp_eq (tgt := 61) (dd DX8_as 28 rfl) (by decide) (fun c48 => ?_) (fun c48 => ?_)
            · refine sk_S.iconst (v := 1) (dd DX8_as 35 rfl) (by decide) ?_
              refine sk_S.goto (tgt := 66) (dd DX8_as 36 rfl) (by decide) ?_
              refine sk_S.istore (i := 4) (dd DX8_as 38 rfl) (Nat.le_of_ble_eq_true rfl) rfl ?_
              refine sk_S.iload (i := 4) (dd DX8_as 39 rfl) rfl ?_
              refine sk_S.if_eq (tgt := 82) (dd DX8_as 40 rfl) (by decide) (fun c70 => absurd c70 (by decide)) (fun c70 => ?_)
              refine sk_S.aload_n (i := 0) (dd DX8_as 41 rfl) rfl rfl ?_
              refine sk_S.iload_n (i := 1) (dd DX8_as 42 rfl) rfl rfl ?_
              refine sk_S.iconst (v := 1) (dd DX8_as 43 rfl) (by decide) ?_
              refine sk_S.callV (dd DX8_as 44 rfl) rfl kX8_51 (cM_of (j := j) (w := 1) (by omega)) se_54 (by decide) rfl rfl rfl rfl (Nat.le_of_ble_eq_true rfl) (fun r76 h76 q76 => ?_)
              obtain ⟨rfl, rfl⟩ := q76
              show sk_S _ _ _ _ _ _ (.int _ :: _) _ _
              refine sk_S.goto (tgt := 88) (dd DX8_as 45 rfl) (by decide) ?_
              refine sk_S.iret (dd DX8_as 49 rfl) rfl rfl ?_
              exact Or.inr ⟨j, hj, rfl, (inN_le (by decide)).mp c15, Or.inl ⟨Or.inr (Or.inr (Or.inl ⟨c43, c48⟩)), rfl, rfl⟩⟩
            · refine sk_S.iload_n (i := 2) (dd DX8_as 29 rfl) rfl rfl ?_
              refine sk_S.iconst (v := 2) (dd DX8_as 30 rfl) (by decide) ?_
              refine sk_S.icmp_ne (tgt := 65) (dd DX8_as 31 rfl) (by decide) (fun c53 => ?_) (fun c53 => ?_)
              · refine sk_S.iconst (v := 0) (dd DX8_as 37 rfl) (by decide) ?_
                refine sk_S.istore (i := 4) (dd DX8_as 38 rfl) (Nat.le_of_ble_eq_true rfl) rfl ?_
                refine sk_S.iload (i := 4) (dd DX8_as 39 rfl) rfl ?_
                refine sk_S.if_eq (tgt := 82) (dd DX8_as 40 rfl) (by decide) (fun c70 => ?_) (fun c70 => absurd rfl c70)
                refine sk_S.aload_n (i := 0) (dd DX8_as 46 rfl) rfl rfl ?_
                refine sk_S.ldc (dd DX8_as 47 rfl) rfl cnX8_88 ?_
                refine sk_S.callV (dd DX8_as 48 rfl) rfl kX8_74 (cM_error (k := 5) ⟨by decide, by decide, by decide⟩) se_54 (by decide) rfl rfl rfl rfl (Nat.le_of_ble_eq_true rfl) (fun r85 h85 q85 => ?_)
                obtain ⟨rfl, rfl⟩ := q85
                show sk_S _ _ _ _ _ _ (.int _ :: _) _ _
                refine sk_S.iret (dd DX8_as 49 rfl) rfl rfl ?_
                refine Or.inr ⟨j, hj, rfl, (inN_le (by decide)).mp c15, Or.inr ⟨?_, rfl, rfl⟩⟩
                rintro (q | q | ⟨q1, q2⟩ | ⟨q1, q2⟩)
                · exact c33 q
                · exact c38 q
                · exact c48 q2
                · exact c53 q1
              · refine sk_S.iload_n (i := 3) (dd DX8_as 32 rfl) rfl rfl ?_
                refine sk_S.iconst (v := 5) (dd DX8_as 33 rfl) (by decide) ?_
                refine sk_S.icmp_ne (tgt := 65) (dd DX8_as 34 rfl) (by decide) (fun c58 => ?_) (fun c58 => ?_)
                · refine sk_S.iconst (v := 0) (dd DX8_as 37 rfl) (by decide) ?_
                  refine sk_S.istore (i := 4) (dd DX8_as 38 rfl) (Nat.le_of_ble_eq_true rfl) rfl ?_
                  refine sk_S.iload (i := 4) (dd DX8_as 39 rfl) rfl ?_
                  refine sk_S.if_eq (tgt := 82) (dd DX8_as 40 rfl) (by decide) (fun c70 => ?_) (fun c70 => absurd rfl c70)
                  refine sk_S.aload_n (i := 0) (dd DX8_as 46 rfl) rfl rfl ?_
                  refine sk_S.ldc (dd DX8_as 47 rfl) rfl cnX8_88 ?_
                  refine sk_S.callV (dd DX8_as 48 rfl) rfl kX8_74 (cM_error (k := 5) ⟨by decide, by decide, by decide⟩) se_54 (by decide) rfl rfl rfl rfl (Nat.le_of_ble_eq_true rfl) (fun r85 h85 q85 => ?_)
                  obtain ⟨rfl, rfl⟩ := q85
                  show sk_S _ _ _ _ _ _ (.int _ :: _) _ _
                  refine sk_S.iret (dd DX8_as 49 rfl) rfl rfl ?_
                  refine Or.inr ⟨j, hj, rfl, (inN_le (by decide)).mp c15, Or.inr ⟨?_, rfl, rfl⟩⟩
                  rintro (q | q | ⟨q1, q2⟩ | ⟨q1, q2⟩)
                  · exact c33 q
                  · exact c38 q
                  · exact c48 q2
                  · exact c58 q2
                · refine sk_S.iconst (v := 1) (dd DX8_as 35 rfl) (by decide) ?_
                  refine sk_S.goto (tgt := 66) (dd DX8_as 36 rfl) (by decide) ?_
                  refine sk_S.istore (i := 4) (dd DX8_as 38 rfl) (Nat.le_of_ble_eq_true rfl) rfl ?_
                  refine sk_S.iload (i := 4) (dd DX8_as 39 rfl) rfl ?_
                  refine sk_S.if_eq (tgt := 82) (dd DX8_as 40 rfl) (by decide) (fun c70 => absurd c70 (by decide)) (fun c70 => ?_)
                  refine sk_S.aload_n (i := 0) (dd DX8_as 41 rfl) rfl rfl ?_
                  refine sk_S.iload_n (i := 1) (dd DX8_as 42 rfl) rfl rfl ?_
                  refine sk_S.iconst (v := 1) (dd DX8_as 43 rfl) (by decide) ?_
                  refine sk_S.callV (dd DX8_as 44 rfl) rfl kX8_51 (cM_of (j := j) (w := 1) (by omega)) se_54 (by decide) rfl rfl rfl rfl (Nat.le_of_ble_eq_true rfl) (fun r76 h76 q76 => ?_)
                  obtain ⟨rfl, rfl⟩ := q76
                  show sk_S _ _ _ _ _ _ (.int _ :: _) _ _
                  refine sk_S.goto (tgt := 88) (dd DX8_as 45 rfl) (by decide) ?_
                  refine sk_S.iret (dd DX8_as 49 rfl) rfl rfl ?_
                  exact Or.inr ⟨j, hj, rfl, (inN_le (by decide)).mp c15, Or.inl ⟨Or.inr (Or.inr (Or.inr ⟨c53, c58⟩)), rfl, rfl⟩⟩
    · refine sk_S.aload_n (i := 0) (dd DX8_as 9 rfl) rfl rfl ?_
      refine sk_S.ldc (dd DX8_as 10 rfl) rfl cnX8_73 ?_
      refine sk_S.callV (dd DX8_as 11 rfl) rfl kX8_74 (cM_error (k := 1) ⟨by decide, by decide, by decide⟩) se_54 (by decide) rfl rfl rfl rfl (Nat.le_of_ble_eq_true rfl) (fun r21 h21 q21 => ?_)
      obtain ⟨rfl, rfl⟩ := q21
      show sk_S _ _ _ _ _ _ (.int _ :: _) _ _
      refine sk_S.iret (dd DX8_as 12 rfl) rfl rfl ?_
      exact Or.inl ⟨fun q => c15 ((inN_le (by decide)).mpr q.2), rfl, rfl⟩
set_option maxRecDepth 100000 in
set_option maxHeartbeats 4000000 in
theorem cM_boatIs {l : Launch} {E : sk_V} {d : Nat} {h : sk_M} {b w : Int32} (hb : boI (h 55)) (hI : lawI (h 55) 0) : sk_K l E (d + 4) MX8_boatIs [.ref 54, .int b, .int w] h (fun r h1 => (¬ (inN b (boN (h 55)) ∧ inN w 8) ∧ erM h 1 h1 r) ∨ (∃ j, j < boN (h 55) ∧ b = nI j ∧ ∃ i, i < 8 ∧ w = nI i ∧ sk_o [63, 64] h h1 ∧ some (.int (isV (h 55) j i)) = r)) := by
  refine sk_K.of (by decide +kernel) (Nat.le_of_ble_eq_true rfl) ?_
  show sk_S l E (d + 4) _ 0 [some (.ref 54), some (.int b), some (.int w)] [] h _
  refine sk_S.aload_n (i := 0) (dd DX8_boatIs 0 rfl) rfl rfl ?_
  refine sk_S.iload_n (i := 1) (dd DX8_boatIs 1 rfl) rfl rfl ?_
  refine sk_S.callV (dd DX8_boatIs 2 rfl) rfl kX8_79 cM_isBoat se_54 (by decide) rfl rfl rfl rfl (Nat.le_of_ble_eq_true rfl) (fun r2 h2 q2 => ?_)
  obtain ⟨rfl, rfl⟩ := q2
  show sk_S _ _ _ _ _ _ (.int _ :: _) _ _
  refine sk_S.bif_eq (tgt := 18) (dd DX8_boatIs 3 rfl) (by decide) (fun c5 => ?_) (fun c5 => ?_)
  · refine sk_S.aload_n (i := 0) (dd DX8_boatIs 9 rfl) rfl rfl ?_
    refine sk_S.ldc (dd DX8_boatIs 10 rfl) rfl cnX8_73 ?_
    refine sk_S.callV (dd DX8_boatIs 11 rfl) rfl kX8_74 (cM_error (k := 1) ⟨by decide, by decide, by decide⟩) se_54 (by decide) rfl rfl rfl rfl (Nat.le_of_ble_eq_true rfl) (fun r21 h21 q21 => ?_)
    obtain ⟨rfl, rfl⟩ := q21
    show sk_S _ _ _ _ _ _ (.int _ :: _) _ _
    refine sk_S.iret (dd DX8_boatIs 12 rfl) rfl rfl ?_
    exact Or.inl ⟨fun q => c5 (by rw [hb.1]; exact (inN_pred (by have := hb.2; omega)).mpr q.1), rfl, rfl⟩
  · refine sk_S.iload_n (i := 2) (dd DX8_boatIs 4 rfl) rfl rfl ?_
    refine sk_S.iconst (v := 0) (dd DX8_boatIs 5 rfl) (by decide) ?_
    refine sk_S.bipush (v := 7) (dd DX8_boatIs 6 rfl) (by decide) ?_
    refine sk_S.callS (dd DX8_boatIs 7 rfl) rfl kX8_47 cM_in rfl rfl rfl (Nat.le_of_ble_eq_true rfl) (fun r12 h12 q12 => ?_)
    obtain ⟨rfl, rfl⟩ := q12
    show sk_S _ _ _ _ _ _ (.int _ :: _) _ _
    refine sk_S.bif_ne (tgt := 25) (dd DX8_boatIs 8 rfl) (by decide) (fun c15 => ?_) (fun c15 => ?_)
    · rw [hb.1] at c5
      obtain ⟨j, hj, rfl⟩ := (inN_pred (by have := hb.2; omega)).mp c5
      have hb6 := hb.2
      obtain ⟨i, hi, rfl⟩ := (inN_le (n := 8) (by decide)).mp c15
      refine sk_S.iload_n (i := 2) (dd DX8_boatIs 13 rfl) rfl rfl ?_
      refine sk_S.iconst (v := 3) (dd DX8_boatIs 14 rfl) (by decide) ?_
      refine sk_S.icmp_ge (tgt := 39) (dd DX8_boatIs 15 rfl) (by decide) (fun c27 => ?_) (fun c27 => ?_)
      · refine sk_S.iload_n (i := 2) (dd DX8_boatIs 21 rfl) rfl rfl ?_
        refine sk_S.iconst (v := 3) (dd DX8_boatIs 22 rfl) (by decide) ?_
        refine sk_S.icmp_ne (tgt := 52) (dd DX8_boatIs 23 rfl) (by decide) (fun c41 => ?_) (fun c41 => ?_)
        · have hi4 : 4 ≤ i := by
            have h1 := i3ge (by omega) c27
            have h2 := i3ne c41
            omega
          refine sk_S.aload_n (i := 0) (dd DX8_boatIs 28 rfl) rfl rfl ?_
          refine sk_S.iload_n (i := 1) (dd DX8_boatIs 29 rfl) rfl rfl ?_
          refine sk_S.iload_n (i := 2) (dd DX8_boatIs 30 rfl) rfl rfl ?_
          refine sk_S.iconst (v := 4) (dd DX8_boatIs 31 rfl) (by decide) ?_
          refine sk_S.isub (dd DX8_boatIs 32 rfl) ?_
          rw [show nI i - 4 = nI (i - 4) from nI_sub (b := 4) hi4]
          refine sk_S.aload_n (i := 0) (dd DX8_boatIs 33 rfl) rfl rfl ?_
          refine sk_S.getr (dd DX8_boatIs 34 rfl) rfl fX8_9 se_54 (by decide) rfl ?_
          refine sk_S.bipush (v := 9) (dd DX8_boatIs 35 rfl) (by decide) ?_
          refine sk_S.iload_n (i := 2) (dd DX8_boatIs 36 rfl) rfl rfl ?_
          refine sk_S.iadd (dd DX8_boatIs 37 rfl) ?_
          refine sk_S.iconst (v := 4) (dd DX8_boatIs 38 rfl) (by decide) ?_
          refine sk_S.isub (dd DX8_boatIs 39 rfl) ?_
          refine sk_S.iald (dd DX8_boatIs 40 rfl) se_55 (sk_ix_e (k := 9 + (i - 4)) (by show nI 9 + nI i - nI 4 = _; rw [nI_add, nI_sub (by omega), Nat.add_sub_assoc hi4]) (by omega) (by decide)) ?_
          refine sk_S.callV (dd DX8_boatIs 41 rfl) rfl kX8_62 (cM_landsOf (j := j) (f := nI (i - 4)) (s := h 55 (9 + (i - 4))) (by omega) rfl hI) se_54 (by decide) rfl rfl rfl rfl (Nat.le_of_ble_eq_true rfl) (fun r68 h68 q68 => ?_)
          obtain ⟨ho, rfl⟩ := q68
          show sk_S _ _ _ _ _ _ (.int _ :: _) _ _
          refine sk_S.iret (dd DX8_boatIs 42 rfl) rfl rfl ?_
          refine Or.inr ⟨j, hj, rfl, i, hi, rfl, ho, ?_⟩
          unfold isV
          rw [if_neg (i3ge (by omega) c27), if_neg (i3ne c41)]
        · refine sk_S.aload_n (i := 0) (dd DX8_boatIs 24 rfl) rfl rfl ?_
          refine sk_S.iload_n (i := 1) (dd DX8_boatIs 25 rfl) rfl rfl ?_
          refine sk_S.callV (dd DX8_boatIs 26 rfl) rfl kX8_82 (cM_eatsOf (j := j) (by omega)) se_54 (by decide) rfl rfl rfl rfl (Nat.le_of_ble_eq_true rfl) (fun r46 h46 q46 => ?_)
          obtain ⟨rfl, rfl⟩ := q46
          show sk_S _ _ _ _ _ _ (.int _ :: _) _ _
          refine sk_S.goto (tgt := 71) (dd DX8_boatIs 27 rfl) (by decide) ?_
          refine sk_S.iret (dd DX8_boatIs 42 rfl) rfl rfl ?_
          refine Or.inr ⟨j, hj, rfl, i, hi, rfl, sk_o.rf, ?_⟩
          unfold isV
          rw [if_neg (i3ge (by omega) c27), if_pos (i3eq (by omega) c41)]
      · refine sk_S.aload_n (i := 0) (dd DX8_boatIs 16 rfl) rfl rfl ?_
        refine sk_S.iload_n (i := 1) (dd DX8_boatIs 17 rfl) rfl rfl ?_
        refine sk_S.iload_n (i := 2) (dd DX8_boatIs 18 rfl) rfl rfl ?_
        refine sk_S.callV (dd DX8_boatIs 19 rfl) rfl kX8_51 (cM_of (j := j) (w := i) (by omega)) se_54 (by decide) rfl rfl rfl rfl (Nat.le_of_ble_eq_true rfl) (fun r33 h33 q33 => ?_)
        obtain ⟨rfl, rfl⟩ := q33
        show sk_S _ _ _ _ _ _ (.int _ :: _) _ _
        refine sk_S.goto (tgt := 71) (dd DX8_boatIs 20 rfl) (by decide) ?_
        refine sk_S.iret (dd DX8_boatIs 42 rfl) rfl rfl ?_
        refine Or.inr ⟨j, hj, rfl, i, hi, rfl, sk_o.rf, ?_⟩
        unfold isV
        rw [if_pos (i3lt (by omega) c27)]
    · refine sk_S.aload_n (i := 0) (dd DX8_boatIs 9 rfl) rfl rfl ?_
      refine sk_S.ldc (dd DX8_boatIs 10 rfl) rfl cnX8_73 ?_
      refine sk_S.callV (dd DX8_boatIs 11 rfl) rfl kX8_74 (cM_error (k := 1) ⟨by decide, by decide, by decide⟩) se_54 (by decide) rfl rfl rfl rfl (Nat.le_of_ble_eq_true rfl) (fun r21 h21 q21 => ?_)
      obtain ⟨rfl, rfl⟩ := q21
      show sk_S _ _ _ _ _ _ (.int _ :: _) _ _
      refine sk_S.iret (dd DX8_boatIs 12 rfl) rfl rfl ?_
      exact Or.inl ⟨fun q => c15 ((inN_le (by decide)).mpr q.2), rfl, rfl⟩
set_option maxRecDepth 100000 in
set_option maxHeartbeats 4000000 in
theorem lp_partOf {l : Launch} {E : sk_V} {d : Nat} {h : sk_M} {A B : Nat} {p : Int32} (hA : A < 2147483648) (hB0 : 0 < B) (hB : B < 2147483648) : ∀ (n a b : Nat) (x5 : Option Value), a ≤ n → a < 2147483648 → 0 < b → b < 2147483648 → Nat.gcd a b = Nat.gcd A B → sk_S l E (d + 0) MX8_partOf 5 [some (.int (nI A)), some (.int (nI B)), some (.int p), some (.int (nI a)), some (.int (nI b)), x5] [] h (fun r h1 => h = h1 ∧ some (.int (if p = 0 then nI (A / Nat.gcd A B) else nI (B / Nat.gcd A B))) = r)
  | 0, a, b, x5, hn, ha, hb0, hb, hg => by
    have ha0 : a = 0 := by omega
    subst ha0
    have hbg : b = Nat.gcd A B := by rw [← hg, Nat.gcd_zero_left]
    refine sk_S.iload_n (i := 3) (dd DX8_partOf 4 rfl) rfl rfl ?_
    refine sk_S.if_eq (tgt := 24) (dd DX8_partOf 5 rfl) (by decide) (fun c6 => ?_) (fun c6 => absurd nI_0 c6)
    refine sk_S.iload_n (i := 2) (dd DX8_partOf 15 rfl) rfl rfl ?_
    refine sk_S.if_ne (tgt := 35) (dd DX8_partOf 16 rfl) (by decide) (fun c25 => ?_) (fun c25 => ?_)
    · refine sk_S.iload_n (i := 1) (dd DX8_partOf 21 rfl) rfl rfl ?_
      refine sk_S.iload (i := 4) (dd DX8_partOf 22 rfl) rfl ?_
      refine sk_S.idiv (dd DX8_partOf 23 rfl) (nI_ne0 hb0 hb) ?_
      refine sk_S.iret (dd DX8_partOf 24 rfl) rfl rfl ?_
      refine ⟨rfl, ?_⟩
      rw [if_neg c25, div_nI (by omega) hb0 hb, hbg]
    · refine sk_S.iload_n (i := 0) (dd DX8_partOf 17 rfl) rfl rfl ?_
      refine sk_S.iload (i := 4) (dd DX8_partOf 18 rfl) rfl ?_
      refine sk_S.idiv (dd DX8_partOf 19 rfl) (nI_ne0 hb0 hb) ?_
      refine sk_S.goto (tgt := 39) (dd DX8_partOf 20 rfl) (by decide) ?_
      refine sk_S.iret (dd DX8_partOf 24 rfl) rfl rfl ?_
      refine ⟨rfl, ?_⟩
      rw [if_pos c25, div_nI (by omega) hb0 hb, hbg]
  | n + 1, a, b, x5, hn, ha, hb0, hb, hg => by
    refine sk_S.iload_n (i := 3) (dd DX8_partOf 4 rfl) rfl rfl ?_
    refine sk_S.if_eq (tgt := 24) (dd DX8_partOf 5 rfl) (by decide) (fun c6 => ?_) (fun c6 => ?_)
    · refine sk_S.iload_n (i := 2) (dd DX8_partOf 15 rfl) rfl rfl ?_
      refine sk_S.if_ne (tgt := 35) (dd DX8_partOf 16 rfl) (by decide) (fun c25 => ?_) (fun c25 => ?_)
      · refine sk_S.iload_n (i := 1) (dd DX8_partOf 21 rfl) rfl rfl ?_
        refine sk_S.iload (i := 4) (dd DX8_partOf 22 rfl) rfl ?_
        refine sk_S.idiv (dd DX8_partOf 23 rfl) (nI_ne0 hb0 hb) ?_
        refine sk_S.iret (dd DX8_partOf 24 rfl) rfl rfl ?_
        have ha0 : a = 0 := by
          have h2 : nI a = nI 0 := c6
          exact (nI_eq (by omega) (by decide)).mp h2
        have hbg : b = Nat.gcd A B := by rw [← hg, ha0, Nat.gcd_zero_left]
        refine ⟨rfl, ?_⟩
        rw [if_neg c25, div_nI (by omega) hb0 hb, hbg]
      · refine sk_S.iload_n (i := 0) (dd DX8_partOf 17 rfl) rfl rfl ?_
        refine sk_S.iload (i := 4) (dd DX8_partOf 18 rfl) rfl ?_
        refine sk_S.idiv (dd DX8_partOf 19 rfl) (nI_ne0 hb0 hb) ?_
        refine sk_S.goto (tgt := 39) (dd DX8_partOf 20 rfl) (by decide) ?_
        refine sk_S.iret (dd DX8_partOf 24 rfl) rfl rfl ?_
        have ha0 : a = 0 := by
          have h2 : nI a = nI 0 := c6
          exact (nI_eq (by omega) (by decide)).mp h2
        have hbg : b = Nat.gcd A B := by rw [← hg, ha0, Nat.gcd_zero_left]
        refine ⟨rfl, ?_⟩
        rw [if_pos c25, div_nI (by omega) hb0 hb, hbg]
    · refine sk_S.iload (i := 4) (dd DX8_partOf 6 rfl) rfl ?_
      refine sk_S.iload_n (i := 3) (dd DX8_partOf 7 rfl) rfl rfl ?_
      refine sk_S.irem (dd DX8_partOf 8 rfl) c6 ?_
      refine sk_S.istore (i := 5) (dd DX8_partOf 9 rfl) (Nat.le_of_ble_eq_true rfl) rfl ?_
      refine sk_S.iload_n (i := 3) (dd DX8_partOf 10 rfl) rfl rfl ?_
      refine sk_S.istore (i := 4) (dd DX8_partOf 11 rfl) (Nat.le_of_ble_eq_true rfl) rfl ?_
      refine sk_S.iload (i := 5) (dd DX8_partOf 12 rfl) rfl ?_
      refine sk_S.istore_n (i := 3) (dd DX8_partOf 13 rfl) rfl (Nat.le_of_ble_eq_true rfl) rfl ?_
      refine sk_S.goto (tgt := 5) (dd DX8_partOf 14 rfl) (by decide) ?_
      have ha0 : 0 < a := by
        apply Nat.pos_of_ne_zero
        intro q
        apply c6
        rw [q]
        rfl
      have hlt := Nat.mod_lt b ha0
      exact sk_S.L (lp_partOf hA hB0 hB n (b % a) a (some (.int (nI b - nI b / nI a * nI a))) (by omega) (by omega) ha0 ha ((gcd_step ha0).trans hg)) (by rw [nI_rem (by omega) ha0 (by omega)]; rfl)
set_option maxRecDepth 100000 in
set_option maxHeartbeats 4000000 in
theorem cM_partOf {l : Launch} {E : sk_V} {d : Nat} {h : sk_M} {A B : Nat} {p : Int32} (hA : A < 2147483648) (hB0 : 0 < B) (hB : B < 2147483648) : sk_K l E (d + 0) MX8_partOf [.int (nI A), .int (nI B), .int p] h (fun r h1 => h = h1 ∧ some (.int (if p = 0 then nI (A / Nat.gcd A B) else nI (B / Nat.gcd A B))) = r) := by
  refine sk_K.of (by decide +kernel) (Nat.le_of_ble_eq_true rfl) ?_
  show sk_S l E (d + 0) _ 0 [some (.int (nI A)), some (.int (nI B)), some (.int p), none, none, none] [] h _
  refine sk_S.iload_n (i := 0) (dd DX8_partOf 0 rfl) rfl rfl ?_
  refine sk_S.istore_n (i := 3) (dd DX8_partOf 1 rfl) rfl (Nat.le_of_ble_eq_true rfl) rfl ?_
  refine sk_S.iload_n (i := 1) (dd DX8_partOf 2 rfl) rfl rfl ?_
  refine sk_S.istore (i := 4) (dd DX8_partOf 3 rfl) (Nat.le_of_ble_eq_true rfl) rfl ?_
  exact lp_partOf hA hB0 hB A A B none (Nat.le_refl _) hA hB0 hB rfl
set_option maxRecDepth 100000 in
set_option maxHeartbeats 4000000 in
theorem cM_odds {l : Launch} {E : sk_V} {d : Nat} {h : sk_M} {f n p : Int32} (hb : boI (h 55)) (hI : lawI (h 55) 0) : sk_K l E (d + 6) MX8_odds [.ref 54, .int f, .int n, .int p] h (fun r h1 => (¬ (inN f 4 ∧ inN n 100 ∧ inN p 2) ∧ erM h 1 h1 r) ∨ (inN f 4 ∧ inN n 100 ∧ inN p 2 ∧ sk_o [63, 64] h h1 ∧ some (.int (if p = 0 then nI (cntN (enP (h 55) f n) 10 / Nat.gcd (cntN (enP (h 55) f n) 10) 10) else nI (10 / Nat.gcd (cntN (enP (h 55) f n) 10) 10))) = r)) := by
  refine sk_K.of (by decide +kernel) (Nat.le_of_ble_eq_true rfl) ?_
  show sk_S l E (d + 6) _ 0 [some (.ref 54), some (.int f), some (.int n), some (.int p)] [] h _
  refine sk_S.iload_n (i := 1) (dd DX8_odds 0 rfl) rfl rfl ?_
  refine sk_S.callS (dd DX8_odds 1 rfl) rfl kX8_89 cM_isFish rfl rfl rfl (Nat.le_of_ble_eq_true rfl) (fun r1 h1 q1 => ?_)
  obtain ⟨rfl, rfl⟩ := q1
  show sk_S _ _ _ _ _ _ (.int _ :: _) _ _
  refine sk_S.bif_eq (tgt := 26) (dd DX8_odds 2 rfl) (by decide) (fun c4 => ?_) (fun c4 => ?_)
  · refine sk_S.aload_n (i := 0) (dd DX8_odds 13 rfl) rfl rfl ?_
    refine sk_S.ldc (dd DX8_odds 14 rfl) rfl cnX8_73 ?_
    refine sk_S.callV (dd DX8_odds 15 rfl) rfl kX8_74 (cM_error (k := 1) ⟨by decide, by decide, by decide⟩) se_54 (by decide) rfl rfl rfl rfl (Nat.le_of_ble_eq_true rfl) (fun r29 h29 q29 => ?_)
    obtain ⟨rfl, rfl⟩ := q29
    show sk_S _ _ _ _ _ _ (.int _ :: _) _ _
    refine sk_S.iret (dd DX8_odds 16 rfl) rfl rfl ?_
    exact Or.inl ⟨fun q => c4 ((inN_le (by decide)).mpr q.1), rfl, rfl⟩
  · refine sk_S.iload_n (i := 2) (dd DX8_odds 3 rfl) rfl rfl ?_
    refine sk_S.iconst (v := 0) (dd DX8_odds 4 rfl) (by decide) ?_
    refine sk_S.bipush (v := 99) (dd DX8_odds 5 rfl) (by decide) ?_
    refine sk_S.callS (dd DX8_odds 6 rfl) rfl kX8_47 cM_in rfl rfl rfl (Nat.le_of_ble_eq_true rfl) (fun r11 h11 q11 => ?_)
    obtain ⟨rfl, rfl⟩ := q11
    show sk_S _ _ _ _ _ _ (.int _ :: _) _ _
    refine sk_S.bif_eq (tgt := 26) (dd DX8_odds 7 rfl) (by decide) (fun c14 => ?_) (fun c14 => ?_)
    · refine sk_S.aload_n (i := 0) (dd DX8_odds 13 rfl) rfl rfl ?_
      refine sk_S.ldc (dd DX8_odds 14 rfl) rfl cnX8_73 ?_
      refine sk_S.callV (dd DX8_odds 15 rfl) rfl kX8_74 (cM_error (k := 1) ⟨by decide, by decide, by decide⟩) se_54 (by decide) rfl rfl rfl rfl (Nat.le_of_ble_eq_true rfl) (fun r29 h29 q29 => ?_)
      obtain ⟨rfl, rfl⟩ := q29
      show sk_S _ _ _ _ _ _ (.int _ :: _) _ _
      refine sk_S.iret (dd DX8_odds 16 rfl) rfl rfl ?_
      exact Or.inl ⟨fun q => c14 ((inN_le (by decide)).mpr q.2.1), rfl, rfl⟩
    · refine sk_S.iload_n (i := 3) (dd DX8_odds 8 rfl) rfl rfl ?_
      refine sk_S.iconst (v := 0) (dd DX8_odds 9 rfl) (by decide) ?_
      refine sk_S.iconst (v := 1) (dd DX8_odds 10 rfl) (by decide) ?_
      refine sk_S.callS (dd DX8_odds 11 rfl) rfl kX8_47 cM_in rfl rfl rfl (Nat.le_of_ble_eq_true rfl) (fun r20 h20 q20 => ?_)
      obtain ⟨rfl, rfl⟩ := q20
      show sk_S _ _ _ _ _ _ (.int _ :: _) _ _
      refine sk_S.bif_ne (tgt := 33) (dd DX8_odds 12 rfl) (by decide) (fun c23 => ?_) (fun c23 => ?_)
      · refine sk_S.aload_n (i := 0) (dd DX8_odds 17 rfl) rfl rfl ?_
        refine sk_S.iload_n (i := 1) (dd DX8_odds 18 rfl) rfl rfl ?_
        refine sk_S.iload_n (i := 2) (dd DX8_odds 19 rfl) rfl rfl ?_
        refine sk_S.callV (dd DX8_odds 20 rfl) rfl kX8_184 (cM_enough rfl hb hI) se_54 (by decide) rfl rfl rfl rfl (Nat.le_of_ble_eq_true rfl) (fun r36 h36 q36 => ?_)
        obtain ⟨ho, rfl⟩ := q36
        have hc := cntN_le (enP (h 55) f n) 10
        show sk_S _ _ _ _ _ _ (.int _ :: _) _ _
        refine sk_S.bipush (v := 10) (dd DX8_odds 21 rfl) (by decide) ?_
        refine sk_S.iload_n (i := 3) (dd DX8_odds 22 rfl) rfl rfl ?_
        refine sk_S.callS (dd DX8_odds 23 rfl) rfl kX8_197 (cM_partOf (B := 10) (by omega) (by decide) (by decide)) rfl rfl rfl (Nat.le_of_ble_eq_true rfl) (fun r42 h42 q42 => ?_)
        obtain ⟨rfl, rfl⟩ := q42
        show sk_S _ _ _ _ _ _ (.int _ :: _) _ _
        refine sk_S.iret (dd DX8_odds 24 rfl) rfl rfl ?_
        exact Or.inr ⟨(inN_le (by decide)).mp c4, (inN_le (by decide)).mp c14, (inN_le (by decide)).mp c23, ho, rfl⟩
      · refine sk_S.aload_n (i := 0) (dd DX8_odds 13 rfl) rfl rfl ?_
        refine sk_S.ldc (dd DX8_odds 14 rfl) rfl cnX8_73 ?_
        refine sk_S.callV (dd DX8_odds 15 rfl) rfl kX8_74 (cM_error (k := 1) ⟨by decide, by decide, by decide⟩) se_54 (by decide) rfl rfl rfl rfl (Nat.le_of_ble_eq_true rfl) (fun r29 h29 q29 => ?_)
        obtain ⟨rfl, rfl⟩ := q29
        show sk_S _ _ _ _ _ _ (.int _ :: _) _ _
        refine sk_S.iret (dd DX8_odds 16 rfl) rfl rfl ?_
        exact Or.inl ⟨fun q => c23 ((inN_le (by decide)).mpr q.2.2), rfl, rfl⟩
end M8
end
section
section SPEC9
theorem heldV_N (x : Int32) : ∃ k, k ≤ 99 ∧ heldV x 0 99 = nI k := by
  unfold heldV
  by_cases h1 : x < 0
  · rw [if_pos h1]; exact ⟨0, by omega, rfl⟩
  · rw [if_neg h1]
    by_cases h2 : 99 < x
    · rw [if_pos h2]; exact ⟨99, by omega, rfl⟩
    · rw [if_neg h2]
      obtain ⟨j, hj, e⟩ := (inN_le (x := x) (M := 99) (n := 100) (by decide)).mp ⟨Int32.not_lt.mp h1, Int32.not_lt.mp h2⟩
      exact ⟨j, by omega, e⟩
theorem landsG_N (g : Nat → Int32) (j : Nat) (f s sea day : Int32) : ∃ k, k ≤ 99 ∧ landsG g j f s sea day = nI k := by
  unfold landsG
  split
  · exact ⟨0, by omega, rfl⟩
  · exact heldV_N _
theorem sumN_N {f : Nat → Int32} {b : Nat} : ∀ n, (∀ k, k < n → ∃ q, q ≤ b ∧ f k = nI q) → ∃ q, q ≤ b * n ∧ sumN f n = nI q
  | 0, _ => ⟨0, Nat.le_refl _, rfl⟩
  | n + 1, h => by
    obtain ⟨q, hq, e⟩ := sumN_N n (fun k hk => h k (by omega))
    obtain ⟨q2, hq2, e2⟩ := h n (by omega)
    refine ⟨q + q2, by rw [Nat.mul_succ]; omega, ?_⟩
    show sumN f n + f n = _
    rw [e, e2, nI_add]
theorem catchG_N {g : Nat → Int32} (hb : boI g) (f s sea day : Int32) : ∃ k, k ≤ 594 ∧ catchG g f s sea day = nI k := by
  obtain ⟨q, hq, e⟩ := sumN_N (b := 99) (boN g) (fun k _ => landsG_N g k f s sea day)
  have := hb.2
  exact ⟨q, by omega, e⟩
def meanI (g : Nat → Int32) (j : Nat) : Int32 := sumN (fun w => catchG g (nI j) (g (9 + j)) (nI w) (g 0)) 10
def meanN (g : Nat → Int32) (j : Nat) : Nat := (meanI g j).toNatClampNeg
theorem meanN_e {g : Nat → Int32} (hb : boI g) (j : Nat) : meanI g j = nI (meanN g j) ∧ meanN g j ≤ 5940 := by
  obtain ⟨q, hq, e⟩ := sumN_N (b := 594) (f := fun w => catchG g (nI j) (g (9 + j)) (nI w) (g 0)) 10 (fun k _ => catchG_N hb _ _ _ _)
  have e2 : meanN g j = q := by unfold meanN meanI; rw [e, nI_clamp (by omega)]
  exact ⟨by rw [e2]; exact e, by omega⟩
/-- the first d from d on, m tries, for which p holds; else the end -/
def soF (p : Nat → Bool) : Nat → Nat → Nat
  | 0, d => d
  | m + 1, d => if p d = true then d else soF p m (d + 1)
theorem soF_le (p : Nat → Bool) : ∀ m d, soF p m d ≤ d + m
  | 0, d => Nat.le_refl _
  | m + 1, d => by
    have ih := soF_le p m (d + 1)
    unfold soF
    split <;> omega
def soP (g : Nat → Int32) (f n : Int32) (dy d : Nat) : Bool := decide (n ≤ catchG g f n (g 3) (nI (dy + d)))
theorem catchG_d {g : Nat → Int32} {f n x : Int32} : catchG (upd g 0 x) f n ((upd g 0 x) 3) ((upd g 0 x) 0) = catchG g f n (g 3) x := by
  rw [upd_eq, upd_ne (by decide)]
  exact catchG_cg (fun k hk => upd_ne (by omega)) (upd_ne (by decide))
/-- an error behind thoughts -/
def erT (h : sk_M) (k : Nat) (h1 : sk_M) (r : Option Value) : Prop := ∃ g, sk_o [63, 64] h g ∧ erM g k h1 r
theorem bst_s1 {g : Nat → Int32} {j n : Nat} (q : n = 0 ∨ (bstG g j n).2 < gainG g j n) : bstG g j (n + 1) = (nI n, gainG g j n) := by
  show (if _ then _ else _) = _
  rw [if_pos q]
theorem bst_s0 {g : Nat → Int32} {j n : Nat} (q : ¬ (n = 0 ∨ (bstG g j n).2 < gainG g j n)) : bstG g j (n + 1) = bstG g j n := by
  show (if _ then _ else _) = _
  rw [if_neg q]
end SPEC9
end
section
section M9
set_option maxRecDepth 100000 in
set_option maxHeartbeats 4000000 in
theorem lp_mean {l : Launch} {E : sk_V} {d : Nat} {h : sk_M} {ρ : Nat → Int32} {j : Nat} {p : Int32} (hj : j < 4) (hρ : h 55 = ρ) (hb : boI ρ) (hI : lawI ρ 0) : ∀ (m w : Nat) (g : sk_M) (x : Int32), w + m = 10 → sk_o [55, 63, 64] h g → g 55 = upd ρ 3 x → sk_S l E (d + 6) MX8_mean 36 [some (.ref 54), some (.int (nI j)), some (.int p), some (.int (ρ 3)), some (.int (sumN (fun w => catchG ρ (nI j) (ρ (9 + j)) (nI w) (ρ 0)) w)), some (.int (nI w))] [] g (fun r h1 => sk_o [63, 64] h h1 ∧ some (.int (if p = 0 then nI (meanN ρ j / Nat.gcd (meanN ρ j) 10) else nI (10 / Nat.gcd (meanN ρ j) 10))) = r)
  | 0, w, g, x, hw, ho, hg => by
    have hwn : w = 10 := by omega
    subst hwn
    have hm := meanN_e hb j
    refine sk_S.iload (i := 5) (dd DX8_mean 21 rfl) rfl ?_
    refine sk_S.bipush (v := 10) (dd DX8_mean 22 rfl) (by decide) ?_
    refine sk_S.icmp_ge (tgt := 67) (dd DX8_mean 23 rfl) (by decide) (fun c40 => ?_) (fun c40 => absurd (by decide) c40)
    refine sk_S.aload_n (i := 0) (dd DX8_mean 37 rfl) rfl rfl ?_
    refine sk_S.getr (dd DX8_mean 38 rfl) rfl fX8_9 se_54 (by decide) rfl ?_
    refine sk_S.iconst (v := 3) (dd DX8_mean 39 rfl) (by decide) ?_
    refine sk_S.iload_n (i := 3) (dd DX8_mean 40 rfl) rfl rfl ?_
    refine sk_S.iast (dd DX8_mean 41 rfl) se_55 (j := 3) ⟨by decide, by decide, by decide⟩ ?_
    refine sk_S.iload (i := 4) (dd DX8_mean 42 rfl) rfl ?_
    rw [show sumN (fun w => catchG ρ (nI j) (ρ (9 + j)) (nI w) (ρ 0)) 10 = nI (meanN ρ j) from hm.1]
    refine sk_S.bipush (v := 10) (dd DX8_mean 43 rfl) (by decide) ?_
    refine sk_S.iload_n (i := 2) (dd DX8_mean 44 rfl) rfl rfl ?_
    refine sk_S.callS (dd DX8_mean 45 rfl) rfl kX8_197 (cM_partOf (B := 10) (by omega) (by decide) (by decide)) rfl rfl rfl (Nat.le_of_ble_eq_true rfl) (fun r79 h79 q79 => ?_)
    obtain ⟨rfl, rfl⟩ := q79
    show sk_S _ _ _ _ _ _ (.int _ :: _) _ _
    refine sk_S.iret (dd DX8_mean 46 rfl) rfl rfl ?_
    refine ⟨back_o (ho.u (by decide)) ?_, rfl⟩
    rw [sk_u, sk_r_eq, hg, upd_upd, upd_self, hρ]
  | m + 1, w, g, x, hw, ho, hg => by
    refine sk_S.iload (i := 5) (dd DX8_mean 21 rfl) rfl ?_
    refine sk_S.bipush (v := 10) (dd DX8_mean 22 rfl) (by decide) ?_
    refine sk_S.icmp_ge (tgt := 67) (dd DX8_mean 23 rfl) (by decide) (fun c40 => absurd c40 (nI_ge (b := 10) (by omega) (by decide))) (fun c40 => ?_)
    refine sk_S.aload_n (i := 0) (dd DX8_mean 24 rfl) rfl rfl ?_
    refine sk_S.getr (dd DX8_mean 25 rfl) rfl fX8_9 se_54 (by decide) rfl ?_
    refine sk_S.iconst (v := 3) (dd DX8_mean 26 rfl) (by decide) ?_
    refine sk_S.iload (i := 5) (dd DX8_mean 27 rfl) rfl ?_
    refine sk_S.iast (dd DX8_mean 28 rfl) se_55 (j := 3) ⟨by decide, by decide, by decide⟩ ?_
    have e55 : sk_u g 55 3 (nI w) 55 = upd ρ 3 (nI w) := by rw [sk_u, sk_r_eq, hg, upd_upd]
    refine sk_S.iload (i := 4) (dd DX8_mean 29 rfl) rfl ?_
    refine sk_S.aload_n (i := 0) (dd DX8_mean 30 rfl) rfl rfl ?_
    refine sk_S.iload_n (i := 1) (dd DX8_mean 31 rfl) rfl rfl ?_
    refine sk_S.callV (dd DX8_mean 32 rfl) rfl kX8_181 (cM_catchOf hj e55 (boI_cg (upd_ne (by decide)) hb) (lawI_cg (fun k hk => upd_ne (by omega)) hI)) se_54 (by decide) rfl rfl rfl rfl (Nat.le_of_ble_eq_true rfl) (fun r55 h55 q55 => ?_)
    obtain ⟨o2, rfl⟩ := q55
    rw [catchG_w, upd_ne (by omega)]
    show sk_S _ _ _ _ _ _ (.int _ :: _) _ _
    refine sk_S.iadd (dd DX8_mean 33 rfl) ?_
    refine sk_S.istore (i := 4) (dd DX8_mean 34 rfl) (Nat.le_of_ble_eq_true rfl) rfl ?_
    refine sk_S.iinc (i := 5) (v := _ + 1) (dd DX8_mean 35 rfl) rfl rfl rfl ?_
    refine sk_S.goto (tgt := 36) (dd DX8_mean 36 rfl) (by decide) ?_
    exact sk_S.L (lp_mean hj hρ hb hI m (w + 1) _ (nI w) (by omega) ((ho.u (by decide)).tr (o2.more (by decide))) ((o2 55 (by decide)).trans e55)) (by rw [nI_succ]; rfl)
set_option maxRecDepth 100000 in
set_option maxHeartbeats 4000000 in
theorem cM_mean {l : Launch} {E : sk_V} {d : Nat} {h : sk_M} {f p : Int32} (hb : boI (h 55)) (hI : lawI (h 55) 0) : sk_K l E (d + 6) MX8_mean [.ref 54, .int f, .int p] h (fun r h1 => (¬ (inN f 4 ∧ inN p 2) ∧ erM h 1 h1 r) ∨ (∃ j, j < 4 ∧ f = nI j ∧ inN p 2 ∧ sk_o [63, 64] h h1 ∧ some (.int (if p = 0 then nI (meanN (h 55) j / Nat.gcd (meanN (h 55) j) 10) else nI (10 / Nat.gcd (meanN (h 55) j) 10))) = r)) := by
  refine sk_K.of (by decide +kernel) (Nat.le_of_ble_eq_true rfl) ?_
  show sk_S l E (d + 6) _ 0 [some (.ref 54), some (.int f), some (.int p), none, none, none] [] h _
  refine sk_S.iload_n (i := 1) (dd DX8_mean 0 rfl) rfl rfl ?_
  refine sk_S.callS (dd DX8_mean 1 rfl) rfl kX8_89 cM_isFish rfl rfl rfl (Nat.le_of_ble_eq_true rfl) (fun r1 h1 q1 => ?_)
  obtain ⟨rfl, rfl⟩ := q1
  show sk_S _ _ _ _ _ _ (.int _ :: _) _ _
  refine sk_S.bif_eq (tgt := 16) (dd DX8_mean 2 rfl) (by decide) (fun c4 => ?_) (fun c4 => ?_)
  · refine sk_S.aload_n (i := 0) (dd DX8_mean 8 rfl) rfl rfl ?_
    refine sk_S.ldc (dd DX8_mean 9 rfl) rfl cnX8_73 ?_
    refine sk_S.callV (dd DX8_mean 10 rfl) rfl kX8_74 (cM_error (k := 1) ⟨by decide, by decide, by decide⟩) se_54 (by decide) rfl rfl rfl rfl (Nat.le_of_ble_eq_true rfl) (fun r19 h19 q19 => ?_)
    obtain ⟨rfl, rfl⟩ := q19
    show sk_S _ _ _ _ _ _ (.int _ :: _) _ _
    refine sk_S.iret (dd DX8_mean 11 rfl) rfl rfl ?_
    exact Or.inl ⟨fun q => c4 ((inN_le (by decide)).mpr q.1), rfl, rfl⟩
  · refine sk_S.iload_n (i := 2) (dd DX8_mean 3 rfl) rfl rfl ?_
    refine sk_S.iconst (v := 0) (dd DX8_mean 4 rfl) (by decide) ?_
    refine sk_S.iconst (v := 1) (dd DX8_mean 5 rfl) (by decide) ?_
    refine sk_S.callS (dd DX8_mean 6 rfl) rfl kX8_47 cM_in rfl rfl rfl (Nat.le_of_ble_eq_true rfl) (fun r10 h10 q10 => ?_)
    obtain ⟨rfl, rfl⟩ := q10
    show sk_S _ _ _ _ _ _ (.int _ :: _) _ _
    refine sk_S.bif_ne (tgt := 23) (dd DX8_mean 7 rfl) (by decide) (fun c13 => ?_) (fun c13 => ?_)
    · obtain ⟨j, hj, rfl⟩ := (inN_le (n := 4) (by decide)).mp c4
      refine sk_S.aload_n (i := 0) (dd DX8_mean 12 rfl) rfl rfl ?_
      refine sk_S.getr (dd DX8_mean 13 rfl) rfl fX8_9 se_54 (by decide) rfl ?_
      refine sk_S.iconst (v := 3) (dd DX8_mean 14 rfl) (by decide) ?_
      refine sk_S.iald (dd DX8_mean 15 rfl) se_55 (j := 3) ⟨by decide, by decide, by decide⟩ ?_
      refine sk_S.istore_n (i := 3) (dd DX8_mean 16 rfl) rfl (Nat.le_of_ble_eq_true rfl) rfl ?_
      refine sk_S.iconst (v := 0) (dd DX8_mean 17 rfl) (by decide) ?_
      refine sk_S.istore (i := 4) (dd DX8_mean 18 rfl) (Nat.le_of_ble_eq_true rfl) rfl ?_
      refine sk_S.iconst (v := 0) (dd DX8_mean 19 rfl) (by decide) ?_
      refine sk_S.istore (i := 5) (dd DX8_mean 20 rfl) (Nat.le_of_ble_eq_true rfl) rfl ?_
      refine sk_S.mono (lp_mean hj rfl hb hI 10 0 h (h 55 3) rfl sk_o.rf upd_self.symm) ?_
      rintro r h1 ⟨q1, q2⟩
      exact Or.inr ⟨j, hj, rfl, (inN_le (by decide)).mp c13, q1, q2⟩
    · refine sk_S.aload_n (i := 0) (dd DX8_mean 8 rfl) rfl rfl ?_
      refine sk_S.ldc (dd DX8_mean 9 rfl) rfl cnX8_73 ?_
      refine sk_S.callV (dd DX8_mean 10 rfl) rfl kX8_74 (cM_error (k := 1) ⟨by decide, by decide, by decide⟩) se_54 (by decide) rfl rfl rfl rfl (Nat.le_of_ble_eq_true rfl) (fun r19 h19 q19 => ?_)
      obtain ⟨rfl, rfl⟩ := q19
      show sk_S _ _ _ _ _ _ (.int _ :: _) _ _
      refine sk_S.iret (dd DX8_mean 11 rfl) rfl rfl ?_
      exact Or.inl ⟨fun q => c13 ((inN_le (by decide)).mpr q.2), rfl, rfl⟩
set_option maxRecDepth 100000 in
set_option maxHeartbeats 4000000 in
theorem lp_best {l : Launch} {E : sk_V} {d : Nat} {h : sk_M} {ρ : Nat → Int32} {j : Nat} {w : Int32} (hj : j < 4) (hρ : h 55 = ρ) (hb : boI ρ) (hI : lawI ρ 0) (hJ : lawI ρ 1) : ∀ (m n : Nat) (g : sk_M) (x7 x8 : Option Value), n + m = 100 → sk_o [63, 64] h g → sk_S l E (d + 7) MX8_best 39 [some (.ref 54), some (.int (nI j)), some (.int w), some (.int (coinsG ρ j 0)), some (.int (bstG ρ j n).1), some (.int (bstG ρ j n).2), some (.int (nI n)), x7, x8] [] g (fun r h1 => sk_o [63, 64] h h1 ∧ some (.int (if w = 0 then (bstG ρ j 100).1 else (bstG ρ j 100).2)) = r)
  | 0, n, g, x7, x8, hn, ho => by
    have hnn : n = 100 := by omega
    subst hnn
    refine sk_S.iload (i := 6) (dd DX8_best 23 rfl) rfl ?_
    refine sk_S.bipush (v := 99) (dd DX8_best 24 rfl) (by decide) ?_
    refine sk_S.icmp_gt (tgt := 128) (dd DX8_best 25 rfl) (by decide) (fun c43 => ?_) (fun c43 => absurd (by decide) c43)
    refine sk_S.iload_n (i := 2) (dd DX8_best 69 rfl) rfl rfl ?_
    refine sk_S.if_ne (tgt := 137) (dd DX8_best 70 rfl) (by decide) (fun c129 => ?_) (fun c129 => ?_)
    · refine sk_S.iload (i := 5) (dd DX8_best 73 rfl) rfl ?_
      refine sk_S.iret (dd DX8_best 74 rfl) rfl rfl ?_
      exact ⟨ho, by rw [if_neg c129]⟩
    · refine sk_S.iload (i := 4) (dd DX8_best 71 rfl) rfl ?_
      refine sk_S.goto (tgt := 139) (dd DX8_best 72 rfl) (by decide) ?_
      refine sk_S.iret (dd DX8_best 74 rfl) rfl rfl ?_
      exact ⟨ho, by rw [if_pos c129]⟩
  | m + 1, n, g, x7, x8, hn, ho => by
    have e55 : g 55 = ρ := (ho 55 (by decide)).trans hρ
    refine sk_S.iload (i := 6) (dd DX8_best 23 rfl) rfl ?_
    refine sk_S.bipush (v := 99) (dd DX8_best 24 rfl) (by decide) ?_
    refine sk_S.icmp_gt (tgt := 128) (dd DX8_best 25 rfl) (by decide) (fun c43 => absurd c43 (nI_nlt (a := 99) (b := n) (by omega) (by omega))) (fun c43 => ?_)
    refine sk_S.bipush (v := 10) (dd DX8_best 26 rfl) (by decide) ?_
    refine sk_S.iload (i := 6) (dd DX8_best 27 rfl) rfl ?_
    refine sk_S.imul (dd DX8_best 28 rfl) ?_
    refine sk_S.iload_n (i := 3) (dd DX8_best 29 rfl) rfl rfl ?_
    refine sk_S.imul (dd DX8_best 30 rfl) ?_
    refine sk_S.iconst (v := 2) (dd DX8_best 31 rfl) (by decide) ?_
    refine sk_S.aload_n (i := 0) (dd DX8_best 32 rfl) rfl rfl ?_
    refine sk_S.getr (dd DX8_best 33 rfl) rfl fX8_9 se_54 (by decide) rfl ?_
    refine sk_S.bipush (v := 13) (dd DX8_best 34 rfl) (by decide) ?_
    refine sk_S.iload_n (i := 1) (dd DX8_best 35 rfl) rfl rfl ?_
    refine sk_S.iadd (dd DX8_best 36 rfl) ?_
    refine sk_S.iald (dd DX8_best 37 rfl) se_55 (sk_ix_e (k := 13 + j) (ix_add 13 j) (by omega) (by decide)) ?_
    refine sk_S.imul (dd DX8_best 38 rfl) ?_
    refine sk_S.aload_n (i := 0) (dd DX8_best 39 rfl) rfl rfl ?_
    refine sk_S.iload_n (i := 1) (dd DX8_best 40 rfl) rfl rfl ?_
    refine sk_S.iload (i := 6) (dd DX8_best 41 rfl) rfl ?_
    refine sk_S.callV (dd DX8_best 42 rfl) rfl kX8_187 (cM_shortest e55 hb hI) se_54 (by decide) rfl rfl rfl rfl (Nat.le_of_ble_eq_true rfl) (fun r68 h68 q68 => ?_)
    obtain ⟨o2, rfl⟩ := q68
    show sk_S _ _ _ _ _ _ (.int _ :: _) _ _
    refine sk_S.imul (dd DX8_best 43 rfl) ?_
    refine sk_S.isub (dd DX8_best 44 rfl) ?_
    rw [show 10 * nI n * coinsG ρ j 0 - 2 * g 55 (13 + j) * sumN (shW ρ (nI j) (nI n)) 10 = gainG ρ j n from by rw [e55]; rfl]
    refine sk_S.istore (i := 7) (dd DX8_best 45 rfl) (Nat.le_of_ble_eq_true rfl) rfl ?_
    refine sk_S.iload (i := 6) (dd DX8_best 46 rfl) rfl ?_
    refine sk_S.if_eq (tgt := 87) (dd DX8_best 47 rfl) (by decide) (fun c77 => ?_) (fun c77 => ?_)
    · refine sk_S.iconst (v := 1) (dd DX8_best 51 rfl) (by decide) ?_
      refine sk_S.goto (tgt := 92) (dd DX8_best 52 rfl) (by decide) ?_
      refine sk_S.istore (i := 8) (dd DX8_best 54 rfl) (Nat.le_of_ble_eq_true rfl) rfl ?_
      refine sk_S.iload (i := 8) (dd DX8_best 55 rfl) rfl ?_
      refine sk_S.if_eq (tgt := 104) (dd DX8_best 56 rfl) (by decide) (fun c96 => absurd c96 (by decide)) (fun c96 => ?_)
      refine sk_S.iload (i := 6) (dd DX8_best 57 rfl) rfl ?_
      refine sk_S.goto (tgt := 106) (dd DX8_best 58 rfl) (by decide) ?_
      refine sk_S.istore (i := 4) (dd DX8_best 60 rfl) (Nat.le_of_ble_eq_true rfl) rfl ?_
      refine sk_S.iload (i := 8) (dd DX8_best 61 rfl) rfl ?_
      refine sk_S.if_eq (tgt := 118) (dd DX8_best 62 rfl) (by decide) (fun c110 => absurd c110 (by decide)) (fun c110 => ?_)
      refine sk_S.iload (i := 7) (dd DX8_best 63 rfl) rfl ?_
      refine sk_S.goto (tgt := 120) (dd DX8_best 64 rfl) (by decide) ?_
      refine sk_S.istore (i := 5) (dd DX8_best 66 rfl) (Nat.le_of_ble_eq_true rfl) rfl ?_
      refine sk_S.iinc (i := 6) (v := _ + 1) (dd DX8_best 67 rfl) rfl rfl rfl ?_
      refine sk_S.goto (tgt := 39) (dd DX8_best 68 rfl) (by decide) ?_
      refine sk_S.L (lp_best hj hρ hb hI hJ m (n + 1) _ (some (.int (gainG ρ j n))) (some (.int 1)) (by omega) (ho.tr o2)) ?_
      rw [bst_s1 (Or.inl ((nI_eq (by omega) (by decide)).mp c77)), nI_succ n]
      rfl
    · refine sk_S.iload (i := 7) (dd DX8_best 48 rfl) rfl ?_
      refine sk_S.iload (i := 5) (dd DX8_best 49 rfl) rfl ?_
      refine sk_S.icmp_le (tgt := 91) (dd DX8_best 50 rfl) (by decide) (fun c84 => ?_) (fun c84 => ?_)
      · refine sk_S.iconst (v := 0) (dd DX8_best 53 rfl) (by decide) ?_
        refine sk_S.istore (i := 8) (dd DX8_best 54 rfl) (Nat.le_of_ble_eq_true rfl) rfl ?_
        refine sk_S.iload (i := 8) (dd DX8_best 55 rfl) rfl ?_
        refine sk_S.if_eq (tgt := 104) (dd DX8_best 56 rfl) (by decide) (fun c96 => ?_) (fun c96 => absurd rfl c96)
        refine sk_S.iload (i := 4) (dd DX8_best 59 rfl) rfl ?_
        refine sk_S.istore (i := 4) (dd DX8_best 60 rfl) (Nat.le_of_ble_eq_true rfl) rfl ?_
        refine sk_S.iload (i := 8) (dd DX8_best 61 rfl) rfl ?_
        refine sk_S.if_eq (tgt := 118) (dd DX8_best 62 rfl) (by decide) (fun c110 => ?_) (fun c110 => absurd rfl c110)
        refine sk_S.iload (i := 5) (dd DX8_best 65 rfl) rfl ?_
        refine sk_S.istore (i := 5) (dd DX8_best 66 rfl) (Nat.le_of_ble_eq_true rfl) rfl ?_
        refine sk_S.iinc (i := 6) (v := _ + 1) (dd DX8_best 67 rfl) rfl rfl rfl ?_
        refine sk_S.goto (tgt := 39) (dd DX8_best 68 rfl) (by decide) ?_
        refine sk_S.L (lp_best hj hρ hb hI hJ m (n + 1) _ (some (.int (gainG ρ j n))) (some (.int 0)) (by omega) (ho.tr o2)) ?_
        rw [bst_s0 (fun q => q.elim (fun e => c77 (by rw [e]; rfl)) (fun e => (Int32.not_lt.mpr c84) e)), nI_succ n]
        rfl
      · refine sk_S.iconst (v := 1) (dd DX8_best 51 rfl) (by decide) ?_
        refine sk_S.goto (tgt := 92) (dd DX8_best 52 rfl) (by decide) ?_
        refine sk_S.istore (i := 8) (dd DX8_best 54 rfl) (Nat.le_of_ble_eq_true rfl) rfl ?_
        refine sk_S.iload (i := 8) (dd DX8_best 55 rfl) rfl ?_
        refine sk_S.if_eq (tgt := 104) (dd DX8_best 56 rfl) (by decide) (fun c96 => absurd c96 (by decide)) (fun c96 => ?_)
        refine sk_S.iload (i := 6) (dd DX8_best 57 rfl) rfl ?_
        refine sk_S.goto (tgt := 106) (dd DX8_best 58 rfl) (by decide) ?_
        refine sk_S.istore (i := 4) (dd DX8_best 60 rfl) (Nat.le_of_ble_eq_true rfl) rfl ?_
        refine sk_S.iload (i := 8) (dd DX8_best 61 rfl) rfl ?_
        refine sk_S.if_eq (tgt := 118) (dd DX8_best 62 rfl) (by decide) (fun c110 => absurd c110 (by decide)) (fun c110 => ?_)
        refine sk_S.iload (i := 7) (dd DX8_best 63 rfl) rfl ?_
        refine sk_S.goto (tgt := 120) (dd DX8_best 64 rfl) (by decide) ?_
        refine sk_S.istore (i := 5) (dd DX8_best 66 rfl) (Nat.le_of_ble_eq_true rfl) rfl ?_
        refine sk_S.iinc (i := 6) (v := _ + 1) (dd DX8_best 67 rfl) rfl rfl rfl ?_
        refine sk_S.goto (tgt := 39) (dd DX8_best 68 rfl) (by decide) ?_
        refine sk_S.L (lp_best hj hρ hb hI hJ m (n + 1) _ (some (.int (gainG ρ j n))) (some (.int 1)) (by omega) (ho.tr o2)) ?_
        rw [bst_s1 (Or.inr (Int32.not_le.mp c84)), nI_succ n]
        rfl
set_option maxRecDepth 100000 in
set_option maxHeartbeats 4000000 in
theorem cM_best {l : Launch} {E : sk_V} {d : Nat} {h : sk_M} {f w : Int32} (hb : boI (h 55)) (hI : lawI (h 55) 0) (hJ : lawI (h 55) 1) : sk_K l E (d + 7) MX8_best [.ref 54, .int f, .int w] h (fun r h1 => (¬ (inN f 4 ∧ inN w 2) ∧ erM h 1 h1 r) ∨ (∃ j, j < 4 ∧ f = nI j ∧ inN w 2 ∧ sk_o [63, 64] h h1 ∧ some (.int (if w = 0 then (bstG (h 55) j 100).1 else (bstG (h 55) j 100).2)) = r)) := by
  refine sk_K.of (by decide +kernel) (Nat.le_of_ble_eq_true rfl) ?_
  show sk_S l E (d + 7) _ 0 [some (.ref 54), some (.int f), some (.int w), none, none, none, none, none, none] [] h _
  refine sk_S.iload_n (i := 1) (dd DX8_best 0 rfl) rfl rfl ?_
  refine sk_S.callS (dd DX8_best 1 rfl) rfl kX8_89 cM_isFish rfl rfl rfl (Nat.le_of_ble_eq_true rfl) (fun r1 h1 q1 => ?_)
  obtain ⟨rfl, rfl⟩ := q1
  show sk_S _ _ _ _ _ _ (.int _ :: _) _ _
  refine sk_S.bif_eq (tgt := 16) (dd DX8_best 2 rfl) (by decide) (fun c4 => ?_) (fun c4 => ?_)
  · refine sk_S.aload_n (i := 0) (dd DX8_best 8 rfl) rfl rfl ?_
    refine sk_S.ldc (dd DX8_best 9 rfl) rfl cnX8_73 ?_
    refine sk_S.callV (dd DX8_best 10 rfl) rfl kX8_74 (cM_error (k := 1) ⟨by decide, by decide, by decide⟩) se_54 (by decide) rfl rfl rfl rfl (Nat.le_of_ble_eq_true rfl) (fun r19 h19 q19 => ?_)
    obtain ⟨rfl, rfl⟩ := q19
    show sk_S _ _ _ _ _ _ (.int _ :: _) _ _
    refine sk_S.iret (dd DX8_best 11 rfl) rfl rfl ?_
    exact Or.inl ⟨fun q => c4 ((inN_le (by decide)).mpr q.1), rfl, rfl⟩
  · refine sk_S.iload_n (i := 2) (dd DX8_best 3 rfl) rfl rfl ?_
    refine sk_S.iconst (v := 0) (dd DX8_best 4 rfl) (by decide) ?_
    refine sk_S.iconst (v := 1) (dd DX8_best 5 rfl) (by decide) ?_
    refine sk_S.callS (dd DX8_best 6 rfl) rfl kX8_47 cM_in rfl rfl rfl (Nat.le_of_ble_eq_true rfl) (fun r10 h10 q10 => ?_)
    obtain ⟨rfl, rfl⟩ := q10
    show sk_S _ _ _ _ _ _ (.int _ :: _) _ _
    refine sk_S.bif_ne (tgt := 23) (dd DX8_best 7 rfl) (by decide) (fun c13 => ?_) (fun c13 => ?_)
    · obtain ⟨j, hj, rfl⟩ := (inN_le (n := 4) (by decide)).mp c4
      refine sk_S.aload_n (i := 0) (dd DX8_best 12 rfl) rfl rfl ?_
      refine sk_S.iload_n (i := 1) (dd DX8_best 13 rfl) rfl rfl ?_
      refine sk_S.iconst (v := 0) (dd DX8_best 14 rfl) (by decide) ?_
      refine sk_S.callV (dd DX8_best 15 rfl) rfl kX8_92 (cM_coinsFor hj rfl hJ) se_54 (by decide) rfl rfl rfl rfl (Nat.le_of_ble_eq_true rfl) (fun r26 h26 q26 => ?_)
      obtain ⟨o1, rfl⟩ := q26
      show sk_S _ _ _ _ _ _ (.int _ :: _) _ _
      refine sk_S.istore_n (i := 3) (dd DX8_best 16 rfl) rfl (Nat.le_of_ble_eq_true rfl) rfl ?_
      refine sk_S.iconst (v := 0) (dd DX8_best 17 rfl) (by decide) ?_
      refine sk_S.istore (i := 4) (dd DX8_best 18 rfl) (Nat.le_of_ble_eq_true rfl) rfl ?_
      refine sk_S.iconst (v := 0) (dd DX8_best 19 rfl) (by decide) ?_
      refine sk_S.istore (i := 5) (dd DX8_best 20 rfl) (Nat.le_of_ble_eq_true rfl) rfl ?_
      refine sk_S.iconst (v := 0) (dd DX8_best 21 rfl) (by decide) ?_
      refine sk_S.istore (i := 6) (dd DX8_best 22 rfl) (Nat.le_of_ble_eq_true rfl) rfl ?_
      refine sk_S.mono (lp_best hj rfl hb hI hJ 100 0 _ none none rfl o1) ?_
      rintro r h1 ⟨q1, q2⟩
      exact Or.inr ⟨j, hj, rfl, (inN_le (by decide)).mp c13, q1, q2⟩
    · refine sk_S.aload_n (i := 0) (dd DX8_best 8 rfl) rfl rfl ?_
      refine sk_S.ldc (dd DX8_best 9 rfl) rfl cnX8_73 ?_
      refine sk_S.callV (dd DX8_best 10 rfl) rfl kX8_74 (cM_error (k := 1) ⟨by decide, by decide, by decide⟩) se_54 (by decide) rfl rfl rfl rfl (Nat.le_of_ble_eq_true rfl) (fun r19 h19 q19 => ?_)
      obtain ⟨rfl, rfl⟩ := q19
      show sk_S _ _ _ _ _ _ (.int _ :: _) _ _
      refine sk_S.iret (dd DX8_best 11 rfl) rfl rfl ?_
      exact Or.inl ⟨fun q => c13 ((inN_le (by decide)).mpr q.2), rfl, rfl⟩
set_option maxRecDepth 100000 in
set_option maxHeartbeats 4000000 in
theorem lp_agrees {l : Launch} {E : sk_V} {d : Nat} {h : sk_M} {ρ : Nat → Int32} {f w : Int32} (hρ : h 55 = ρ) (hb : boI ρ) (hI : lawI ρ 0) : ∀ (k m : Nat) (g : sk_M) (x6 : Option Value), m + k = 100 → sk_o [63, 64] h g → sk_S l E (d + 5) MX8_agrees 32 [some (.ref 54), some (.int f), some (.int w), some (.int (nI (cntD (agP ρ f) m))), some (.int (lstN (agP ρ f) m)), some (.int (nI (100 - m) - 1)), x6] [] g (fun r h1 => (w = 0 ∧ sk_o [63, 64] h h1 ∧ some (.int (nI (cntD (agP ρ f) 100))) = r) ∨ (¬ w = 0 ∧ ¬ 0 ≤ lstN (agP ρ f) 100 ∧ erT h 2 h1 r) ∨ (¬ w = 0 ∧ 0 ≤ lstN (agP ρ f) 100 ∧ sk_o [63, 64] h h1 ∧ some (.int (lstN (agP ρ f) 100)) = r))
  | 0, m, g, x6, hm, ho => by
    have hmm : m = 100 := by omega
    subst hmm
    refine sk_S.iload (i := 5) (dd DX8_agrees 18 rfl) rfl ?_
    refine sk_S.if_lt (tgt := 89) (dd DX8_agrees 19 rfl) (by decide) (fun c34 => ?_) (fun c34 => absurd (by decide) c34)
    refine sk_S.iload_n (i := 2) (dd DX8_agrees 46 rfl) rfl rfl ?_
    refine sk_S.if_ne (tgt := 97) (dd DX8_agrees 47 rfl) (by decide) (fun c90 => ?_) (fun c90 => ?_)
    · refine sk_S.iload (i := 4) (dd DX8_agrees 50 rfl) rfl ?_
      refine sk_S.if_ge (tgt := 111) (dd DX8_agrees 51 rfl) (by decide) (fun c99 => ?_) (fun c99 => ?_)
      · refine sk_S.iload (i := 4) (dd DX8_agrees 56 rfl) rfl ?_
        refine sk_S.iret (dd DX8_agrees 57 rfl) rfl rfl ?_
        exact Or.inr (Or.inr ⟨c90, c99, ho, rfl⟩)
      · refine sk_S.aload_n (i := 0) (dd DX8_agrees 52 rfl) rfl rfl ?_
        refine sk_S.ldc (dd DX8_agrees 53 rfl) rfl cnX8_190 ?_
        refine sk_S.callV (dd DX8_agrees 54 rfl) rfl kX8_74 (cM_error (k := 2) ⟨by decide, by decide, by decide⟩) se_54 (by decide) rfl rfl rfl rfl (Nat.le_of_ble_eq_true rfl) (fun r105 h105 q105 => ?_)
        obtain ⟨rfl, rfl⟩ := q105
        show sk_S _ _ _ _ _ _ (.int _ :: _) _ _
        refine sk_S.goto (tgt := 113) (dd DX8_agrees 55 rfl) (by decide) ?_
        refine sk_S.iret (dd DX8_agrees 57 rfl) rfl rfl ?_
        exact Or.inr (Or.inl ⟨c90, c99, g, ho, rfl, rfl⟩)
    · refine sk_S.iload_n (i := 3) (dd DX8_agrees 48 rfl) rfl rfl ?_
      refine sk_S.goto (tgt := 113) (dd DX8_agrees 49 rfl) (by decide) ?_
      refine sk_S.iret (dd DX8_agrees 57 rfl) rfl rfl ?_
      exact Or.inl ⟨c90, ho, rfl⟩
  | k + 1, m, g, x6, hm, ho => by
    have e55 : g 55 = ρ := (ho 55 (by decide)).trans hρ
    have e5 : nI (100 - m) - 1 = nI (99 - m) := by rw [show 100 - m = (99 - m) + 1 from by omega, nI_pred]
    rw [e5]
    refine sk_S.iload (i := 5) (dd DX8_agrees 18 rfl) rfl ?_
    refine sk_S.if_lt (tgt := 89) (dd DX8_agrees 19 rfl) (by decide) (fun c34 => absurd c34 (nI_pos (by omega))) (fun c34 => ?_)
    refine sk_S.aload_n (i := 0) (dd DX8_agrees 20 rfl) rfl rfl ?_
    refine sk_S.iload_n (i := 1) (dd DX8_agrees 21 rfl) rfl rfl ?_
    refine sk_S.iload (i := 5) (dd DX8_agrees 22 rfl) rfl ?_
    refine sk_S.callV (dd DX8_agrees 23 rfl) rfl kX8_66 (cM_catchBy e55 hb hI) se_54 (by decide) rfl rfl rfl rfl (Nat.le_of_ble_eq_true rfl) (fun r41 h41 q41 => ?_)
    obtain ⟨o2, rfl⟩ := q41
    show sk_S _ _ _ _ _ _ (.int _ :: _) _ _
    refine sk_S.iload (i := 5) (dd DX8_agrees 24 rfl) rfl ?_
    refine sk_S.icmp_ne (tgt := 53) (dd DX8_agrees 25 rfl) (by decide) (fun c46 => ?_) (fun c46 => ?_)
    · refine sk_S.iconst (v := 0) (dd DX8_agrees 28 rfl) (by decide) ?_
      refine sk_S.istore (i := 6) (dd DX8_agrees 29 rfl) (Nat.le_of_ble_eq_true rfl) rfl ?_
      refine sk_S.iload_n (i := 3) (dd DX8_agrees 30 rfl) rfl rfl ?_
      refine sk_S.iload (i := 6) (dd DX8_agrees 31 rfl) rfl ?_
      refine sk_S.if_eq (tgt := 66) (dd DX8_agrees 32 rfl) (by decide) (fun c59 => ?_) (fun c59 => absurd rfl c59)
      refine sk_S.iconst (v := 0) (dd DX8_agrees 35 rfl) (by decide) ?_
      refine sk_S.iadd (dd DX8_agrees 36 rfl) ?_
      refine sk_S.istore_n (i := 3) (dd DX8_agrees 37 rfl) rfl (Nat.le_of_ble_eq_true rfl) rfl ?_
      refine sk_S.iload (i := 6) (dd DX8_agrees 38 rfl) rfl ?_
      refine sk_S.if_eq (tgt := 79) (dd DX8_agrees 39 rfl) (by decide) (fun c71 => ?_) (fun c71 => absurd rfl c71)
      refine sk_S.iload (i := 4) (dd DX8_agrees 42 rfl) rfl ?_
      refine sk_S.istore (i := 4) (dd DX8_agrees 43 rfl) (Nat.le_of_ble_eq_true rfl) rfl ?_
      refine sk_S.iinc (i := 5) (v := _ - 1) (dd DX8_agrees 44 rfl) rfl iinc_m1 rfl ?_
      refine sk_S.goto (tgt := 32) (dd DX8_agrees 45 rfl) (by decide) ?_
      have eP : agP ρ f (99 - m) = false := by unfold agP; exact decide_eq_false c46
      have e1 : cntD (agP ρ f) (m + 1) = cntD (agP ρ f) m + 0 := by
        show cntD (agP ρ f) m + (if _ then 1 else 0) = _
        rw [eP]; rfl
      have e2 : lstN (agP ρ f) (m + 1) = lstN (agP ρ f) m := by
        show (if _ then _ else _) = _
        rw [eP]; rfl
      refine sk_S.L (lp_agrees hρ hb hI k (m + 1) _ (some (.int 0)) (by omega) (ho.tr o2)) ?_
      rw [e1, e2, ← nI_add (cntD (agP ρ f) m), show 100 - (m + 1) = 99 - m from by omega]
      rfl
    · refine sk_S.iconst (v := 1) (dd DX8_agrees 26 rfl) (by decide) ?_
      refine sk_S.goto (tgt := 54) (dd DX8_agrees 27 rfl) (by decide) ?_
      refine sk_S.istore (i := 6) (dd DX8_agrees 29 rfl) (Nat.le_of_ble_eq_true rfl) rfl ?_
      refine sk_S.iload_n (i := 3) (dd DX8_agrees 30 rfl) rfl rfl ?_
      refine sk_S.iload (i := 6) (dd DX8_agrees 31 rfl) rfl ?_
      refine sk_S.if_eq (tgt := 66) (dd DX8_agrees 32 rfl) (by decide) (fun c59 => absurd c59 (by decide)) (fun c59 => ?_)
      refine sk_S.iconst (v := 1) (dd DX8_agrees 33 rfl) (by decide) ?_
      refine sk_S.goto (tgt := 67) (dd DX8_agrees 34 rfl) (by decide) ?_
      refine sk_S.iadd (dd DX8_agrees 36 rfl) ?_
      refine sk_S.istore_n (i := 3) (dd DX8_agrees 37 rfl) rfl (Nat.le_of_ble_eq_true rfl) rfl ?_
      refine sk_S.iload (i := 6) (dd DX8_agrees 38 rfl) rfl ?_
      refine sk_S.if_eq (tgt := 79) (dd DX8_agrees 39 rfl) (by decide) (fun c71 => absurd c71 (by decide)) (fun c71 => ?_)
      refine sk_S.iload (i := 5) (dd DX8_agrees 40 rfl) rfl ?_
      refine sk_S.goto (tgt := 81) (dd DX8_agrees 41 rfl) (by decide) ?_
      refine sk_S.istore (i := 4) (dd DX8_agrees 43 rfl) (Nat.le_of_ble_eq_true rfl) rfl ?_
      refine sk_S.iinc (i := 5) (v := _ - 1) (dd DX8_agrees 44 rfl) rfl iinc_m1 rfl ?_
      refine sk_S.goto (tgt := 32) (dd DX8_agrees 45 rfl) (by decide) ?_
      have eP : agP ρ f (99 - m) = true := by unfold agP; exact decide_eq_true c46
      have e1 : cntD (agP ρ f) (m + 1) = cntD (agP ρ f) m + 1 := by
        show cntD (agP ρ f) m + (if _ then 1 else 0) = _
        rw [eP]; rfl
      have e2 : lstN (agP ρ f) (m + 1) = nI (99 - m) := by
        show (if _ then _ else _) = _
        rw [eP]; rfl
      refine sk_S.L (lp_agrees hρ hb hI k (m + 1) _ (some (.int 1)) (by omega) (ho.tr o2)) ?_
      rw [e1, e2, ← nI_add (cntD (agP ρ f) m), show 100 - (m + 1) = 99 - m from by omega]
      rfl
set_option maxRecDepth 100000 in
set_option maxHeartbeats 4000000 in
theorem cM_agrees {l : Launch} {E : sk_V} {d : Nat} {h : sk_M} {f w : Int32} (hb : boI (h 55)) (hI : lawI (h 55) 0) : sk_K l E (d + 5) MX8_agrees [.ref 54, .int f, .int w] h (fun r h1 => (¬ (inN f 4 ∧ inN w 2) ∧ erM h 1 h1 r) ∨ (inN f 4 ∧ inN w 2 ∧ ((w = 0 ∧ sk_o [63, 64] h h1 ∧ some (.int (nI (cntD (agP (h 55) f) 100))) = r) ∨ (¬ w = 0 ∧ ¬ 0 ≤ lstN (agP (h 55) f) 100 ∧ erT h 2 h1 r) ∨ (¬ w = 0 ∧ 0 ≤ lstN (agP (h 55) f) 100 ∧ sk_o [63, 64] h h1 ∧ some (.int (lstN (agP (h 55) f) 100)) = r)))) := by
  refine sk_K.of (by decide +kernel) (Nat.le_of_ble_eq_true rfl) ?_
  show sk_S l E (d + 5) _ 0 [some (.ref 54), some (.int f), some (.int w), none, none, none, none] [] h _
  refine sk_S.iload_n (i := 1) (dd DX8_agrees 0 rfl) rfl rfl ?_
  refine sk_S.callS (dd DX8_agrees 1 rfl) rfl kX8_89 cM_isFish rfl rfl rfl (Nat.le_of_ble_eq_true rfl) (fun r1 h1 q1 => ?_)
  obtain ⟨rfl, rfl⟩ := q1
  show sk_S _ _ _ _ _ _ (.int _ :: _) _ _
  refine sk_S.bif_eq (tgt := 16) (dd DX8_agrees 2 rfl) (by decide) (fun c4 => ?_) (fun c4 => ?_)
  · refine sk_S.aload_n (i := 0) (dd DX8_agrees 8 rfl) rfl rfl ?_
    refine sk_S.ldc (dd DX8_agrees 9 rfl) rfl cnX8_73 ?_
    refine sk_S.callV (dd DX8_agrees 10 rfl) rfl kX8_74 (cM_error (k := 1) ⟨by decide, by decide, by decide⟩) se_54 (by decide) rfl rfl rfl rfl (Nat.le_of_ble_eq_true rfl) (fun r19 h19 q19 => ?_)
    obtain ⟨rfl, rfl⟩ := q19
    show sk_S _ _ _ _ _ _ (.int _ :: _) _ _
    refine sk_S.iret (dd DX8_agrees 11 rfl) rfl rfl ?_
    exact Or.inl ⟨fun q => c4 ((inN_le (by decide)).mpr q.1), rfl, rfl⟩
  · refine sk_S.iload_n (i := 2) (dd DX8_agrees 3 rfl) rfl rfl ?_
    refine sk_S.iconst (v := 0) (dd DX8_agrees 4 rfl) (by decide) ?_
    refine sk_S.iconst (v := 1) (dd DX8_agrees 5 rfl) (by decide) ?_
    refine sk_S.callS (dd DX8_agrees 6 rfl) rfl kX8_47 cM_in rfl rfl rfl (Nat.le_of_ble_eq_true rfl) (fun r10 h10 q10 => ?_)
    obtain ⟨rfl, rfl⟩ := q10
    show sk_S _ _ _ _ _ _ (.int _ :: _) _ _
    refine sk_S.bif_ne (tgt := 23) (dd DX8_agrees 7 rfl) (by decide) (fun c13 => ?_) (fun c13 => ?_)
    · refine sk_S.iconst (v := 0) (dd DX8_agrees 12 rfl) (by decide) ?_
      refine sk_S.istore_n (i := 3) (dd DX8_agrees 13 rfl) rfl (Nat.le_of_ble_eq_true rfl) rfl ?_
      refine sk_S.iconst (v := -1) (dd DX8_agrees 14 rfl) (by decide) ?_
      refine sk_S.istore (i := 4) (dd DX8_agrees 15 rfl) (Nat.le_of_ble_eq_true rfl) rfl ?_
      refine sk_S.bipush (v := 99) (dd DX8_agrees 16 rfl) (by decide) ?_
      refine sk_S.istore (i := 5) (dd DX8_agrees 17 rfl) (Nat.le_of_ble_eq_true rfl) rfl ?_
      refine sk_S.mono (lp_agrees rfl hb hI 100 0 h none rfl sk_o.rf) ?_
      intro r h1 q
      exact Or.inr ⟨(inN_le (by decide)).mp c4, (inN_le (by decide)).mp c13, q⟩
    · refine sk_S.aload_n (i := 0) (dd DX8_agrees 8 rfl) rfl rfl ?_
      refine sk_S.ldc (dd DX8_agrees 9 rfl) rfl cnX8_73 ?_
      refine sk_S.callV (dd DX8_agrees 10 rfl) rfl kX8_74 (cM_error (k := 1) ⟨by decide, by decide, by decide⟩) se_54 (by decide) rfl rfl rfl rfl (Nat.le_of_ble_eq_true rfl) (fun r19 h19 q19 => ?_)
      obtain ⟨rfl, rfl⟩ := q19
      show sk_S _ _ _ _ _ _ (.int _ :: _) _ _
      refine sk_S.iret (dd DX8_agrees 11 rfl) rfl rfl ?_
      exact Or.inl ⟨fun q => c13 ((inN_le (by decide)).mpr q.2), rfl, rfl⟩
end M9
end
section
section SPEC10
def cpyN (f g : Nat → Int32) (n : Nat) : Nat → Int32 := fun k => if k < n then f k else g k
theorem cpyN_0 {f g : Nat → Int32} : cpyN f g 0 = g := by
  funext k
  unfold cpyN
  rw [if_neg (Nat.not_lt_zero _)]
theorem cpyN_s {f g : Nat → Int32} {n : Nat} : upd (cpyN f g n) n (f n) = cpyN f g (n + 1) := by
  funext k
  unfold cpyN upd
  by_cases q : k = n
  · rw [if_pos q, if_pos (by omega), q]
  · rw [if_neg q]
    show (if k < n then f k else g k) = _
    by_cases q2 : k < n
    · rw [if_pos q2, if_pos (by omega)]
    · rw [if_neg q2, if_neg (by omega)]
/-- the place of the first number that waits and isn't what is sold -/
def chP (g : Nat → Int32) (i : Nat) : Bool := decide (¬ (i < 4 ∧ g (95 + i) = g (9 + i)))
def chV (g : Nat → Int32) (n : Nat) (q : Nat) : Int32 := if q < n then nI (1 + q) else 0
def pcN (r : Nat) : Nat := r % 2 + r / 2 % 2 + r / 4 % 2 + r / 8 % 2 + r / 16 % 2 + r / 32 % 2
theorem pcN_s : ∀ r, r < 64 → 0 < r → (nI r &&& (nI r - 1)) = nI (r &&& (r - 1)) ∧ (r &&& (r - 1)) < r ∧ pcN r = pcN (r &&& (r - 1)) + 1 := by decide +kernel
theorem pcN_le : ∀ r, r < 64 → pcN r ≤ 6 := by decide +kernel
abbrev bitP (s j : Nat) : Prop := (nI s >>> (nI j &&& 31)) &&& 1 = 1
def setS (X : Nat → Nat → Int32) (s f : Nat) : Nat → Int32 := sumN (fun b => if bitP s b then X b f else 0)
/-- a set of boats is enough for the first n fish -/
def setE (g : Nat → Int32) (X : Nat → Nat → Int32) (s : Nat) : Nat → Prop
  | 0 => True
  | f + 1 => setE g X s f ∧ g (9 + f) ≤ setS X s f (boN g)
/-- the least of the fewest so far; 64: none -/
noncomputable def ndN (g : Nat → Int32) (X : Nat → Nat → Int32) : Nat → Nat
  | 0 => 64
  | s + 1 => @ite _ ((ndN g X s = 64 ∨ pcN s < pcN (ndN g X s)) ∧ setE g X s 4) (Classical.propDecidable _) s (ndN g X s)
def ndI (n : Nat) : Int32 := if n = 64 then -1 else nI n
theorem ndN_le {g : Nat → Int32} {X : Nat → Nat → Int32} : ∀ s, ndN g X s = 64 ∨ ndN g X s < s
  | 0 => Or.inl rfl
  | s + 1 => by
    have ih := ndN_le (g := g) (X := X) s
    unfold ndN
    split <;> omega
theorem ndN_1 {g : Nat → Int32} {X : Nat → Nat → Int32} {s : Nat} (q : (ndN g X s = 64 ∨ pcN s < pcN (ndN g X s)) ∧ setE g X s 4) : ndN g X (s + 1) = s := by
  rw [ndN, if_pos q]
theorem ndN_0 {g : Nat → Int32} {X : Nat → Nat → Int32} {s : Nat} (q : ¬ ((ndN g X s = 64 ∨ pcN s < pcN (ndN g X s)) ∧ setE g X s 4)) : ndN g X (s + 1) = ndN g X s := by
  rw [ndN, if_neg q]
theorem shl_nb : ∀ n, n ≤ 6 → (1 : Int32) <<< (nI n &&& 31) = nI (2 ^ n) := by
  intro n hn
  have h : n = 0 ∨ n = 1 ∨ n = 2 ∨ n = 3 ∨ n = 4 ∨ n = 5 ∨ n = 6 := by omega
  rcases h with rfl | rfl | rfl | rfl | rfl | rfl | rfl <;> decide +kernel
theorem pow_nb {n : Nat} (hn : n ≤ 6) : 2 ^ n ≤ 64 := by
  have h : n = 0 ∨ n = 1 ∨ n = 2 ∨ n = 3 ∨ n = 4 ∨ n = 5 ∨ n = 6 := by omega
  rcases h with rfl | rfl | rfl | rfl | rfl | rfl | rfl <;> decide
theorem ndI_neg {n : Nat} (h : n = 64) : ndI n = -1 := if_pos h
theorem ndI_pos {n : Nat} (h : ¬ n = 64) : ndI n = nI n := if_neg h
/-- what boats land, for what is sold -/
def lndX (g : Nat → Int32) (b f : Nat) : Int32 := landsG g b (nI f) (g (9 + f)) (g 3) (g 0)
end SPEC10
section SPEC10B
theorem setE_dn {g : Nat → Int32} {X : Nat → Nat → Int32} {s f : Nat} (hf : f < 4) (hm : f + 1 ≤ 4) (q : setE g X s 4) : setE g X s f ∧ g (9 + f) ≤ setS X s f (boN g) := by
  obtain ⟨⟨⟨⟨-, a0⟩, a1⟩, a2⟩, a3⟩ := q
  have h : f = 0 ∨ f = 1 ∨ f = 2 ∨ f = 3 := by omega
  rcases h with rfl | rfl | rfl | rfl
  · exact ⟨trivial, a0⟩
  · exact ⟨⟨trivial, a0⟩, a1⟩
  · exact ⟨⟨⟨trivial, a0⟩, a1⟩, a2⟩
  · exact ⟨⟨⟨⟨trivial, a0⟩, a1⟩, a2⟩, a3⟩
end SPEC10B
section SPEC10C
theorem sumN_cg2 {f g : Nat → Int32} {n : Nat} (h : ∀ k, k < n → f k = g k) : sumN f n = sumN g n := sumN_cg n h
theorem setE_cg {g : Nat → Int32} {X Y : Nat → Nat → Int32} {s : Nat} (h : ∀ b f, b < boN g → f < 4 → X b f = Y b f) : ∀ n, n ≤ 4 → (setE g X s n ↔ setE g Y s n)
  | 0, _ => Iff.rfl
  | n + 1, hn => by
    have ih := setE_cg (s := s) h n (by omega)
    have e : setS X s n (boN g) = setS Y s n (boN g) := by
      unfold setS
      exact sumN_cg _ (fun b hb => by show (if _ then _ else _) = _; rw [h b n hb (by omega)])
    show (setE g X s n ∧ _ ≤ setS X s n (boN g)) ↔ (setE g Y s n ∧ _ ≤ setS Y s n (boN g))
    rw [ih, e]
theorem nd80 {N : Nat} (hN : N < 100) (c : ndI N < 0) : N = 64 := by
  apply Decidable.byContradiction
  intro q
  rw [ndI_pos q] at c
  exact nI_pos (by omega) c
theorem nd91 {a b : Nat} (ha : a < 64) (hb : b < 64) (c : ¬ nI (pcN b) ≤ nI (pcN a)) : pcN a < pcN b := by
  apply Decidable.byContradiction
  intro q
  have h1 := pcN_le a ha
  exact c (nI_le (by omega) (by omega))
theorem nd91n {a b : Nat} (ha : a < 64) (c : nI (pcN b) ≤ nI (pcN a)) (hb : b < 64) : ¬ pcN a < pcN b := by
  have h1 := pcN_le a ha
  have h2 := pcN_le b hb
  rw [nI_leI (by omega) (by omega)] at c
  omega
theorem div_4 {k : Nat} (hk : k < 2 ^ 31) : nI k / 4 = nI (k / 4) := div_nI hk (by decide) (by decide)
end SPEC10C
section SPEC10D
theorem sk_S.bic_eq {l : Launch} {E : sk_V} {d : Nat} {M : sk_m} {pc : Nat} {L : List (Option Value)} {St : List Value} {h : sk_M} {Q : Option Value → sk_M → Prop} {c : Prop} {i : Decidable c} {off : Int} {tgt : Nat} (hd : decode M.2.1 pc = .ok (.ifCond .eq off, 3)) (ht : (pc : Int) + off = (tgt : Int)) (kt : ¬ c → sk_S l E d M tgt L St h Q) (kf : c → sk_S l E d M (pc + 3) L St h Q) : sk_S l E d M pc L (.int (@bi c i) :: St) h Q :=
  sk_S.bif_eq hd ht kt kf
theorem sk_S.bic_ne {l : Launch} {E : sk_V} {d : Nat} {M : sk_m} {pc : Nat} {L : List (Option Value)} {St : List Value} {h : sk_M} {Q : Option Value → sk_M → Prop} {c : Prop} {i : Decidable c} {off : Int} {tgt : Nat} (hd : decode M.2.1 pc = .ok (.ifCond .ne off, 3)) (ht : (pc : Int) + off = (tgt : Int)) (kt : c → sk_S l E d M tgt L St h Q) (kf : ¬ c → sk_S l E d M (pc + 3) L St h Q) : sk_S l E d M pc L (.int (@bi c i) :: St) h Q :=
  sk_S.bif_ne hd ht kt kf
end SPEC10D
end
section
section M10
set_option maxRecDepth 100000 in
set_option maxHeartbeats 4000000 in
theorem lp_soonest {l : Launch} {E : sk_V} {d : Nat} {h : sk_M} {ρ : Nat → Int32} {f n : Int32} {dy : Nat} (hρ : h 55 = ρ) (hdy : ρ 0 = nI dy) (hd9 : dy ≤ 9999) (hb : boI ρ) (hI : lawI ρ 0) : ∀ (m d0 : Nat) (g : sk_M), d0 + m = 61 → sk_o [55, 63, 64] h g → g 55 = upd ρ 0 (nI (dy + d0)) → (soF (soP ρ f n dy) 61 0) = (soF (soP ρ f n dy) m d0) → sk_S l E (d + 5) MX8_soonest 31 [some (.ref 54), some (.int f), some (.int n), some (.int (nI dy)), none] [] g (fun r h1 => ((soF (soP ρ f n dy) 61 0) = 61 ∧ erT h 2 h1 r) ∨ ((soF (soP ρ f n dy) 61 0) ≤ 60 ∧ sk_o [63, 64] h h1 ∧ some (.int (nI (soF (soP ρ f n dy) 61 0))) = r))
  | 0, d0, g, hd, ho, hg, hs => by
    have hd0 : d0 = 61 := by omega
    have hs2 : (soF (soP ρ f n dy) 61 0) = 61 := by rw [hs, hd0]; rfl
    refine sk_S.aload_n (i := 0) (dd DX8_soonest 17 rfl) rfl rfl ?_
    refine sk_S.getr (dd DX8_soonest 18 rfl) rfl fX8_9 se_54 (by decide) rfl ?_
    refine sk_S.iconst (v := 0) (dd DX8_soonest 19 rfl) (by decide) ?_
    refine sk_S.iald (dd DX8_soonest 20 rfl) se_55 (j := 0) ⟨by decide, by decide, by decide⟩ ?_
    refine sk_S.iload_n (i := 3) (dd DX8_soonest 21 rfl) rfl rfl ?_
    refine sk_S.bipush (v := 60) (dd DX8_soonest 22 rfl) (by decide) ?_
    refine sk_S.iadd (dd DX8_soonest 23 rfl) ?_
    refine sk_S.icmp_gt (tgt := 67) (dd DX8_soonest 24 rfl) (by decide) (fun c41 => ?_) (fun c41 => absurd (by rw [hg, upd_eq, hd0]; show nI dy + nI 60 < nI (dy + 61); rw [nI_add]; exact nI_lt (by omega) (by omega)) c41)
    refine sk_S.aload_n (i := 0) (dd DX8_soonest 40 rfl) rfl rfl ?_
    refine sk_S.getr (dd DX8_soonest 41 rfl) rfl fX8_9 se_54 (by decide) rfl ?_
    refine sk_S.iconst (v := 0) (dd DX8_soonest 42 rfl) (by decide) ?_
    refine sk_S.iald (dd DX8_soonest 43 rfl) se_55 (j := 0) ⟨by decide, by decide, by decide⟩ ?_
    refine sk_S.iload_n (i := 3) (dd DX8_soonest 44 rfl) rfl rfl ?_
    refine sk_S.isub (dd DX8_soonest 45 rfl) ?_
    refine sk_S.istore (i := 4) (dd DX8_soonest 46 rfl) (Nat.le_of_ble_eq_true rfl) rfl ?_
    refine sk_S.L (L1 := [some (.ref 54), some (.int f), some (.int n), some (.int (nI dy)), some (.int (nI d0))]) ?_ (by rw [hg, upd_eq, ← nI_add, Int32.add_comm, Int32.add_sub_cancel]; rfl)
    refine sk_S.aload_n (i := 0) (dd DX8_soonest 47 rfl) rfl rfl ?_
    refine sk_S.getr (dd DX8_soonest 48 rfl) rfl fX8_9 se_54 (by decide) rfl ?_
    refine sk_S.iconst (v := 0) (dd DX8_soonest 49 rfl) (by decide) ?_
    refine sk_S.iload_n (i := 3) (dd DX8_soonest 50 rfl) rfl rfl ?_
    refine sk_S.iast (dd DX8_soonest 51 rfl) se_55 (j := 0) ⟨by decide, by decide, by decide⟩ ?_
    have hb2 : sk_o [63, 64] h (sk_u g 55 0 (nI dy)) := back_o (ho.u (by decide)) (by rw [sk_u, sk_r_eq, hg, upd_upd, hρ, ← hdy, upd_self])
    refine sk_S.iload (i := 4) (dd DX8_soonest 52 rfl) rfl ?_
    refine sk_S.bipush (v := 60) (dd DX8_soonest 53 rfl) (by decide) ?_
    refine sk_S.icmp_le (tgt := 100) (dd DX8_soonest 54 rfl) (by decide) (fun c88 => absurd c88 (by rw [hd0]; decide)) (fun c88 => ?_)
    refine sk_S.aload_n (i := 0) (dd DX8_soonest 55 rfl) rfl rfl ?_
    refine sk_S.ldc (dd DX8_soonest 56 rfl) rfl cnX8_190 ?_
    refine sk_S.callV (dd DX8_soonest 57 rfl) rfl kX8_74 (cM_error (k := 2) ⟨by decide, by decide, by decide⟩) se_54 (by decide) rfl rfl rfl rfl (Nat.le_of_ble_eq_true rfl) (fun r94 h94 q94 => ?_)
    obtain ⟨rfl, rfl⟩ := q94
    show sk_S _ _ _ _ _ _ (.int _ :: _) _ _
    refine sk_S.goto (tgt := 102) (dd DX8_soonest 58 rfl) (by decide) ?_
    refine sk_S.iret (dd DX8_soonest 60 rfl) rfl rfl ?_
    exact Or.inl ⟨hs2, _, hb2, rfl, rfl⟩
  | m + 1, d0, g, hd, ho, hg, hs => by
    refine sk_S.aload_n (i := 0) (dd DX8_soonest 17 rfl) rfl rfl ?_
    refine sk_S.getr (dd DX8_soonest 18 rfl) rfl fX8_9 se_54 (by decide) rfl ?_
    refine sk_S.iconst (v := 0) (dd DX8_soonest 19 rfl) (by decide) ?_
    refine sk_S.iald (dd DX8_soonest 20 rfl) se_55 (j := 0) ⟨by decide, by decide, by decide⟩ ?_
    refine sk_S.iload_n (i := 3) (dd DX8_soonest 21 rfl) rfl rfl ?_
    refine sk_S.bipush (v := 60) (dd DX8_soonest 22 rfl) (by decide) ?_
    refine sk_S.iadd (dd DX8_soonest 23 rfl) ?_
    refine sk_S.icmp_gt (tgt := 67) (dd DX8_soonest 24 rfl) (by decide) (fun c41 => absurd c41 (by rw [hg, upd_eq]; show ¬ nI dy + nI 60 < nI (dy + d0); rw [nI_add]; exact nI_nlt (by omega) (by omega))) (fun c41 => ?_)
    refine sk_S.aload_n (i := 0) (dd DX8_soonest 25 rfl) rfl rfl ?_
    refine sk_S.iload_n (i := 1) (dd DX8_soonest 26 rfl) rfl rfl ?_
    refine sk_S.iload_n (i := 2) (dd DX8_soonest 27 rfl) rfl rfl ?_
    refine sk_S.callV (dd DX8_soonest 28 rfl) rfl kX8_66 (cM_catchBy hg (boI_cg (upd_ne (by decide)) hb) (lawI_cg (fun k hk => upd_ne (by omega)) hI)) se_54 (by decide) rfl rfl rfl rfl (Nat.le_of_ble_eq_true rfl) (fun r47 h47 q47 => ?_)
    obtain ⟨o2, rfl⟩ := q47
    rw [catchG_d]
    have e55 := (o2 55 (by decide)).trans hg
    show sk_S _ _ _ _ _ _ (.int _ :: _) _ _
    refine sk_S.iload_n (i := 2) (dd DX8_soonest 29 rfl) rfl rfl ?_
    refine sk_S.icmp_ge (tgt := 67) (dd DX8_soonest 30 rfl) (by decide) (fun c51 => ?_) (fun c51 => ?_)
    · refine sk_S.aload_n (i := 0) (dd DX8_soonest 40 rfl) rfl rfl ?_
      refine sk_S.getr (dd DX8_soonest 41 rfl) rfl fX8_9 se_54 (by decide) rfl ?_
      refine sk_S.iconst (v := 0) (dd DX8_soonest 42 rfl) (by decide) ?_
      refine sk_S.iald (dd DX8_soonest 43 rfl) se_55 (j := 0) ⟨by decide, by decide, by decide⟩ ?_
      refine sk_S.iload_n (i := 3) (dd DX8_soonest 44 rfl) rfl rfl ?_
      refine sk_S.isub (dd DX8_soonest 45 rfl) ?_
      refine sk_S.istore (i := 4) (dd DX8_soonest 46 rfl) (Nat.le_of_ble_eq_true rfl) rfl ?_
      refine sk_S.L (L1 := [some (.ref 54), some (.int f), some (.int n), some (.int (nI dy)), some (.int (nI d0))]) ?_ (by rw [e55, upd_eq, ← nI_add, Int32.add_comm, Int32.add_sub_cancel]; rfl)
      refine sk_S.aload_n (i := 0) (dd DX8_soonest 47 rfl) rfl rfl ?_
      refine sk_S.getr (dd DX8_soonest 48 rfl) rfl fX8_9 se_54 (by decide) rfl ?_
      refine sk_S.iconst (v := 0) (dd DX8_soonest 49 rfl) (by decide) ?_
      refine sk_S.iload_n (i := 3) (dd DX8_soonest 50 rfl) rfl rfl ?_
      refine sk_S.iast (dd DX8_soonest 51 rfl) se_55 (j := 0) ⟨by decide, by decide, by decide⟩ ?_
      have hb2 : sk_o [63, 64] h (sk_u h47 55 0 (nI dy)) := back_o ((ho.tr (o2.more (by decide))).u (by decide)) (by rw [sk_u, sk_r_eq, e55, upd_upd, hρ, ← hdy, upd_self])
      refine sk_S.iload (i := 4) (dd DX8_soonest 52 rfl) rfl ?_
      refine sk_S.bipush (v := 60) (dd DX8_soonest 53 rfl) (by decide) ?_
      refine sk_S.icmp_le (tgt := 100) (dd DX8_soonest 54 rfl) (by decide) (fun c88 => ?_) (fun c88 => absurd (nI_le (b := 60) (by omega) (by omega)) c88)
      refine sk_S.iload (i := 4) (dd DX8_soonest 59 rfl) rfl ?_
      refine sk_S.iret (dd DX8_soonest 60 rfl) rfl rfl ?_
      have eP : soP ρ f n dy d0 = true := by unfold soP; exact decide_eq_true c51
      have hs2 : (soF (soP ρ f n dy) 61 0) = d0 := by
        rw [hs]
        show (if _ then _ else _) = _
        rw [eP]
        rfl
      exact Or.inr ⟨by rw [hs2]; omega, hb2, by rw [hs2]⟩
    · refine sk_S.aload_n (i := 0) (dd DX8_soonest 31 rfl) rfl rfl ?_
      refine sk_S.getr (dd DX8_soonest 32 rfl) rfl fX8_9 se_54 (by decide) rfl ?_
      refine sk_S.iconst (v := 0) (dd DX8_soonest 33 rfl) (by decide) ?_
      refine sk_S.dup2 (dd DX8_soonest 34 rfl) rfl rfl ?_
      refine sk_S.iald (dd DX8_soonest 35 rfl) se_55 (j := 0) ⟨by decide, by decide, by decide⟩ ?_
      refine sk_S.iconst (v := 1) (dd DX8_soonest 36 rfl) (by decide) ?_
      refine sk_S.iadd (dd DX8_soonest 37 rfl) ?_
      refine sk_S.iast (dd DX8_soonest 38 rfl) se_55 (j := 0) ⟨by decide, by decide, by decide⟩ ?_
      refine sk_S.goto (tgt := 31) (dd DX8_soonest 39 rfl) (by decide) ?_
      have eP : soP ρ f n dy d0 = false := by unfold soP; exact decide_eq_false c51
      refine lp_soonest hρ hdy hd9 hb hI m (d0 + 1) _ (by omega) ((ho.tr (o2.more (by decide))).u (by decide)) ?_ ?_
      · rw [sk_u, sk_r_eq, e55, upd_upd, upd_eq, ← Nat.add_assoc, nI_succ]
      · rw [hs]
        show (if _ then _ else _) = _
        rw [eP]
        rfl
set_option maxRecDepth 100000 in
set_option maxHeartbeats 4000000 in
theorem cM_soonest {l : Launch} {E : sk_V} {d : Nat} {h : sk_M} {f n : Int32} {dy : Nat} (hdy : h 55 0 = nI dy) (hd9 : dy ≤ 9999) (hb : boI (h 55)) (hI : lawI (h 55) 0) : sk_K l E (d + 6) MX8_soonest [.ref 54, .int f, .int n] h (fun r h1 => (¬ (inN f 4 ∧ inN n 100) ∧ erM h 1 h1 r) ∨ (inN f 4 ∧ inN n 100 ∧ (((soF (soP (h 55) f n dy) 61 0) = 61 ∧ erT h 2 h1 r) ∨ ((soF (soP (h 55) f n dy) 61 0) ≤ 60 ∧ sk_o [63, 64] h h1 ∧ some (.int (nI (soF (soP (h 55) f n dy) 61 0))) = r)))) := by
  refine sk_K.of (by decide +kernel) (Nat.le_of_ble_eq_true rfl) ?_
  show sk_S l E (d + 6) _ 0 [some (.ref 54), some (.int f), some (.int n), none, none] [] h _
  refine sk_S.iload_n (i := 1) (dd DX8_soonest 0 rfl) rfl rfl ?_
  refine sk_S.callS (dd DX8_soonest 1 rfl) rfl kX8_89 cM_isFish rfl rfl rfl (Nat.le_of_ble_eq_true rfl) (fun r1 h1 q1 => ?_)
  obtain ⟨rfl, rfl⟩ := q1
  show sk_S _ _ _ _ _ _ (.int _ :: _) _ _
  refine sk_S.bif_eq (tgt := 17) (dd DX8_soonest 2 rfl) (by decide) (fun c4 => ?_) (fun c4 => ?_)
  · refine sk_S.aload_n (i := 0) (dd DX8_soonest 8 rfl) rfl rfl ?_
    refine sk_S.ldc (dd DX8_soonest 9 rfl) rfl cnX8_73 ?_
    refine sk_S.callV (dd DX8_soonest 10 rfl) rfl kX8_74 (cM_error (k := 1) ⟨by decide, by decide, by decide⟩) se_54 (by decide) rfl rfl rfl rfl (Nat.le_of_ble_eq_true rfl) (fun r20 h20 q20 => ?_)
    obtain ⟨rfl, rfl⟩ := q20
    show sk_S _ _ _ _ _ _ (.int _ :: _) _ _
    refine sk_S.iret (dd DX8_soonest 11 rfl) rfl rfl ?_
    exact Or.inl ⟨fun q => c4 ((inN_le (by decide)).mpr q.1), rfl, rfl⟩
  · refine sk_S.iload_n (i := 2) (dd DX8_soonest 3 rfl) rfl rfl ?_
    refine sk_S.iconst (v := 0) (dd DX8_soonest 4 rfl) (by decide) ?_
    refine sk_S.bipush (v := 99) (dd DX8_soonest 5 rfl) (by decide) ?_
    refine sk_S.callS (dd DX8_soonest 6 rfl) rfl kX8_47 cM_in rfl rfl rfl (Nat.le_of_ble_eq_true rfl) (fun r11 h11 q11 => ?_)
    obtain ⟨rfl, rfl⟩ := q11
    show sk_S _ _ _ _ _ _ (.int _ :: _) _ _
    refine sk_S.bif_ne (tgt := 24) (dd DX8_soonest 7 rfl) (by decide) (fun c14 => ?_) (fun c14 => ?_)
    · refine sk_S.aload_n (i := 0) (dd DX8_soonest 12 rfl) rfl rfl ?_
      refine sk_S.getr (dd DX8_soonest 13 rfl) rfl fX8_9 se_54 (by decide) rfl ?_
      refine sk_S.iconst (v := 0) (dd DX8_soonest 14 rfl) (by decide) ?_
      refine sk_S.iald (dd DX8_soonest 15 rfl) se_55 (j := 0) ⟨by decide, by decide, by decide⟩ ?_
      refine sk_S.istore_n (i := 3) (dd DX8_soonest 16 rfl) rfl (Nat.le_of_ble_eq_true rfl) rfl ?_
      rw [hdy]
      refine sk_S.mono (lp_soonest rfl hdy hd9 hb hI 61 0 h rfl sk_o.rf (by rw [Nat.add_zero, ← hdy, upd_self]) rfl) ?_
      intro r h1 q
      exact Or.inr ⟨(inN_le (by decide)).mp c4, (inN_le (by decide)).mp c14, q⟩
    · refine sk_S.aload_n (i := 0) (dd DX8_soonest 8 rfl) rfl rfl ?_
      refine sk_S.ldc (dd DX8_soonest 9 rfl) rfl cnX8_73 ?_
      refine sk_S.callV (dd DX8_soonest 10 rfl) rfl kX8_74 (cM_error (k := 1) ⟨by decide, by decide, by decide⟩) se_54 (by decide) rfl rfl rfl rfl (Nat.le_of_ble_eq_true rfl) (fun r20 h20 q20 => ?_)
      obtain ⟨rfl, rfl⟩ := q20
      show sk_S _ _ _ _ _ _ (.int _ :: _) _ _
      refine sk_S.iret (dd DX8_soonest 11 rfl) rfl rfl ?_
      exact Or.inl ⟨fun q => c14 ((inN_le (by decide)).mpr q.2), rfl, rfl⟩
set_option maxRecDepth 100000 in
set_option maxHeartbeats 4000000 in
theorem lp_copy {l : Launch} {E : sk_V} {d : Nat} {h : sk_M} {x y : Nat} (hx : sk_e x = (0, 0, 361, [])) (hy : sk_e y = (0, 0, 361, [])) (hxy : x ≠ y) : ∀ (m i : Nat) (g : sk_M), i + m = 361 → sk_o [y] h g → g y = cpyN (h x) (h y) i → sk_S l E (d + 0) MX8_copyAll 2 [some (.ref x), some (.ref y), some (.int (nI i))] [] g (fun r h1 => sk_o [y] h h1 ∧ h1 y = cpyN (h x) (h y) 361 ∧ none = r)
  | 0, i, g, hi, ho, hg => by
    have hi0 : i = 361 := by omega
    subst hi0
    refine sk_S.iload_n (i := 2) (dd DX8_copyAll 2 rfl) rfl rfl ?_
    refine sk_S.sipush (v := 361) (dd DX8_copyAll 3 rfl) (by decide) ?_
    refine sk_S.icmp_ge (tgt := 21) (dd DX8_copyAll 4 rfl) (by decide) (fun c6 => ?_) (fun c6 => absurd (by decide) c6)
    refine sk_S.vret (dd DX8_copyAll 13 rfl) rfl ?_
    exact ⟨ho, hg, rfl⟩
  | m + 1, i, g, hi, ho, hg => by
    have ex : g x = h x := ho x (by simp [hxy])
    refine sk_S.iload_n (i := 2) (dd DX8_copyAll 2 rfl) rfl rfl ?_
    refine sk_S.sipush (v := 361) (dd DX8_copyAll 3 rfl) (by decide) ?_
    refine sk_S.icmp_ge (tgt := 21) (dd DX8_copyAll 4 rfl) (by decide) (fun c6 => absurd c6 (nI_ge (b := 361) (by omega) (by decide))) (fun c6 => ?_)
    refine sk_S.aload_n (i := 1) (dd DX8_copyAll 5 rfl) rfl rfl ?_
    refine sk_S.iload_n (i := 2) (dd DX8_copyAll 6 rfl) rfl rfl ?_
    refine sk_S.aload_n (i := 0) (dd DX8_copyAll 7 rfl) rfl rfl ?_
    refine sk_S.iload_n (i := 2) (dd DX8_copyAll 8 rfl) rfl rfl ?_
    refine sk_S.iald (dd DX8_copyAll 9 rfl) hx (sk_ix_nI (k := i) rfl (by omega) (by decide)) ?_
    refine sk_S.iast (dd DX8_copyAll 10 rfl) hy (sk_ix_nI (k := i) rfl (by omega) (by decide)) ?_
    refine sk_S.iinc (i := 2) (v := _ + 1) (dd DX8_copyAll 11 rfl) rfl rfl rfl ?_
    refine sk_S.goto (tgt := 2) (dd DX8_copyAll 12 rfl) (by decide) ?_
    exact sk_S.L (lp_copy hx hy hxy m (i + 1) _ (by omega) (ho.u (by simp)) (by rw [sk_u, sk_r_eq, hg, ex, cpyN_s])) (by rw [nI_succ]; rfl)
set_option maxRecDepth 100000 in
set_option maxHeartbeats 4000000 in
theorem cM_copyAll {l : Launch} {E : sk_V} {d : Nat} {h : sk_M} {x y : Nat} (hx : sk_e x = (0, 0, 361, [])) (hy : sk_e y = (0, 0, 361, [])) (hxy : x ≠ y)  : sk_K l E (d + 0) MX8_copyAll [.ref x, .ref y] h (fun r h1 => sk_o [y] h h1 ∧ h1 y = cpyN (h x) (h y) 361 ∧ none = r) := by
  refine sk_K.of (by decide +kernel) (Nat.le_of_ble_eq_true rfl) ?_
  show sk_S l E (d + 0) _ 0 [some (.ref x), some (.ref y), none] [] h _
  refine sk_S.iconst (v := 0) (dd DX8_copyAll 0 rfl) (by decide) ?_
  refine sk_S.istore_n (i := 2) (dd DX8_copyAll 1 rfl) rfl (Nat.le_of_ble_eq_true rfl) rfl ?_
  exact lp_copy hx hy hxy 361 0 h rfl sk_o.rf cpyN_0.symm
set_option maxRecDepth 100000 in
set_option maxHeartbeats 4000000 in
theorem cM_image {l : Launch} {E : sk_V} {d : Nat} {h : sk_M}   : sk_K l E (d + 1) MX8_image [.ref 54] h (fun r h1 => sk_o [54, 56] h h1 ∧ h1 56 = cpyN (h 55) (h 56) 361 ∧ h1 54 = upd (h 54) 2 (h 54 2 + 1) ∧ some (.int (h 54 2 + 1)) = r) := by
  refine sk_K.of (by decide +kernel) (Nat.le_of_ble_eq_true rfl) ?_
  show sk_S l E (d + 1) _ 0 [some (.ref 54)] [] h _
  refine sk_S.aload_n (i := 0) (dd DX8_image 0 rfl) rfl rfl ?_
  refine sk_S.getr (dd DX8_image 1 rfl) rfl fX8_9 se_54 (by decide) rfl ?_
  refine sk_S.aload_n (i := 0) (dd DX8_image 2 rfl) rfl rfl ?_
  refine sk_S.getr (dd DX8_image 3 rfl) rfl fX8_13 se_54 (by decide) rfl ?_
  refine sk_S.callS (dd DX8_image 4 rfl) rfl kX8_253 (cM_copyAll (x := 55) (y := 56) se_55 se_56 (by decide)) rfl rfl rfl (Nat.le_of_ble_eq_true rfl) (fun r8 h8 q8 => ?_)
  obtain ⟨ho, e56, rfl⟩ := q8
  have e54 : h8 54 = h 54 := ho 54 (by decide)
  show sk_S _ _ _ _ 11 _ _ _ _
  refine sk_S.aload_n (i := 0) (dd DX8_image 5 rfl) rfl rfl ?_
  refine sk_S.dup (dd DX8_image 6 rfl) rfl ?_
  refine sk_S.geti (dd DX8_image 7 rfl) rfl fX8_257 se_54 (by decide) rfl ?_
  refine sk_S.iconst (v := 1) (dd DX8_image 8 rfl) (by decide) ?_
  refine sk_S.iadd (dd DX8_image 9 rfl) ?_
  refine sk_S.putf (dd DX8_image 10 rfl) rfl pX8_257 se_54 (by decide) rfl rfl rfl ?_
  refine sk_S.aload_n (i := 0) (dd DX8_image 11 rfl) rfl rfl ?_
  refine sk_S.geti (dd DX8_image 12 rfl) rfl fX8_257 se_54 (by decide) rfl ?_
  refine sk_S.iret (dd DX8_image 13 rfl) rfl rfl ?_
  refine ⟨(ho.more (by decide)).u (by decide), (sk_r_ne _ _ (by decide)).trans e56, ?_, ?_⟩
  · rw [sk_u, sk_r_eq, e54]
  · rw [sk_u_at, if_pos rfl, if_pos rfl, e54]
set_option maxRecDepth 100000 in
set_option maxHeartbeats 4000000 in
theorem cM_restore {l : Launch} {E : sk_V} {d : Nat} {h : sk_M}   : sk_K l E (d + 1) MX8_restore [.ref 54] h (fun r h1 => (h 54 2 = 0 ∧ erM h 2 h1 r) ∨ (¬ h 54 2 = 0 ∧ sk_o [55] h h1 ∧ h1 55 = cpyN (h 56) (h 55) 361 ∧ some (.int (h 56 0)) = r)) := by
  refine sk_K.of (by decide +kernel) (Nat.le_of_ble_eq_true rfl) ?_
  show sk_S l E (d + 1) _ 0 [some (.ref 54)] [] h _
  refine sk_S.aload_n (i := 0) (dd DX8_restore 0 rfl) rfl rfl ?_
  refine sk_S.geti (dd DX8_restore 1 rfl) rfl fX8_257 se_54 (by decide) rfl ?_
  refine sk_S.if_ne (tgt := 14) (dd DX8_restore 2 rfl) (by decide) (fun c4 => ?_) (fun c4 => ?_)
  · refine sk_S.aload_n (i := 0) (dd DX8_restore 7 rfl) rfl rfl ?_
    refine sk_S.getr (dd DX8_restore 8 rfl) rfl fX8_13 se_54 (by decide) rfl ?_
    refine sk_S.aload_n (i := 0) (dd DX8_restore 9 rfl) rfl rfl ?_
    refine sk_S.getr (dd DX8_restore 10 rfl) rfl fX8_9 se_54 (by decide) rfl ?_
    refine sk_S.callS (dd DX8_restore 11 rfl) rfl kX8_253 (cM_copyAll (x := 56) (y := 55) se_56 se_55 (by decide)) rfl rfl rfl (Nat.le_of_ble_eq_true rfl) (fun r22 h22 q22 => ?_)
    obtain ⟨ho, e55, rfl⟩ := q22
    show sk_S _ _ _ _ 25 _ _ _ _
    refine sk_S.aload_n (i := 0) (dd DX8_restore 12 rfl) rfl rfl ?_
    refine sk_S.getr (dd DX8_restore 13 rfl) rfl fX8_9 se_54 (by decide) rfl ?_
    refine sk_S.iconst (v := 0) (dd DX8_restore 14 rfl) (by decide) ?_
    refine sk_S.iald (dd DX8_restore 15 rfl) se_55 (j := 0) ⟨by decide, by decide, by decide⟩ ?_
    refine sk_S.iret (dd DX8_restore 16 rfl) rfl rfl ?_
    refine Or.inr ⟨c4, ho, e55, ?_⟩
    rw [e55]
    rfl
  · refine sk_S.aload_n (i := 0) (dd DX8_restore 3 rfl) rfl rfl ?_
    refine sk_S.ldc (dd DX8_restore 4 rfl) rfl cnX8_190 ?_
    refine sk_S.callV (dd DX8_restore 5 rfl) rfl kX8_74 (cM_error (k := 2) ⟨by decide, by decide, by decide⟩) se_54 (by decide) rfl rfl rfl rfl (Nat.le_of_ble_eq_true rfl) (fun r10 h10 q10 => ?_)
    obtain ⟨rfl, rfl⟩ := q10
    show sk_S _ _ _ _ _ _ (.int _ :: _) _ _
    refine sk_S.iret (dd DX8_restore 6 rfl) rfl rfl ?_
    exact Or.inl ⟨c4, rfl, rfl⟩
set_option maxRecDepth 100000 in
set_option maxHeartbeats 4000000 in
theorem lp_check {l : Launch} {E : sk_V} {d : Nat} {ρ : Nat → Int32} {n : Nat} (hn : n ≤ 24) : ∀ (m i : Nat) (g : sk_M), i + m = n → g 55 = upd ρ 8 0 → (soF (chP ρ) n 0) = (soF (chP ρ) m i) → sk_S l E (d + 2) MX8_check 18 [some (.ref 54), some (.int (nI n)), some (.int (nI i))] [] g (fun r h1 => g = h1 ∧ some (.int (chV ρ n (soF (chP ρ) n 0))) = r)
  | 0, i, g, hi, hg, hs => by
    have hin : i = n := by omega
    refine sk_S.iload_n (i := 2) (dd DX8_check 12 rfl) rfl rfl ?_
    refine sk_S.iload_n (i := 1) (dd DX8_check 13 rfl) rfl rfl ?_
    refine sk_S.icmp_ge (tgt := 61) (dd DX8_check 14 rfl) (by decide) (fun c20 => ?_) (fun c20 => absurd (by rw [hin]; exact Int32.le_refl _) c20)
    refine sk_S.iconst (v := 0) (dd DX8_check 37 rfl) (by decide) ?_
    refine sk_S.iret (dd DX8_check 38 rfl) rfl rfl ?_
    refine ⟨rfl, ?_⟩
    rw [hs]
    show some (Value.int (if i < n then _ else _)) = _
    rw [if_neg (by omega)]
  | m + 1, i, g, hi, hg, hs => by
    refine sk_S.iload_n (i := 2) (dd DX8_check 12 rfl) rfl rfl ?_
    refine sk_S.iload_n (i := 1) (dd DX8_check 13 rfl) rfl rfl ?_
    refine sk_S.icmp_ge (tgt := 61) (dd DX8_check 14 rfl) (by decide) (fun c20 => absurd c20 (nI_ge (by omega) (by omega))) (fun c20 => ?_)
    refine sk_S.iload_n (i := 2) (dd DX8_check 15 rfl) rfl rfl ?_
    refine sk_S.callS (dd DX8_check 16 rfl) rfl kX8_89 cM_isFish rfl rfl rfl (Nat.le_of_ble_eq_true rfl) (fun r24 h24 q24 => ?_)
    obtain ⟨rfl, rfl⟩ := q24
    show sk_S _ _ _ _ _ _ (.int _ :: _) _ _
    refine sk_S.bif_eq (tgt := 51) (dd DX8_check 17 rfl) (by decide) (fun c27 => ?_) (fun c27 => ?_)
    · refine sk_S.iconst (v := 1) (dd DX8_check 31 rfl) (by decide) ?_
      refine sk_S.iload_n (i := 2) (dd DX8_check 32 rfl) rfl rfl ?_
      refine sk_S.iadd (dd DX8_check 33 rfl) ?_
      refine sk_S.iret (dd DX8_check 34 rfl) rfl rfl ?_
      have eP : chP ρ i = true := by
        unfold chP
        apply decide_eq_true
        rintro ⟨q1, q2⟩
        exact c27 ⟨nI_pos' (by omega), nI_le (b := 3) (by omega) (by decide)⟩
      refine ⟨rfl, ?_⟩
      have e9 : (soF (chP ρ) n 0) = i := by
        rw [hs]
        show (if _ then _ else _) = _
        rw [eP]
        rfl
      rw [e9]
      unfold chV
      rw [if_pos (by omega), ← nI_add]
      rfl
    · have hi4 : i < 4 := by
        have h2 : nI i ≤ nI 3 := c27.2
        rw [nI_leI (by omega) (by decide)] at h2
        omega
      refine sk_S.aload_n (i := 0) (dd DX8_check 18 rfl) rfl rfl ?_
      refine sk_S.getr (dd DX8_check 19 rfl) rfl fX8_9 se_54 (by decide) rfl ?_
      refine sk_S.bipush (v := 95) (dd DX8_check 20 rfl) (by decide) ?_
      refine sk_S.iload_n (i := 2) (dd DX8_check 21 rfl) rfl rfl ?_
      refine sk_S.iadd (dd DX8_check 22 rfl) ?_
      refine sk_S.iald (dd DX8_check 23 rfl) se_55 (sk_ix_e (k := 95 + i) (ix_add 95 i) (by omega) (by decide)) ?_
      refine sk_S.aload_n (i := 0) (dd DX8_check 24 rfl) rfl rfl ?_
      refine sk_S.getr (dd DX8_check 25 rfl) rfl fX8_9 se_54 (by decide) rfl ?_
      refine sk_S.bipush (v := 9) (dd DX8_check 26 rfl) (by decide) ?_
      refine sk_S.iload_n (i := 2) (dd DX8_check 27 rfl) rfl rfl ?_
      refine sk_S.iadd (dd DX8_check 28 rfl) ?_
      refine sk_S.iald (dd DX8_check 29 rfl) se_55 (sk_ix_e (k := 9 + i) (ix_add 9 i) (by omega) (by decide)) ?_
      refine sk_S.icmp_eq (tgt := 55) (dd DX8_check 30 rfl) (by decide) (fun c48 => ?_) (fun c48 => ?_)
      · refine sk_S.iinc (i := 2) (v := _ + 1) (dd DX8_check 35 rfl) rfl rfl rfl ?_
        refine sk_S.goto (tgt := 18) (dd DX8_check 36 rfl) (by decide) ?_
        have e9 : (soF (chP ρ) n 0) = (soF (chP ρ) m (i + 1)) := by
          rw [hs]
          show (if _ then _ else _) = _
          have eP : chP ρ i = false := by
            unfold chP
            apply decide_eq_false
            intro q
            apply q
            rw [hg, upd_ne (by omega), upd_ne (by omega)] at c48
            exact ⟨hi4, c48⟩
          rw [eP]
          rfl
        exact sk_S.L (lp_check hn m (i + 1) g (by omega) hg e9) (by rw [nI_succ]; rfl)
      · refine sk_S.iconst (v := 1) (dd DX8_check 31 rfl) (by decide) ?_
        refine sk_S.iload_n (i := 2) (dd DX8_check 32 rfl) rfl rfl ?_
        refine sk_S.iadd (dd DX8_check 33 rfl) ?_
        refine sk_S.iret (dd DX8_check 34 rfl) rfl rfl ?_
        have eP : chP ρ i = true := by
          unfold chP
          apply decide_eq_true
          rintro ⟨q1, q2⟩
          rw [hg, upd_ne (by omega), upd_ne (by omega)] at c48
          exact c48 q2
        refine ⟨rfl, ?_⟩
        have e9 : (soF (chP ρ) n 0) = i := by
          rw [hs]
          show (if _ then _ else _) = _
          rw [eP]
          rfl
        rw [e9]
        unfold chV
        rw [if_pos (by omega), ← nI_add]
        rfl
set_option maxRecDepth 100000 in
set_option maxHeartbeats 4000000 in
theorem cM_check {l : Launch} {E : sk_V} {d : Nat} {h : sk_M} {n : Nat} (hn : h 55 8 = nI n) (hn24 : n ≤ 24) : sk_K l E (d + 2) MX8_check [.ref 54] h (fun r h1 => sk_u h 55 8 0 = h1 ∧ some (.int (chV (h 55) n (soF (chP (h 55)) n 0))) = r) := by
  refine sk_K.of (by decide +kernel) (Nat.le_of_ble_eq_true rfl) ?_
  show sk_S l E (d + 2) _ 0 [some (.ref 54), none, none] [] h _
  refine sk_S.aload_n (i := 0) (dd DX8_check 0 rfl) rfl rfl ?_
  refine sk_S.getr (dd DX8_check 1 rfl) rfl fX8_9 se_54 (by decide) rfl ?_
  refine sk_S.bipush (v := 8) (dd DX8_check 2 rfl) (by decide) ?_
  refine sk_S.iald (dd DX8_check 3 rfl) se_55 (j := 8) ⟨by decide, by decide, by decide⟩ ?_
  refine sk_S.istore_n (i := 1) (dd DX8_check 4 rfl) rfl (Nat.le_of_ble_eq_true rfl) rfl ?_
  refine sk_S.aload_n (i := 0) (dd DX8_check 5 rfl) rfl rfl ?_
  refine sk_S.getr (dd DX8_check 6 rfl) rfl fX8_9 se_54 (by decide) rfl ?_
  refine sk_S.bipush (v := 8) (dd DX8_check 7 rfl) (by decide) ?_
  refine sk_S.iconst (v := 0) (dd DX8_check 8 rfl) (by decide) ?_
  refine sk_S.iast (dd DX8_check 9 rfl) se_55 (j := 8) ⟨by decide, by decide, by decide⟩ ?_
  refine sk_S.iconst (v := 0) (dd DX8_check 10 rfl) (by decide) ?_
  refine sk_S.istore_n (i := 2) (dd DX8_check 11 rfl) rfl (Nat.le_of_ble_eq_true rfl) rfl ?_
  rw [hn]
  exact lp_check hn24 n 0 _ (Nat.zero_add _) (sk_r_eq _ _ _) rfl
set_option maxRecDepth 100000 in
set_option maxHeartbeats 4000000 in
theorem lp_bits {l : Launch} {E : sk_V} {d : Nat} {h : sk_M} {x0 : Int32} : ∀ (m s n : Nat), s ≤ m → s < 64 → sk_S l E (d + 0) MX8_bits 4 [some (.int x0), some (.int (nI n)), some (.int (nI s))] [] h (fun r h1 => h = h1 ∧ some (.int (nI (n + pcN s))) = r)
  | 0, s, n, hs, h64 => by
    have hs0 : s = 0 := by omega
    subst hs0
    refine sk_S.iload_n (i := 2) (dd DX8_bits 4 rfl) rfl rfl ?_
    refine sk_S.if_eq (tgt := 20) (dd DX8_bits 5 rfl) (by decide) (fun c5 => ?_) (fun c5 => absurd nI_0 c5)
    refine sk_S.iload_n (i := 1) (dd DX8_bits 14 rfl) rfl rfl ?_
    refine sk_S.iret (dd DX8_bits 15 rfl) rfl rfl ?_
    exact ⟨rfl, rfl⟩
  | m + 1, s, n, hs, h64 => by
    refine sk_S.iload_n (i := 2) (dd DX8_bits 4 rfl) rfl rfl ?_
    refine sk_S.if_eq (tgt := 20) (dd DX8_bits 5 rfl) (by decide) (fun c5 => ?_) (fun c5 => ?_)
    · refine sk_S.iload_n (i := 1) (dd DX8_bits 14 rfl) rfl rfl ?_
      refine sk_S.iret (dd DX8_bits 15 rfl) rfl rfl ?_
      have hs0 : s = 0 := by
        have h2 : nI s = nI 0 := c5
        exact (nI_eq (by omega) (by decide)).mp h2
      subst hs0
      exact ⟨rfl, rfl⟩
    · refine sk_S.iinc (i := 1) (v := _ + 1) (dd DX8_bits 6 rfl) rfl rfl rfl ?_
      refine sk_S.iload_n (i := 2) (dd DX8_bits 7 rfl) rfl rfl ?_
      refine sk_S.iload_n (i := 2) (dd DX8_bits 8 rfl) rfl rfl ?_
      refine sk_S.iconst (v := 1) (dd DX8_bits 9 rfl) (by decide) ?_
      refine sk_S.isub (dd DX8_bits 10 rfl) ?_
      refine sk_S.iand (dd DX8_bits 11 rfl) ?_
      refine sk_S.istore_n (i := 2) (dd DX8_bits 12 rfl) rfl (Nat.le_of_ble_eq_true rfl) rfl ?_
      refine sk_S.goto (tgt := 4) (dd DX8_bits 13 rfl) (by decide) ?_
      have hp : 0 < s := by
        apply Nat.pos_of_ne_zero
        intro q
        apply c5
        rw [q]
        rfl
      obtain ⟨a1, a2, a3⟩ := pcN_s s h64 hp
      rw [a3, show n + (pcN (s &&& (s - 1)) + 1) = n + 1 + pcN (s &&& (s - 1)) from by omega]
      exact sk_S.L (lp_bits m (s &&& (s - 1)) (n + 1) (by omega) (by omega)) (by rw [← a1, nI_succ]; rfl)
set_option maxRecDepth 100000 in
set_option maxHeartbeats 4000000 in
theorem cM_bits {l : Launch} {E : sk_V} {d : Nat} {h : sk_M} {s : Nat} (h64 : s < 64) : sk_K l E (d + 0) MX8_bits [.int (nI s)] h (fun r h1 => h = h1 ∧ some (.int (nI (pcN s))) = r) := by
  refine sk_K.of (by decide +kernel) (Nat.le_of_ble_eq_true rfl) ?_
  show sk_S l E (d + 0) _ 0 [some (.int (nI s)), none, none] [] h _
  refine sk_S.iconst (v := 0) (dd DX8_bits 0 rfl) (by decide) ?_
  refine sk_S.istore_n (i := 1) (dd DX8_bits 1 rfl) rfl (Nat.le_of_ble_eq_true rfl) rfl ?_
  refine sk_S.iload_n (i := 0) (dd DX8_bits 2 rfl) rfl rfl ?_
  refine sk_S.istore_n (i := 2) (dd DX8_bits 3 rfl) rfl (Nat.le_of_ble_eq_true rfl) rfl ?_
  rw [← Nat.zero_add (pcN s)]
  exact lp_bits s s 0 (Nat.le_refl _) h64
set_option maxRecDepth 100000 in
set_option maxHeartbeats 4000000 in
theorem lp_isE2 {l : Launch} {E : sk_V} {d : Nat} {h : sk_M} {ρ : Nat → Int32} {s f : Nat} {i0 : Option Value} {Q : Option Value → sk_M → Prop} (hf : f < 4) (hρ : h 55 = ρ) (hb : boI ρ) (kk : ∀ x5 : Option Value, sk_S l E (d + 0) MX8_isEnough 66 [some (.ref 54), some (.int (nI s)), i0, some (.int (nI f)), some (.int (setS (fun b f => h 65 (4 * b + f)) s f (boN ρ))), x5] [] h Q) : ∀ (m b : Nat), b + m = boN ρ → sk_S l E (d + 0) MX8_isEnough 19 [some (.ref 54), some (.int (nI s)), i0, some (.int (nI f)), some (.int (setS (fun b f => h 65 (4 * b + f)) s f b)), some (.int (nI b))] [] h (fun r h1 => Q r h1)
  | 0, b, hbm => by
    have hbn : b = boN ρ := by omega
    subst hbn
    refine sk_S.iload (i := 5) (dd DX8_isEnough 13 rfl) rfl ?_
    refine sk_S.aload_n (i := 0) (dd DX8_isEnough 14 rfl) rfl rfl ?_
    refine sk_S.getr (dd DX8_isEnough 15 rfl) rfl fX8_9 se_54 (by decide) rfl ?_
    refine sk_S.iconst (v := 2) (dd DX8_isEnough 16 rfl) (by decide) ?_
    refine sk_S.iald (dd DX8_isEnough 17 rfl) se_55 (j := 2) ⟨by decide, by decide, by decide⟩ ?_
    refine sk_S.icmp_ge (tgt := 66) (dd DX8_isEnough 18 rfl) (by decide) (fun c27 => ?_) (fun c27 => absurd (by rw [hρ, hb.1]; exact Int32.le_refl _) c27)
    exact kk _
  | m + 1, b, hbm => by
    have hb6 := hb.2
    refine sk_S.iload (i := 5) (dd DX8_isEnough 13 rfl) rfl ?_
    refine sk_S.aload_n (i := 0) (dd DX8_isEnough 14 rfl) rfl rfl ?_
    refine sk_S.getr (dd DX8_isEnough 15 rfl) rfl fX8_9 se_54 (by decide) rfl ?_
    refine sk_S.iconst (v := 2) (dd DX8_isEnough 16 rfl) (by decide) ?_
    refine sk_S.iald (dd DX8_isEnough 17 rfl) se_55 (j := 2) ⟨by decide, by decide, by decide⟩ ?_
    refine sk_S.icmp_ge (tgt := 66) (dd DX8_isEnough 18 rfl) (by decide) (fun c27 => absurd c27 (by rw [hρ, hb.1]; exact nI_ge (by omega) (by omega))) (fun c27 => ?_)
    refine sk_S.iload (i := 4) (dd DX8_isEnough 19 rfl) rfl ?_
    refine sk_S.iload_n (i := 1) (dd DX8_isEnough 20 rfl) rfl rfl ?_
    refine sk_S.iload (i := 5) (dd DX8_isEnough 21 rfl) rfl ?_
    refine sk_S.ishr (dd DX8_isEnough 22 rfl) ?_
    refine sk_S.iconst (v := 1) (dd DX8_isEnough 23 rfl) (by decide) ?_
    refine sk_S.iand (dd DX8_isEnough 24 rfl) ?_
    refine sk_S.iconst (v := 1) (dd DX8_isEnough 25 rfl) (by decide) ?_
    refine sk_S.icmp_ne (tgt := 56) (dd DX8_isEnough 26 rfl) (by decide) (fun c39 => ?_) (fun c39 => ?_)
    · refine sk_S.iconst (v := 0) (dd DX8_isEnough 36 rfl) (by decide) ?_
      refine sk_S.iadd (dd DX8_isEnough 37 rfl) ?_
      refine sk_S.istore (i := 4) (dd DX8_isEnough 38 rfl) (Nat.le_of_ble_eq_true rfl) rfl ?_
      refine sk_S.iinc (i := 5) (v := _ + 1) (dd DX8_isEnough 39 rfl) rfl rfl rfl ?_
      refine sk_S.goto (tgt := 19) (dd DX8_isEnough 40 rfl) (by decide) ?_
      refine sk_S.L (lp_isE2 hf hρ hb kk m (b + 1) (by omega)) ?_
      have e9 : setS (fun b f => h 65 (4 * b + f)) s f (b + 1) = setS (fun b f => h 65 (4 * b + f)) s f b + 0 := by
        show sumN _ b + (if _ then _ else _) = _
        rw [if_neg c39]
        rfl
      rw [e9, nI_succ]
      rfl
    · refine sk_S.aload_n (i := 0) (dd DX8_isEnough 27 rfl) rfl rfl ?_
      refine sk_S.getr (dd DX8_isEnough 28 rfl) rfl fX8_40 se_54 (by decide) rfl ?_
      refine sk_S.iconst (v := 4) (dd DX8_isEnough 29 rfl) (by decide) ?_
      refine sk_S.iload (i := 5) (dd DX8_isEnough 30 rfl) rfl ?_
      refine sk_S.imul (dd DX8_isEnough 31 rfl) ?_
      refine sk_S.iload_n (i := 3) (dd DX8_isEnough 32 rfl) rfl rfl ?_
      refine sk_S.iadd (dd DX8_isEnough 33 rfl) ?_
      refine sk_S.iald (dd DX8_isEnough 34 rfl) se_65 (sk_ix_e (k := 4 * b + f) (by show nI 4 * nI b + nI f = _; rw [nI_mul, nI_add]) (by omega) (by decide)) ?_
      refine sk_S.goto (tgt := 57) (dd DX8_isEnough 35 rfl) (by decide) ?_
      refine sk_S.iadd (dd DX8_isEnough 37 rfl) ?_
      refine sk_S.istore (i := 4) (dd DX8_isEnough 38 rfl) (Nat.le_of_ble_eq_true rfl) rfl ?_
      refine sk_S.iinc (i := 5) (v := _ + 1) (dd DX8_isEnough 39 rfl) rfl rfl rfl ?_
      refine sk_S.goto (tgt := 19) (dd DX8_isEnough 40 rfl) (by decide) ?_
      refine sk_S.L (lp_isE2 hf hρ hb kk m (b + 1) (by omega)) ?_
      have e9 : setS (fun b f => h 65 (4 * b + f)) s f (b + 1) = setS (fun b f => h 65 (4 * b + f)) s f b + h 65 (4 * b + f) := by
        show sumN _ b + (if _ then _ else _) = _
        rw [if_pos c39]
        rfl
      rw [e9, nI_succ]
      rfl
set_option maxRecDepth 100000 in
set_option maxHeartbeats 4000000 in
theorem lp_isE0 {l : Launch} {E : sk_V} {d : Nat} {h : sk_M} {ρ : Nat → Int32} {s f : Nat} {x4 x5 : Option Value} (hs : ¬ setE ρ (fun b f => h 65 (4 * b + f)) s 4) : sk_S l E (d + 0) MX8_isEnough 4 [some (.ref 54), some (.int (nI s)), some (.int 0), some (.int (nI f + 1)), x4, x5] [] h (fun r h1 => h = h1 ∧ ((setE ρ (fun b f => h 65 (4 * b + f)) s 4 ∧ some (.int 1) = r) ∨ (¬ setE ρ (fun b f => h 65 (4 * b + f)) s 4 ∧ some (.int 0) = r))) := by
  refine sk_S.iload_n (i := 3) (dd DX8_isEnough 4 rfl) rfl rfl ?_
  refine sk_S.iconst (v := 4) (dd DX8_isEnough 5 rfl) (by decide) ?_
  refine sk_S.icmp_ge (tgt := 92) (dd DX8_isEnough 6 rfl) (by decide) (fun c6 => ?_) (fun c6 => ?_)
  · refine sk_S.iload_n (i := 2) (dd DX8_isEnough 55 rfl) rfl rfl ?_
    refine sk_S.iret (dd DX8_isEnough 56 rfl) rfl rfl ?_
    exact ⟨rfl, Or.inr ⟨hs, rfl⟩⟩
  · refine sk_S.iload_n (i := 2) (dd DX8_isEnough 7 rfl) rfl rfl ?_
    refine sk_S.if_eq (tgt := 92) (dd DX8_isEnough 8 rfl) (by decide) (fun c10 => ?_) (fun c10 => absurd rfl c10)
    refine sk_S.iload_n (i := 2) (dd DX8_isEnough 55 rfl) rfl rfl ?_
    refine sk_S.iret (dd DX8_isEnough 56 rfl) rfl rfl ?_
    exact ⟨rfl, Or.inr ⟨hs, rfl⟩⟩
set_option maxRecDepth 100000 in
set_option maxHeartbeats 4000000 in
theorem lp_isE1 {l : Launch} {E : sk_V} {d : Nat} {h : sk_M} {ρ : Nat → Int32} {s : Nat} (hρ : h 55 = ρ) (hb : boI ρ) : ∀ (m f : Nat) (x4 x5 : Option Value), f + m = 4 → setE ρ (fun b f => h 65 (4 * b + f)) s f → sk_S l E (d + 0) MX8_isEnough 4 [some (.ref 54), some (.int (nI s)), some (.int 1), some (.int (nI f)), x4, x5] [] h (fun r h1 => h = h1 ∧ ((setE ρ (fun b f => h 65 (4 * b + f)) s 4 ∧ some (.int 1) = r) ∨ (¬ setE ρ (fun b f => h 65 (4 * b + f)) s 4 ∧ some (.int 0) = r)))
  | 0, f, x4, x5, hf, hs => by
    have hf4 : f = 4 := by omega
    subst hf4
    refine sk_S.iload_n (i := 3) (dd DX8_isEnough 4 rfl) rfl rfl ?_
    refine sk_S.iconst (v := 4) (dd DX8_isEnough 5 rfl) (by decide) ?_
    refine sk_S.icmp_ge (tgt := 92) (dd DX8_isEnough 6 rfl) (by decide) (fun c6 => ?_) (fun c6 => absurd (by decide) c6)
    refine sk_S.iload_n (i := 2) (dd DX8_isEnough 55 rfl) rfl rfl ?_
    refine sk_S.iret (dd DX8_isEnough 56 rfl) rfl rfl ?_
    exact ⟨rfl, Or.inl ⟨hs, rfl⟩⟩
  | m + 1, f, x4, x5, hf, hs => by
    refine sk_S.iload_n (i := 3) (dd DX8_isEnough 4 rfl) rfl rfl ?_
    refine sk_S.iconst (v := 4) (dd DX8_isEnough 5 rfl) (by decide) ?_
    refine sk_S.icmp_ge (tgt := 92) (dd DX8_isEnough 6 rfl) (by decide) (fun c6 => absurd c6 (nI_ge (b := 4) (by omega) (by decide))) (fun c6 => ?_)
    refine sk_S.iload_n (i := 2) (dd DX8_isEnough 7 rfl) rfl rfl ?_
    refine sk_S.if_eq (tgt := 92) (dd DX8_isEnough 8 rfl) (by decide) (fun c10 => absurd c10 (by decide)) (fun c10 => ?_)
    refine sk_S.iconst (v := 0) (dd DX8_isEnough 9 rfl) (by decide) ?_
    refine sk_S.istore (i := 4) (dd DX8_isEnough 10 rfl) (Nat.le_of_ble_eq_true rfl) rfl ?_
    refine sk_S.iconst (v := 0) (dd DX8_isEnough 11 rfl) (by decide) ?_
    refine sk_S.istore (i := 5) (dd DX8_isEnough 12 rfl) (Nat.le_of_ble_eq_true rfl) rfl ?_
    refine lp_isE2 (by omega) hρ hb (fun y5 => ?_) (boN ρ) 0 (Nat.zero_add _)
    refine sk_S.iload (i := 4) (dd DX8_isEnough 41 rfl) rfl ?_
    refine sk_S.aload_n (i := 0) (dd DX8_isEnough 42 rfl) rfl rfl ?_
    refine sk_S.getr (dd DX8_isEnough 43 rfl) rfl fX8_9 se_54 (by decide) rfl ?_
    refine sk_S.bipush (v := 9) (dd DX8_isEnough 44 rfl) (by decide) ?_
    refine sk_S.iload_n (i := 3) (dd DX8_isEnough 45 rfl) rfl rfl ?_
    refine sk_S.iadd (dd DX8_isEnough 46 rfl) ?_
    refine sk_S.iald (dd DX8_isEnough 47 rfl) se_55 (sk_ix_e (k := 9 + f) (ix_add 9 f) (by omega) (by decide)) ?_
    refine sk_S.icmp_lt (tgt := 84) (dd DX8_isEnough 48 rfl) (by decide) (fun c77 => ?_) (fun c77 => ?_)
    · have c77x : ¬ ρ (9 + f) ≤ setS (fun b f => h 65 (4 * b + f)) s f (boN ρ) := by rw [hρ] at c77; exact Int32.not_le.mpr c77
      refine sk_S.iconst (v := 0) (dd DX8_isEnough 51 rfl) (by decide) ?_
      refine sk_S.istore_n (i := 2) (dd DX8_isEnough 52 rfl) rfl (Nat.le_of_ble_eq_true rfl) rfl ?_
      refine sk_S.iinc (i := 3) (v := _ + 1) (dd DX8_isEnough 53 rfl) rfl rfl rfl ?_
      refine sk_S.goto (tgt := 4) (dd DX8_isEnough 54 rfl) (by decide) ?_
      exact lp_isE0 (fun q => c77x (setE_dn (by omega) (by omega) q).2)
    · refine sk_S.iconst (v := 1) (dd DX8_isEnough 49 rfl) (by decide) ?_
      refine sk_S.goto (tgt := 85) (dd DX8_isEnough 50 rfl) (by decide) ?_
      refine sk_S.istore_n (i := 2) (dd DX8_isEnough 52 rfl) rfl (Nat.le_of_ble_eq_true rfl) rfl ?_
      refine sk_S.iinc (i := 3) (v := _ + 1) (dd DX8_isEnough 53 rfl) rfl rfl rfl ?_
      refine sk_S.goto (tgt := 4) (dd DX8_isEnough 54 rfl) (by decide) ?_
      exact sk_S.L (lp_isE1 hρ hb m (f + 1) _ _ (by omega) ⟨hs, by rw [hρ] at c77; exact Int32.not_lt.mp c77⟩) (by rw [nI_succ]; rfl)
set_option maxRecDepth 100000 in
set_option maxHeartbeats 4000000 in
theorem cM_isEnough {l : Launch} {E : sk_V} {d : Nat} {h : sk_M} {ρ : Nat → Int32} {s : Nat} (hρ : h 55 = ρ) (hb : boI ρ) : sk_K l E (d + 0) MX8_isEnough [.ref 54, .int (nI s)] h (fun r h1 => h = h1 ∧ some (.int (@bi (setE ρ (fun b f => h 65 (4 * b + f)) s 4) (Classical.propDecidable _))) = r) := by
  refine sk_K.of (by decide +kernel) (Nat.le_of_ble_eq_true rfl) ?_
  show sk_S l E (d + 0) _ 0 [some (.ref 54), some (.int (nI s)), none, none, none, none] [] h _
  refine sk_S.iconst (v := 1) (dd DX8_isEnough 0 rfl) (by decide) ?_
  refine sk_S.istore_n (i := 2) (dd DX8_isEnough 1 rfl) rfl (Nat.le_of_ble_eq_true rfl) rfl ?_
  refine sk_S.iconst (v := 0) (dd DX8_isEnough 2 rfl) (by decide) ?_
  refine sk_S.istore_n (i := 3) (dd DX8_isEnough 3 rfl) rfl (Nat.le_of_ble_eq_true rfl) rfl ?_
  refine sk_S.mono (lp_isE1 hρ hb 4 0 none none rfl trivial) ?_
  rintro r h1 ⟨rfl, (⟨q, rfl⟩ | ⟨q, rfl⟩)⟩
  · exact ⟨rfl, by rw [@bi_t _ (Classical.propDecidable _) q]⟩
  · exact ⟨rfl, by rw [@bi_f _ (Classical.propDecidable _) q]⟩
set_option maxRecDepth 100000 in
set_option maxHeartbeats 4000000 in
theorem lp_needs {l : Launch} {E : sk_V} {d : Nat} {h g : sk_M} {ρ : Nat → Int32} {w : Int32} (hρ : h 55 = ρ) (hb : boI ρ) (ho : sk_o [63, 64, 65] h g) (hf : ∀ q, q < 4 * boN ρ → g 65 q = lndX ρ (q / 4) (q % 4)) : ∀ (m s : Nat) (x4 : Option Value), s + m = 2 ^ boN ρ → sk_S l E (d + 1) MX8_needs 67 [some (.ref 54), some (.int w), some (.int (ndI (ndN ρ (lndX ρ) s))), some (.int (nI s)), x4] [] g (fun r h1 => (¬ (ndN ρ (lndX ρ) (2 ^ boN ρ) = 64) ∧ sk_o [63, 64, 65] h h1 ∧ some (.int (if w = 0 then nI (pcN (ndN ρ (lndX ρ) (2 ^ boN ρ))) else nI (ndN ρ (lndX ρ) (2 ^ boN ρ)))) = r) ∨ (ndN ρ (lndX ρ) (2 ^ boN ρ) = 64 ∧ ∃ g, sk_o [63, 64, 65] h g ∧ erM g 2 h1 r))
  | 0, s, x4, hs => by
    have e55 : g 55 = ρ := (ho 55 (by decide)).trans hρ
    have hb6 := hb.2
    have hp := pow_nb hb6
    have hss : s = 2 ^ boN ρ := by omega
    have hle := (ndN_le (g := ρ) (X := lndX ρ) s)
    refine sk_S.iload_n (i := 3) (dd DX8_needs 45 rfl) rfl rfl ?_
    refine sk_S.iconst (v := 1) (dd DX8_needs 46 rfl) (by decide) ?_
    refine sk_S.aload_n (i := 0) (dd DX8_needs 47 rfl) rfl rfl ?_
    refine sk_S.getr (dd DX8_needs 48 rfl) rfl fX8_9 se_54 (by decide) rfl ?_
    refine sk_S.iconst (v := 2) (dd DX8_needs 49 rfl) (by decide) ?_
    refine sk_S.iald (dd DX8_needs 50 rfl) se_55 (j := 2) ⟨by decide, by decide, by decide⟩ ?_
    refine sk_S.ishl (dd DX8_needs 51 rfl) ?_
    refine sk_S.icmp_ge (tgt := 126) (dd DX8_needs 52 rfl) (by decide) (fun c76 => ?_) (fun c76 => absurd (by rw [e55, hb.1, shl_nb _ hb6, hss]; exact Int32.le_refl _) c76)
    refine sk_S.iload_n (i := 2) (dd DX8_needs 76 rfl) rfl rfl ?_
    refine sk_S.if_ge (tgt := 139) (dd DX8_needs 77 rfl) (by decide) (fun c127 => ?_) (fun c127 => ?_)
    · have h64 : ¬ (ndN ρ (lndX ρ) s) = 64 := fun q => by rw [ndI_neg q] at c127; exact absurd c127 (by decide)
      rw [ndI_pos h64]
      refine sk_S.iload_n (i := 1) (dd DX8_needs 82 rfl) rfl rfl ?_
      refine sk_S.if_ne (tgt := 150) (dd DX8_needs 83 rfl) (by decide) (fun c140 => ?_) (fun c140 => ?_)
      · refine sk_S.iload_n (i := 2) (dd DX8_needs 87 rfl) rfl rfl ?_
        refine sk_S.iret (dd DX8_needs 88 rfl) rfl rfl ?_
        subst hss
        exact Or.inl ⟨h64, ho, by rw [if_neg c140]⟩
      · refine sk_S.iload_n (i := 2) (dd DX8_needs 84 rfl) rfl rfl ?_
        refine sk_S.callS (dd DX8_needs 85 rfl) rfl kX8_191 (cM_bits (s := (ndN ρ (lndX ρ) s)) (by omega)) rfl rfl rfl (Nat.le_of_ble_eq_true rfl) (fun r144 h144 q144 => ?_)
        obtain ⟨rfl, rfl⟩ := q144
        show sk_S _ _ _ _ _ _ (.int _ :: _) _ _
        refine sk_S.goto (tgt := 151) (dd DX8_needs 86 rfl) (by decide) ?_
        refine sk_S.iret (dd DX8_needs 88 rfl) rfl rfl ?_
        subst hss
        exact Or.inl ⟨h64, ho, by rw [if_pos c140]⟩
    · refine sk_S.aload_n (i := 0) (dd DX8_needs 78 rfl) rfl rfl ?_
      refine sk_S.ldc (dd DX8_needs 79 rfl) rfl cnX8_190 ?_
      refine sk_S.callV (dd DX8_needs 80 rfl) rfl kX8_74 (cM_error (k := 2) ⟨by decide, by decide, by decide⟩) se_54 (by decide) rfl rfl rfl rfl (Nat.le_of_ble_eq_true rfl) (fun r133 h133 q133 => ?_)
      obtain ⟨rfl, rfl⟩ := q133
      show sk_S _ _ _ _ _ _ (.int _ :: _) _ _
      refine sk_S.goto (tgt := 151) (dd DX8_needs 81 rfl) (by decide) ?_
      refine sk_S.iret (dd DX8_needs 88 rfl) rfl rfl ?_
      subst hss
      refine Or.inr ⟨?_, g, ho, rfl, rfl⟩
      apply Decidable.byContradiction
      intro q
      rw [ndI_pos q] at c127
      exact c127 (nI_pos' (by omega))
  | m + 1, s, x4, hs => by
    have e55 : g 55 = ρ := (ho 55 (by decide)).trans hρ
    have hb6 := hb.2
    have hp := pow_nb hb6
    have hle := (ndN_le (g := ρ) (X := lndX ρ) s)
    have hE : setE ρ (fun b f => g 65 (4 * b + f)) s 4 ↔ setE ρ (lndX ρ) s 4 := setE_cg (fun b f hb2 hf2 => by rw [hf _ (by omega)]; congr 1 <;> omega) 4 (by omega)
    refine sk_S.iload_n (i := 3) (dd DX8_needs 45 rfl) rfl rfl ?_
    refine sk_S.iconst (v := 1) (dd DX8_needs 46 rfl) (by decide) ?_
    refine sk_S.aload_n (i := 0) (dd DX8_needs 47 rfl) rfl rfl ?_
    refine sk_S.getr (dd DX8_needs 48 rfl) rfl fX8_9 se_54 (by decide) rfl ?_
    refine sk_S.iconst (v := 2) (dd DX8_needs 49 rfl) (by decide) ?_
    refine sk_S.iald (dd DX8_needs 50 rfl) se_55 (j := 2) ⟨by decide, by decide, by decide⟩ ?_
    refine sk_S.ishl (dd DX8_needs 51 rfl) ?_
    refine sk_S.icmp_ge (tgt := 126) (dd DX8_needs 52 rfl) (by decide) (fun c76 => absurd c76 (by rw [e55, hb.1, shl_nb _ hb6]; exact nI_ge (by omega) (by omega))) (fun c76 => ?_)
    refine sk_S.iload_n (i := 2) (dd DX8_needs 53 rfl) rfl rfl ?_
    refine sk_S.if_lt (tgt := 94) (dd DX8_needs 54 rfl) (by decide) (fun c80 => ?_) (fun c80 => ?_)
    · refine sk_S.iconst (v := 1) (dd DX8_needs 60 rfl) (by decide) ?_
      refine sk_S.goto (tgt := 99) (dd DX8_needs 61 rfl) (by decide) ?_
      refine sk_S.istore (i := 4) (dd DX8_needs 63 rfl) (Nat.le_of_ble_eq_true rfl) rfl ?_
      refine sk_S.iload (i := 4) (dd DX8_needs 64 rfl) rfl ?_
      refine sk_S.if_eq (tgt := 118) (dd DX8_needs 65 rfl) (by decide) (fun c103 => absurd c103 (by decide)) (fun c103 => ?_)
      refine sk_S.aload_n (i := 0) (dd DX8_needs 66 rfl) rfl rfl ?_
      refine sk_S.iload_n (i := 3) (dd DX8_needs 67 rfl) rfl rfl ?_
      refine sk_S.callV (dd DX8_needs 68 rfl) rfl kX8_194 (cM_isEnough e55 hb) se_54 (by decide) rfl rfl rfl rfl (Nat.le_of_ble_eq_true rfl) (fun r108 h108 q108 => ?_)
      obtain ⟨rfl, rfl⟩ := q108
      show sk_S _ _ _ _ _ _ (.int _ :: _) _ _
      refine sk_S.bic_eq (tgt := 118) (dd DX8_needs 69 rfl) (by decide) (fun c111 => ?_) (fun c111 => ?_)
      · refine sk_S.iload_n (i := 2) (dd DX8_needs 72 rfl) rfl rfl ?_
        refine sk_S.istore_n (i := 2) (dd DX8_needs 73 rfl) rfl (Nat.le_of_ble_eq_true rfl) rfl ?_
        refine sk_S.iinc (i := 3) (v := _ + 1) (dd DX8_needs 74 rfl) rfl rfl rfl ?_
        refine sk_S.goto (tgt := 67) (dd DX8_needs 75 rfl) (by decide) ?_
        refine sk_S.L (lp_needs hρ hb ho hf m (s + 1) (some (.int 1)) (by omega)) ?_
        rw [ndN_0 (fun q => c111 (hE.mpr q.2)), nI_succ s]
        rfl
      · refine sk_S.iload_n (i := 3) (dd DX8_needs 70 rfl) rfl rfl ?_
        refine sk_S.goto (tgt := 119) (dd DX8_needs 71 rfl) (by decide) ?_
        refine sk_S.istore_n (i := 2) (dd DX8_needs 73 rfl) rfl (Nat.le_of_ble_eq_true rfl) rfl ?_
        refine sk_S.iinc (i := 3) (v := _ + 1) (dd DX8_needs 74 rfl) rfl rfl rfl ?_
        refine sk_S.goto (tgt := 67) (dd DX8_needs 75 rfl) (by decide) ?_
        refine sk_S.L (lp_needs hρ hb ho hf m (s + 1) (some (.int 1)) (by omega)) ?_
        rw [ndN_1 ⟨Or.inl (nd80 (by omega) c80), hE.mp c111⟩, ndI_pos (n := s) (by omega), nI_succ s]
        rfl
    · have h64 : ¬ (ndN ρ (lndX ρ) s) = 64 := fun q => by rw [ndI_neg q] at c80; exact absurd c80 (by decide)
      rw [ndI_pos h64]
      refine sk_S.iload_n (i := 3) (dd DX8_needs 55 rfl) rfl rfl ?_
      refine sk_S.callS (dd DX8_needs 56 rfl) rfl kX8_191 (cM_bits (s := s) (by omega)) rfl rfl rfl (Nat.le_of_ble_eq_true rfl) (fun r84 h84 q84 => ?_)
      obtain ⟨rfl, rfl⟩ := q84
      show sk_S _ _ _ _ _ _ (.int _ :: _) _ _
      refine sk_S.iload_n (i := 2) (dd DX8_needs 57 rfl) rfl rfl ?_
      refine sk_S.callS (dd DX8_needs 58 rfl) rfl kX8_191 (cM_bits (s := (ndN ρ (lndX ρ) s)) (by omega)) rfl rfl rfl (Nat.le_of_ble_eq_true rfl) (fun r88 h88 q88 => ?_)
      obtain ⟨rfl, rfl⟩ := q88
      show sk_S _ _ _ _ _ _ (.int _ :: _) _ _
      refine sk_S.icmp_ge (tgt := 98) (dd DX8_needs 59 rfl) (by decide) (fun c91 => ?_) (fun c91 => ?_)
      · refine sk_S.iconst (v := 0) (dd DX8_needs 62 rfl) (by decide) ?_
        refine sk_S.istore (i := 4) (dd DX8_needs 63 rfl) (Nat.le_of_ble_eq_true rfl) rfl ?_
        refine sk_S.iload (i := 4) (dd DX8_needs 64 rfl) rfl ?_
        refine sk_S.if_eq (tgt := 118) (dd DX8_needs 65 rfl) (by decide) (fun c103 => ?_) (fun c103 => absurd rfl c103)
        refine sk_S.iload_n (i := 2) (dd DX8_needs 72 rfl) rfl rfl ?_
        refine sk_S.istore_n (i := 2) (dd DX8_needs 73 rfl) rfl (Nat.le_of_ble_eq_true rfl) rfl ?_
        refine sk_S.iinc (i := 3) (v := _ + 1) (dd DX8_needs 74 rfl) rfl rfl rfl ?_
        refine sk_S.goto (tgt := 67) (dd DX8_needs 75 rfl) (by decide) ?_
        refine sk_S.L (lp_needs hρ hb ho hf m (s + 1) (some (.int 0)) (by omega)) ?_
        rw [ndN_0 (fun q => q.1.elim h64 (nd91n (by omega) c91 (by omega))), nI_succ s, ndI_pos h64]
        rfl
      · refine sk_S.iconst (v := 1) (dd DX8_needs 60 rfl) (by decide) ?_
        refine sk_S.goto (tgt := 99) (dd DX8_needs 61 rfl) (by decide) ?_
        refine sk_S.istore (i := 4) (dd DX8_needs 63 rfl) (Nat.le_of_ble_eq_true rfl) rfl ?_
        refine sk_S.iload (i := 4) (dd DX8_needs 64 rfl) rfl ?_
        refine sk_S.if_eq (tgt := 118) (dd DX8_needs 65 rfl) (by decide) (fun c103 => absurd c103 (by decide)) (fun c103 => ?_)
        refine sk_S.aload_n (i := 0) (dd DX8_needs 66 rfl) rfl rfl ?_
        refine sk_S.iload_n (i := 3) (dd DX8_needs 67 rfl) rfl rfl ?_
        refine sk_S.callV (dd DX8_needs 68 rfl) rfl kX8_194 (cM_isEnough e55 hb) se_54 (by decide) rfl rfl rfl rfl (Nat.le_of_ble_eq_true rfl) (fun r108 h108 q108 => ?_)
        obtain ⟨rfl, rfl⟩ := q108
        show sk_S _ _ _ _ _ _ (.int _ :: _) _ _
        refine sk_S.bic_eq (tgt := 118) (dd DX8_needs 69 rfl) (by decide) (fun c111 => ?_) (fun c111 => ?_)
        · refine sk_S.iload_n (i := 2) (dd DX8_needs 72 rfl) rfl rfl ?_
          refine sk_S.istore_n (i := 2) (dd DX8_needs 73 rfl) rfl (Nat.le_of_ble_eq_true rfl) rfl ?_
          refine sk_S.iinc (i := 3) (v := _ + 1) (dd DX8_needs 74 rfl) rfl rfl rfl ?_
          refine sk_S.goto (tgt := 67) (dd DX8_needs 75 rfl) (by decide) ?_
          refine sk_S.L (lp_needs hρ hb ho hf m (s + 1) (some (.int 1)) (by omega)) ?_
          rw [ndN_0 (fun q => c111 (hE.mpr q.2)), nI_succ s, ndI_pos h64]
          rfl
        · refine sk_S.iload_n (i := 3) (dd DX8_needs 70 rfl) rfl rfl ?_
          refine sk_S.goto (tgt := 119) (dd DX8_needs 71 rfl) (by decide) ?_
          refine sk_S.istore_n (i := 2) (dd DX8_needs 73 rfl) rfl (Nat.le_of_ble_eq_true rfl) rfl ?_
          refine sk_S.iinc (i := 3) (v := _ + 1) (dd DX8_needs 74 rfl) rfl rfl rfl ?_
          refine sk_S.goto (tgt := 67) (dd DX8_needs 75 rfl) (by decide) ?_
          refine sk_S.L (lp_needs hρ hb ho hf m (s + 1) (some (.int 1)) (by omega)) ?_
          rw [ndN_1 ⟨Or.inr (nd91 (by omega) (by omega) c91), hE.mp c111⟩, ndI_pos (n := s) (by omega), nI_succ s]
          rfl
set_option maxRecDepth 100000 in
set_option maxHeartbeats 4000000 in
theorem lp_fill {l : Launch} {E : sk_V} {d : Nat} {h : sk_M} {ρ : Nat → Int32} {w : Int32} (hρ : h 55 = ρ) (hb : boI ρ) (hI : lawI ρ 0) : ∀ (m k : Nat) (g : sk_M), k + m = 4 * boN ρ → sk_o [63, 64, 65] h g → (∀ q, q < k → g 65 q = lndX ρ (q / 4) (q % 4)) → sk_S l E (d + 4) MX8_needs 18 [some (.ref 54), some (.int w), some (.int (nI k)), none, none] [] g (fun r h1 => (¬ (ndN ρ (lndX ρ) (2 ^ boN ρ) = 64) ∧ sk_o [63, 64, 65] h h1 ∧ some (.int (if w = 0 then nI (pcN (ndN ρ (lndX ρ) (2 ^ boN ρ))) else nI (ndN ρ (lndX ρ) (2 ^ boN ρ)))) = r) ∨ (ndN ρ (lndX ρ) (2 ^ boN ρ) = 64 ∧ ∃ g, sk_o [63, 64, 65] h g ∧ erM g 2 h1 r))
  | 0, k, g, hk, ho, hf => by
    have e55 : g 55 = ρ := (ho 55 (by decide)).trans hρ
    have hb6 := hb.2
    have hkk : k = 4 * boN ρ := by omega
    refine sk_S.iload_n (i := 2) (dd DX8_needs 11 rfl) rfl rfl ?_
    refine sk_S.iconst (v := 4) (dd DX8_needs 12 rfl) (by decide) ?_
    refine sk_S.aload_n (i := 0) (dd DX8_needs 13 rfl) rfl rfl ?_
    refine sk_S.getr (dd DX8_needs 14 rfl) rfl fX8_9 se_54 (by decide) rfl ?_
    refine sk_S.iconst (v := 2) (dd DX8_needs 15 rfl) (by decide) ?_
    refine sk_S.iald (dd DX8_needs 16 rfl) se_55 (j := 2) ⟨by decide, by decide, by decide⟩ ?_
    refine sk_S.imul (dd DX8_needs 17 rfl) ?_
    refine sk_S.icmp_ge (tgt := 63) (dd DX8_needs 18 rfl) (by decide) (fun c27 => ?_) (fun c27 => absurd (by rw [e55, hb.1, hkk]; show nI 4 * _ ≤ _; rw [nI_mul]; exact Int32.le_refl _) c27)
    refine sk_S.iconst (v := -1) (dd DX8_needs 41 rfl) (by decide) ?_
    refine sk_S.istore_n (i := 2) (dd DX8_needs 42 rfl) rfl (Nat.le_of_ble_eq_true rfl) rfl ?_
    refine sk_S.iconst (v := 0) (dd DX8_needs 43 rfl) (by decide) ?_
    refine sk_S.istore_n (i := 3) (dd DX8_needs 44 rfl) rfl (Nat.le_of_ble_eq_true rfl) rfl ?_
    exact lp_needs hρ hb ho (fun q hq => hf q (by omega)) (2 ^ boN ρ) 0 none (Nat.zero_add _)
  | m + 1, k, g, hk, ho, hf => by
    have e55 : g 55 = ρ := (ho 55 (by decide)).trans hρ
    have hb6 := hb.2
    refine sk_S.iload_n (i := 2) (dd DX8_needs 11 rfl) rfl rfl ?_
    refine sk_S.iconst (v := 4) (dd DX8_needs 12 rfl) (by decide) ?_
    refine sk_S.aload_n (i := 0) (dd DX8_needs 13 rfl) rfl rfl ?_
    refine sk_S.getr (dd DX8_needs 14 rfl) rfl fX8_9 se_54 (by decide) rfl ?_
    refine sk_S.iconst (v := 2) (dd DX8_needs 15 rfl) (by decide) ?_
    refine sk_S.iald (dd DX8_needs 16 rfl) se_55 (j := 2) ⟨by decide, by decide, by decide⟩ ?_
    refine sk_S.imul (dd DX8_needs 17 rfl) ?_
    refine sk_S.icmp_ge (tgt := 63) (dd DX8_needs 18 rfl) (by decide) (fun c27 => absurd c27 (by rw [e55, hb.1]; show ¬ nI 4 * _ ≤ _; rw [nI_mul]; exact nI_ge (by omega) (by omega))) (fun c27 => ?_)
    refine sk_S.aload_n (i := 0) (dd DX8_needs 19 rfl) rfl rfl ?_
    refine sk_S.getr (dd DX8_needs 20 rfl) rfl fX8_40 se_54 (by decide) rfl ?_
    refine sk_S.iload_n (i := 2) (dd DX8_needs 21 rfl) rfl rfl ?_
    refine sk_S.aload_n (i := 0) (dd DX8_needs 22 rfl) rfl rfl ?_
    refine sk_S.iload_n (i := 2) (dd DX8_needs 23 rfl) rfl rfl ?_
    refine sk_S.iconst (v := 4) (dd DX8_needs 24 rfl) (by decide) ?_
    refine sk_S.idiv (dd DX8_needs 25 rfl) (by decide) ?_
    rw [div_4 (by omega)]
    refine sk_S.iload_n (i := 2) (dd DX8_needs 26 rfl) rfl rfl ?_
    refine sk_S.iconst (v := 4) (dd DX8_needs 27 rfl) (by decide) ?_
    refine sk_S.irem (dd DX8_needs 28 rfl) (by decide) ?_
    rw [rem_4 (by omega)]
    refine sk_S.aload_n (i := 0) (dd DX8_needs 29 rfl) rfl rfl ?_
    refine sk_S.getr (dd DX8_needs 30 rfl) rfl fX8_9 se_54 (by decide) rfl ?_
    refine sk_S.bipush (v := 9) (dd DX8_needs 31 rfl) (by decide) ?_
    refine sk_S.iload_n (i := 2) (dd DX8_needs 32 rfl) rfl rfl ?_
    refine sk_S.iconst (v := 4) (dd DX8_needs 33 rfl) (by decide) ?_
    refine sk_S.irem (dd DX8_needs 34 rfl) (by decide) ?_
    refine sk_S.iadd (dd DX8_needs 35 rfl) ?_
    refine sk_S.iald (dd DX8_needs 36 rfl) se_55 (sk_ix_e (k := 9 + k % 4) (by rw [rem_4 (by omega)]; exact ix_add 9 _) (by omega) (by decide)) ?_
    refine sk_S.callV (dd DX8_needs 37 rfl) rfl kX8_62 (cM_landsOf (j := k / 4) (f := nI (k % 4)) (by omega) e55 hI) se_54 (by decide) rfl rfl rfl rfl (Nat.le_of_ble_eq_true rfl) (fun r53 h53 q53 => ?_)
    obtain ⟨o2, rfl⟩ := q53
    show sk_S _ _ _ _ _ _ (.int _ :: _) _ _
    refine sk_S.iast (dd DX8_needs 38 rfl) se_65 (sk_ix_nI (k := k) rfl (by omega) (by decide)) ?_
    refine sk_S.iinc (i := 2) (v := _ + 1) (dd DX8_needs 39 rfl) rfl rfl rfl ?_
    refine sk_S.goto (tgt := 18) (dd DX8_needs 40 rfl) (by decide) ?_
    refine sk_S.L (lp_fill hρ hb hI m (k + 1) _ (by omega) ((ho.tr (o2.more (by decide))).u (by decide)) ?_) (by rw [nI_succ]; rfl)
    intro q hq
    rw [sk_u_at, if_pos rfl]
    by_cases e : q = k
    · rw [if_pos e, e, e55]
      rfl
    · rw [if_neg e, o2 65 (by decide)]
      exact hf q (by omega)
set_option maxRecDepth 100000 in
set_option maxHeartbeats 4000000 in
theorem cM_needs {l : Launch} {E : sk_V} {d : Nat} {h : sk_M} {w : Int32} (hb : boI (h 55)) (hI : lawI (h 55) 0) : sk_K l E (d + 4) MX8_needs [.ref 54, .int w] h (fun r h1 => (¬ inN w 2 ∧ erM h 1 h1 r) ∨ (inN w 2 ∧ ((¬ (ndN (h 55) (lndX (h 55)) (2 ^ boN (h 55)) = 64) ∧ sk_o [63, 64, 65] h h1 ∧ some (.int (if w = 0 then nI (pcN (ndN (h 55) (lndX (h 55)) (2 ^ boN (h 55)))) else nI (ndN (h 55) (lndX (h 55)) (2 ^ boN (h 55))))) = r) ∨ (ndN (h 55) (lndX (h 55)) (2 ^ boN (h 55)) = 64 ∧ ∃ g, sk_o [63, 64, 65] h g ∧ erM g 2 h1 r)))) := by
  refine sk_K.of (by decide +kernel) (Nat.le_of_ble_eq_true rfl) ?_
  show sk_S l E (d + 4) _ 0 [some (.ref 54), some (.int w), none, none, none] [] h _
  refine sk_S.iload_n (i := 1) (dd DX8_needs 0 rfl) rfl rfl ?_
  refine sk_S.iconst (v := 0) (dd DX8_needs 1 rfl) (by decide) ?_
  refine sk_S.iconst (v := 1) (dd DX8_needs 2 rfl) (by decide) ?_
  refine sk_S.callS (dd DX8_needs 3 rfl) rfl kX8_47 cM_in rfl rfl rfl (Nat.le_of_ble_eq_true rfl) (fun r3 h3 q3 => ?_)
  obtain ⟨rfl, rfl⟩ := q3
  show sk_S _ _ _ _ _ _ (.int _ :: _) _ _
  refine sk_S.bif_ne (tgt := 16) (dd DX8_needs 4 rfl) (by decide) (fun c6 => ?_) (fun c6 => ?_)
  · refine sk_S.iconst (v := 0) (dd DX8_needs 9 rfl) (by decide) ?_
    refine sk_S.istore_n (i := 2) (dd DX8_needs 10 rfl) rfl (Nat.le_of_ble_eq_true rfl) rfl ?_
    refine sk_S.mono (lp_fill rfl hb hI (4 * boN (h 55)) 0 h (Nat.zero_add _) sk_o.rf (fun q hq => absurd hq (Nat.not_lt_zero _))) ?_
    intro r h1 q
    exact Or.inr ⟨(inN_le (by decide)).mp c6, q⟩
  · refine sk_S.aload_n (i := 0) (dd DX8_needs 5 rfl) rfl rfl ?_
    refine sk_S.ldc (dd DX8_needs 6 rfl) rfl cnX8_73 ?_
    refine sk_S.callV (dd DX8_needs 7 rfl) rfl kX8_74 (cM_error (k := 1) ⟨by decide, by decide, by decide⟩) se_54 (by decide) rfl rfl rfl rfl (Nat.le_of_ble_eq_true rfl) (fun r12 h12 q12 => ?_)
    obtain ⟨rfl, rfl⟩ := q12
    show sk_S _ _ _ _ _ _ (.int _ :: _) _ _
    refine sk_S.iret (dd DX8_needs 8 rfl) rfl rfl ?_
    exact Or.inl ⟨fun q => c6 ((inN_le (by decide)).mpr q), rfl, rfl⟩
end M10
end
section
section SPEC11
/-- sheets -/
def shN (h : sk_M) (j : Nat) : Nat := (h 59 j).toNatClampNeg
def shI (h : sk_M) : Prop := ∀ j, j < 4 → h 59 j = nI (shN h j) ∧ shN h j ≤ 24
abbrev ceV (h : sk_M) (j : Nat) : Nat → Int32 := fun i => h 60 (24 * j + i)
def rgP (g : Nat → Int32) (c : Nat → Int32) (len : Nat) (sea : Int32) (i : Nat) : Bool := decide (¬ (i < len ∧ c i = catchG g (nI i) (g (9 + i)) sea (g 0)))
def rgN (g : Nat → Int32) (c : Nat → Int32) (len : Nat) (sea : Int32) : Nat := soF (rgP g c len sea) 4 0
def fsP (g : Nat → Int32) (c : Nat → Int32) (len : Nat) (w : Nat) : Bool := decide (rgN g c len (nI w) = len)
def setT (p : Nat → Bool) : Nat → Int32
  | 0 => 0
  | m + 1 => setT p m ||| (if p (9 - m) = true then 1 <<< (nI (9 - m) &&& 31) else 0)
def lstT (p : Nat → Bool) : Nat → Int32
  | 0 => -1
  | m + 1 => if p (9 - m) = true then nI (9 - m) else lstT p m
theorem rgP_w {g c : Nat → Int32} {len : Nat} {x : Int32} : rgP (upd g 3 x) c len ((upd g 3 x) 3) = rgP g c len x := by
  funext i
  unfold rgP
  rw [catchG_w, upd_ne (by omega)]
theorem rgN_w {g c : Nat → Int32} {len : Nat} {x : Int32} : rgN (upd g 3 x) c len ((upd g 3 x) 3) = rgN g c len x := by
  unfold rgN
  rw [rgP_w]
/-- why not, by number -/
def wI (k : Nat) : Int32 := match k with
  | 0 => 0
  | k => erI k
theorem wI_0 {k : Nat} (h : wI k = 0) (hk : k ≤ 6) : k = 0 := by
  have h2 : k = 0 ∨ k = 1 ∨ k = 2 ∨ k = 3 ∨ k = 4 ∨ k = 5 ∨ k = 6 := by omega
  rcases h2 with rfl | rfl | rfl | rfl | rfl | rfl | rfl
  · rfl
  all_goals exact absurd h (by decide)
theorem wI_ix {k : Nat} (h0 : ¬ k = 0) (hk : k ≤ 6) : sk_ix (-1000000000 - wI k) k 7 := by
  have h2 : k = 1 ∨ k = 2 ∨ k = 3 ∨ k = 4 ∨ k = 5 ∨ k = 6 := by omega
  rcases h2 with rfl | rfl | rfl | rfl | rfl | rfl <;> exact ⟨by decide, by decide, by decide⟩
theorem wI_er {k : Nat} (h0 : ¬ k = 0) : wI k = erI k := by
  cases k with
  | zero => exact absurd rfl h0
  | succ n => rfl
noncomputable def ntK (h : sk_M) (x : Int32) : Nat := @ite _ (inN x 4) (Classical.propDecidable _) (if h 58 x.toNatClampNeg = 0 then 2 else 0) 1
theorem ntK_le (h : sk_M) (x : Int32) : ntK h x ≤ 2 := by
  unfold ntK
  split
  · split <;> omega
  · omega
theorem ntK_no {h : sk_M} {x : Int32} (q : ¬ inN x 4) : ntK h x = 1 := if_neg q
theorem ntK_in {h : sk_M} {j : Nat} (hj : j < 4) : ntK h (nI j) = if h 58 j = 0 then 2 else 0 := by
  unfold ntK
  rw [if_pos ⟨j, hj, rfl⟩, nI_clamp (by omega)]
theorem ntK_0 {h : sk_M} {x : Int32} (q : ntK h x = 0) : ∃ j, j < 4 ∧ x = nI j ∧ ¬ h 58 j = 0 := by
  have hx : inN x 4 := by
    apply Classical.byContradiction
    intro q2
    rw [ntK_no q2] at q
    omega
  obtain ⟨j, hj, rfl⟩ := hx
  rw [ntK_in hj] at q
  exact ⟨j, hj, rfl, fun q2 => by rw [if_pos q2] at q; omega⟩
/-- what a number of so many bits holds -/
def ptV (b v : Int32) : Int32 := if b = 8 then v.toInt8.toInt32 else if b = 16 then v.toInt16.toInt32 else v
def okB (b : Int32) : Prop := b = 0 ∨ b = 8 ∨ b = 16 ∨ b = 32
def clrN (f : Nat → Int32) (a n : Nat) : Nat → Int32 := fun k => if a ≤ k ∧ k < a + n then 0 else f k
theorem clrN_0 {f : Nat → Int32} {a : Nat} : clrN f a 0 = f := by
  funext k
  unfold clrN
  rw [if_neg (by omega)]
theorem clrN_s {f : Nat → Int32} {a n : Nat} : upd (clrN f a n) (a + n) 0 = clrN f a (n + 1) := by
  funext k
  unfold clrN upd
  by_cases q : k = a + n
  · rw [if_pos q, if_pos (by omega)]
  · rw [if_neg q]
    show (if a ≤ k ∧ k < a + n then 0 else f k) = _
    by_cases q2 : a ≤ k ∧ k < a + n
    · rw [if_pos q2, if_pos (by omega)]
    · rw [if_neg q2, if_neg (by omega)]
theorem ix_24 (j i : Nat) : (24 : Int32) * nI j + nI i = nI (24 * j + i) := by
  show nI 24 * nI j + nI i = _
  rw [nI_mul, nI_add]
/-- numbers as priced: how many, from the first -/
def prP (c : Nat → Int32) (len : Nat) (i : Nat) : Bool := decide (¬ (i < len ∧ 0 ≤ c i ∧ c i ≤ 9))
def prR (g c : Nat → Int32) (n : Nat) : Nat → Int32 := fun k => if 13 ≤ k ∧ k < 13 + n then c (k - 13) else g k
theorem prR_0 {g c : Nat → Int32} : prR g c 0 = g := by
  funext k
  unfold prR
  rw [if_neg (by omega)]
theorem prR_s {g c : Nat → Int32} {n : Nat} : upd (prR g c n) (13 + n) (c n) = prR g c (n + 1) := by
  funext k
  unfold prR upd
  by_cases q : k = 13 + n
  · rw [if_pos q, if_pos (by omega), q]
    congr 1
    omega
  · rw [if_neg q]
    show (if 13 ≤ k ∧ k < 13 + n then c (k - 13) else g k) = _
    by_cases q2 : 13 ≤ k ∧ k < 13 + n
    · rw [if_pos q2, if_pos (by omega)]
    · rw [if_neg q2, if_neg (by omega)]
end SPEC11
end
section
section M11
set_option maxRecDepth 100000 in
set_option maxHeartbeats 4000000 in
theorem lp_right {l : Launch} {E : sk_V} {d : Nat} {h : sk_M} {ρ : Nat → Int32} {s len : Nat} (hs4 : s < 4) (hρ : h 55 = ρ) (hb : boI ρ) (hI : lawI ρ 0) (hl : h 59 s = nI len) (hl24 : len ≤ 24) : ∀ (m i : Nat) (g : sk_M), i + m = 4 → sk_o [63, 64] h g → (soF (rgP ρ (ceV h s) len (ρ 3)) 4 0) = (soF (rgP ρ (ceV h s) len (ρ 3)) m i) → sk_S l E (d + 6) MX8_rightOf 2 [some (.ref 54), some (.int (nI s)), some (.int (nI i))] [] g (fun r h1 => sk_o [63, 64] h h1 ∧ some (.int (nI (soF (rgP ρ (ceV h s) len (ρ 3)) 4 0))) = r)
  | 0, i, g, hi, ho, hs => by
    have hi4 : i = 4 := by omega
    subst hi4
    refine sk_S.iload_n (i := 2) (dd DX8_rightOf 2 rfl) rfl rfl ?_
    refine sk_S.aload_n (i := 0) (dd DX8_rightOf 3 rfl) rfl rfl ?_
    refine sk_S.getr (dd DX8_rightOf 4 rfl) rfl fX8_22 se_54 (by decide) rfl ?_
    refine sk_S.iload_n (i := 1) (dd DX8_rightOf 5 rfl) rfl rfl ?_
    refine sk_S.iald (dd DX8_rightOf 6 rfl) se_59 (sk_ix_nI (k := s) rfl (by omega) (by decide)) ?_
    refine sk_S.icmp_ge (tgt := 42) (dd DX8_rightOf 7 rfl) (by decide) (fun c9 => ?_) (fun c9 => ?_)
    · refine sk_S.iload_n (i := 2) (dd DX8_rightOf 25 rfl) rfl rfl ?_
      refine sk_S.iret (dd DX8_rightOf 26 rfl) rfl rfl ?_
      refine ⟨ho, ?_⟩
      rw [hs]
      rfl
    · refine sk_S.iload_n (i := 2) (dd DX8_rightOf 8 rfl) rfl rfl ?_
      refine sk_S.iconst (v := 4) (dd DX8_rightOf 9 rfl) (by decide) ?_
      refine sk_S.icmp_ge (tgt := 42) (dd DX8_rightOf 10 rfl) (by decide) (fun c14 => ?_) (fun c14 => absurd (by decide) c14)
      refine sk_S.iload_n (i := 2) (dd DX8_rightOf 25 rfl) rfl rfl ?_
      refine sk_S.iret (dd DX8_rightOf 26 rfl) rfl rfl ?_
      refine ⟨ho, ?_⟩
      rw [hs]
      rfl
  | m + 1, i, g, hi, ho, hs => by
    have e55 : g 55 = ρ := (ho 55 (by decide)).trans hρ
    have e59 : g 59 = h 59 := ho 59 (by decide)
    have e60 : g 60 = h 60 := ho 60 (by decide)
    refine sk_S.iload_n (i := 2) (dd DX8_rightOf 2 rfl) rfl rfl ?_
    refine sk_S.aload_n (i := 0) (dd DX8_rightOf 3 rfl) rfl rfl ?_
    refine sk_S.getr (dd DX8_rightOf 4 rfl) rfl fX8_22 se_54 (by decide) rfl ?_
    refine sk_S.iload_n (i := 1) (dd DX8_rightOf 5 rfl) rfl rfl ?_
    refine sk_S.iald (dd DX8_rightOf 6 rfl) se_59 (sk_ix_nI (k := s) rfl (by omega) (by decide)) ?_
    refine sk_S.icmp_ge (tgt := 42) (dd DX8_rightOf 7 rfl) (by decide) (fun c9 => ?_) (fun c9 => ?_)
    · refine sk_S.iload_n (i := 2) (dd DX8_rightOf 25 rfl) rfl rfl ?_
      refine sk_S.iret (dd DX8_rightOf 26 rfl) rfl rfl ?_
      have c9n : ¬ i < len := by
        rw [e59, hl, nI_leI (by omega) (by omega)] at c9
        omega
      have eP : rgP ρ (ceV h s) len (ρ 3) i = true := by
        unfold rgP
        apply decide_eq_true
        intro q
        exact c9n q.1
      refine ⟨ho, ?_⟩
      rw [hs]
      show some (Value.int (nI (if _ then _ else _))) = _
      rw [eP]
      rfl
    · refine sk_S.iload_n (i := 2) (dd DX8_rightOf 8 rfl) rfl rfl ?_
      refine sk_S.iconst (v := 4) (dd DX8_rightOf 9 rfl) (by decide) ?_
      refine sk_S.icmp_ge (tgt := 42) (dd DX8_rightOf 10 rfl) (by decide) (fun c14 => absurd c14 (nI_ge (b := 4) (by omega) (by decide))) (fun c14 => ?_)
      refine sk_S.aload_n (i := 0) (dd DX8_rightOf 11 rfl) rfl rfl ?_
      refine sk_S.getr (dd DX8_rightOf 12 rfl) rfl fX8_25 se_54 (by decide) rfl ?_
      refine sk_S.bipush (v := 24) (dd DX8_rightOf 13 rfl) (by decide) ?_
      refine sk_S.iload_n (i := 1) (dd DX8_rightOf 14 rfl) rfl rfl ?_
      refine sk_S.imul (dd DX8_rightOf 15 rfl) ?_
      refine sk_S.iload_n (i := 2) (dd DX8_rightOf 16 rfl) rfl rfl ?_
      refine sk_S.iadd (dd DX8_rightOf 17 rfl) ?_
      refine sk_S.iald (dd DX8_rightOf 18 rfl) se_60 (sk_ix_e (k := 24 * s + i) (ix_24 s i) (by omega) (by decide)) ?_
      refine sk_S.aload_n (i := 0) (dd DX8_rightOf 19 rfl) rfl rfl ?_
      refine sk_S.iload_n (i := 2) (dd DX8_rightOf 20 rfl) rfl rfl ?_
      refine sk_S.callV (dd DX8_rightOf 21 rfl) rfl kX8_181 (cM_catchOf (f := i) (by omega) e55 hb hI) se_54 (by decide) rfl rfl rfl rfl (Nat.le_of_ble_eq_true rfl) (fun r30 h30 q30 => ?_)
      obtain ⟨o2, rfl⟩ := q30
      show sk_S _ _ _ _ _ _ (.int _ :: _) _ _
      refine sk_S.icmp_ne (tgt := 42) (dd DX8_rightOf 22 rfl) (by decide) (fun c33 => ?_) (fun c33 => ?_)
      · refine sk_S.iload_n (i := 2) (dd DX8_rightOf 25 rfl) rfl rfl ?_
        refine sk_S.iret (dd DX8_rightOf 26 rfl) rfl rfl ?_
        have eP : rgP ρ (ceV h s) len (ρ 3) i = true := by
          unfold rgP
          apply decide_eq_true
          intro q
          rw [e60] at c33; exact c33 q.2
        refine ⟨(ho.tr o2), ?_⟩
        rw [hs]
        show some (Value.int (nI (if _ then _ else _))) = _
        rw [eP]
        rfl
      · refine sk_S.iinc (i := 2) (v := _ + 1) (dd DX8_rightOf 23 rfl) rfl rfl rfl ?_
        refine sk_S.goto (tgt := 2) (dd DX8_rightOf 24 rfl) (by decide) ?_
        have eP : rgP ρ (ceV h s) len (ρ 3) i = false := by
          unfold rgP
          apply decide_eq_false
          intro q
          apply q
          refine ⟨Nat.lt_of_not_le (fun q2 => c9 (by rw [e59, hl]; exact nI_le q2 (by omega))), ?_⟩
          rw [e60] at c33
          exact c33
        have e9 : (soF (rgP ρ (ceV h s) len (ρ 3)) 4 0) = (soF (rgP ρ (ceV h s) len (ρ 3)) m (i + 1)) := by
          rw [hs]
          show (if _ then _ else _) = _
          rw [eP]
          rfl
        exact sk_S.L (lp_right hs4 hρ hb hI hl hl24 m (i + 1) _ (by omega) (ho.tr o2) e9) (by rw [nI_succ]; rfl)
set_option maxRecDepth 100000 in
set_option maxHeartbeats 4000000 in
theorem cM_rightOf {l : Launch} {E : sk_V} {d : Nat} {h : sk_M} {ρ : Nat → Int32} {s len : Nat} (hs4 : s < 4) (hρ : h 55 = ρ) (hb : boI ρ) (hI : lawI ρ 0) (hl : h 59 s = nI len) (hl24 : len ≤ 24) : sk_K l E (d + 6) MX8_rightOf [.ref 54, .int (nI s)] h (fun r h1 => sk_o [63, 64] h h1 ∧ some (.int (nI (rgN ρ (ceV h s) len (ρ 3)))) = r) := by
  refine sk_K.of (by decide +kernel) (Nat.le_of_ble_eq_true rfl) ?_
  show sk_S l E (d + 6) _ 0 [some (.ref 54), some (.int (nI s)), none] [] h _
  refine sk_S.iconst (v := 0) (dd DX8_rightOf 0 rfl) (by decide) ?_
  refine sk_S.istore_n (i := 2) (dd DX8_rightOf 1 rfl) rfl (Nat.le_of_ble_eq_true rfl) rfl ?_
  exact lp_right hs4 hρ hb hI hl hl24 4 0 h rfl sk_o.rf rfl
set_option maxRecDepth 100000 in
set_option maxHeartbeats 4000000 in
theorem cM_notThere {l : Launch} {E : sk_V} {d : Nat} {h : sk_M} {x : Int32}  : sk_K l E (d + 2) MX8_notThere [.ref 54, .int x] h (fun r h1 => h = h1 ∧ some (.int (wI (ntK h x))) = r) := by
  refine sk_K.of (by decide +kernel) (Nat.le_of_ble_eq_true rfl) ?_
  show sk_S l E (d + 2) _ 0 [some (.ref 54), some (.int x)] [] h _
  refine sk_S.iload_n (i := 1) (dd DX8_notThere 0 rfl) rfl rfl ?_
  refine sk_S.callS (dd DX8_notThere 1 rfl) rfl kX8_200 cM_isSheet rfl rfl rfl (Nat.le_of_ble_eq_true rfl) (fun r1 h1 q1 => ?_)
  obtain ⟨rfl, rfl⟩ := q1
  show sk_S _ _ _ _ _ _ (.int _ :: _) _ _
  refine sk_S.bif_ne (tgt := 12) (dd DX8_notThere 2 rfl) (by decide) (fun c4 => ?_) (fun c4 => ?_)
  · obtain ⟨j, hj, rfl⟩ := (inN_le (n := 4) (by decide)).mp c4
    refine sk_S.aload_n (i := 0) (dd DX8_notThere 5 rfl) rfl rfl ?_
    refine sk_S.getr (dd DX8_notThere 6 rfl) rfl fX8_19 se_54 (by decide) rfl ?_
    refine sk_S.iload_n (i := 1) (dd DX8_notThere 7 rfl) rfl rfl ?_
    refine sk_S.iald (dd DX8_notThere 8 rfl) se_58 (sk_ix_nI (k := j) rfl (by omega) (by decide)) ?_
    refine sk_S.if_ne (tgt := 26) (dd DX8_notThere 9 rfl) (by decide) (fun c18 => ?_) (fun c18 => ?_)
    · refine sk_S.iconst (v := 0) (dd DX8_notThere 12 rfl) (by decide) ?_
      refine sk_S.iret (dd DX8_notThere 13 rfl) rfl rfl ?_
      refine ⟨rfl, ?_⟩
      rw [ntK_in hj, if_neg c18]
      rfl
    · refine sk_S.ldc (dd DX8_notThere 10 rfl) rfl cnX8_190 ?_
      refine sk_S.goto (tgt := 27) (dd DX8_notThere 11 rfl) (by decide) ?_
      refine sk_S.iret (dd DX8_notThere 13 rfl) rfl rfl ?_
      refine ⟨rfl, ?_⟩
      rw [ntK_in hj, if_pos c18]
      rfl
  · refine sk_S.ldc (dd DX8_notThere 3 rfl) rfl cnX8_73 ?_
    refine sk_S.goto (tgt := 27) (dd DX8_notThere 4 rfl) (by decide) ?_
    refine sk_S.iret (dd DX8_notThere 13 rfl) rfl rfl ?_
    refine ⟨rfl, ?_⟩
    rw [ntK_no (fun q => c4 ((inN_le (by decide)).mpr q))]
    rfl
set_option maxRecDepth 100000 in
set_option maxHeartbeats 4000000 in
theorem cM_judge {l : Launch} {E : sk_V} {d : Nat} {h : sk_M} {s : Int32} (hb : boI (h 55)) (hI : lawI (h 55) 0) (hS : shI h) : sk_K l E (d + 7) MX8_judge [.ref 54, .int s] h (fun r h1 => (¬ ntK h s = 0 ∧ erM h (ntK h s) h1 r) ∨ (∃ j, j < 4 ∧ s = nI j ∧ ¬ h 58 j = 0 ∧ sk_o [63, 64] h h1 ∧ some (.int (nI (rgN (h 55) (ceV h j) (shN h j) (h 55 3)))) = r)) := by
  refine sk_K.of (by decide +kernel) (Nat.le_of_ble_eq_true rfl) ?_
  show sk_S l E (d + 7) _ 0 [some (.ref 54), some (.int s), none] [] h _
  refine sk_S.aload_n (i := 0) (dd DX8_judge 0 rfl) rfl rfl ?_
  refine sk_S.iload_n (i := 1) (dd DX8_judge 1 rfl) rfl rfl ?_
  refine sk_S.callV (dd DX8_judge 2 rfl) rfl kX8_246 cM_notThere se_54 (by decide) rfl rfl rfl rfl (Nat.le_of_ble_eq_true rfl) (fun r2 h2 q2 => ?_)
  obtain ⟨rfl, rfl⟩ := q2
  show sk_S _ _ _ _ _ _ (.int _ :: _) _ _
  refine sk_S.istore_n (i := 2) (dd DX8_judge 3 rfl) rfl (Nat.le_of_ble_eq_true rfl) rfl ?_
  refine sk_S.iload_n (i := 2) (dd DX8_judge 4 rfl) rfl rfl ?_
  refine sk_S.if_eq (tgt := 18) (dd DX8_judge 5 rfl) (by decide) (fun c7 => ?_) (fun c7 => ?_)
  · have k0 : ntK h s = 0 := wI_0 c7 (by have := ntK_le h s; omega)
    obtain ⟨j, hj, rfl, hbj⟩ := ntK_0 k0
    obtain ⟨hl, hl24⟩ := hS j hj
    refine sk_S.aload_n (i := 0) (dd DX8_judge 10 rfl) rfl rfl ?_
    refine sk_S.iload_n (i := 1) (dd DX8_judge 11 rfl) rfl rfl ?_
    refine sk_S.callV (dd DX8_judge 12 rfl) rfl kX8_203 (cM_rightOf hj rfl hb hI hl hl24) se_54 (by decide) rfl rfl rfl rfl (Nat.le_of_ble_eq_true rfl) (fun r20 h20 q20 => ?_)
    obtain ⟨ho, rfl⟩ := q20
    show sk_S _ _ _ _ _ _ (.int _ :: _) _ _
    refine sk_S.iret (dd DX8_judge 13 rfl) rfl rfl ?_
    exact Or.inr ⟨j, hj, rfl, hbj, ho, rfl⟩
  · have k0 : ¬ ntK h s = 0 := fun q => c7 (by rw [q]; rfl)
    refine sk_S.aload_n (i := 0) (dd DX8_judge 6 rfl) rfl rfl ?_
    refine sk_S.iload_n (i := 2) (dd DX8_judge 7 rfl) rfl rfl ?_
    refine sk_S.callV (dd DX8_judge 8 rfl) rfl kX8_74 (cM_error (k := ntK h s) (wI_ix k0 (by have := ntK_le h s; omega))) se_54 (by decide) rfl rfl rfl rfl (Nat.le_of_ble_eq_true rfl) (fun r12 h12 q12 => ?_)
    obtain ⟨rfl, rfl⟩ := q12
    show sk_S _ _ _ _ _ _ (.int _ :: _) _ _
    refine sk_S.goto (tgt := 23) (dd DX8_judge 9 rfl) (by decide) ?_
    refine sk_S.iret (dd DX8_judge 13 rfl) rfl rfl ?_
    exact Or.inl ⟨k0, rfl, by rw [wI_er k0]⟩
set_option maxRecDepth 100000 in
set_option maxHeartbeats 4000000 in
theorem cM_put {l : Launch} {E : sk_V} {d : Nat} {h : sk_M} {s i v : Int32} (hS : shI h) : sk_K l E (d + 3) MX8_put [.ref 54, .int s, .int i, .int v] h (fun r h1 => (¬ ntK h s = 0 ∧ erM h (ntK h s) h1 r) ∨ (∃ j, j < 4 ∧ s = nI j ∧ ¬ h 58 j = 0 ∧ ((¬ inN i (shN h j) ∧ erM h 1 h1 r) ∨ (∃ q, q < shN h j ∧ i = nI q ∧ sk_u h 60 (24 * j + q) (ptV (h 58 j) v) = h1 ∧ some (.int 1) = r)))) := by
  refine sk_K.of (by decide +kernel) (Nat.le_of_ble_eq_true rfl) ?_
  show sk_S l E (d + 3) _ 0 [some (.ref 54), some (.int s), some (.int i), some (.int v), none] [] h _
  refine sk_S.aload_n (i := 0) (dd DX8_put 0 rfl) rfl rfl ?_
  refine sk_S.iload_n (i := 1) (dd DX8_put 1 rfl) rfl rfl ?_
  refine sk_S.callV (dd DX8_put 2 rfl) rfl kX8_246 cM_notThere se_54 (by decide) rfl rfl rfl rfl (Nat.le_of_ble_eq_true rfl) (fun r2 h2 q2 => ?_)
  obtain ⟨rfl, rfl⟩ := q2
  show sk_S _ _ _ _ _ _ (.int _ :: _) _ _
  refine sk_S.istore (i := 4) (dd DX8_put 3 rfl) (Nat.le_of_ble_eq_true rfl) rfl ?_
  refine sk_S.iload (i := 4) (dd DX8_put 4 rfl) rfl ?_
  refine sk_S.if_ne (tgt := 33) (dd DX8_put 5 rfl) (by decide) (fun c9 => ?_) (fun c9 => ?_)
  · have k0 : ¬ ntK h s = 0 := fun q => c9 (by rw [q]; rfl)
    refine sk_S.iload (i := 4) (dd DX8_put 18 rfl) rfl ?_
    refine sk_S.istore (i := 4) (dd DX8_put 19 rfl) (Nat.le_of_ble_eq_true rfl) rfl ?_
    refine sk_S.iload (i := 4) (dd DX8_put 20 rfl) rfl ?_
    refine sk_S.if_eq (tgt := 49) (dd DX8_put 21 rfl) (by decide) (fun c39 => absurd c39 (fun q => k0 (wI_0 q (by have := ntK_le h s; omega)))) (fun c39 => ?_)
    refine sk_S.aload_n (i := 0) (dd DX8_put 22 rfl) rfl rfl ?_
    refine sk_S.iload (i := 4) (dd DX8_put 23 rfl) rfl ?_
    refine sk_S.callV (dd DX8_put 24 rfl) rfl kX8_74 (cM_error (k := ntK h s) (wI_ix k0 (by have := ntK_le h s; omega))) se_54 (by decide) rfl rfl rfl rfl (Nat.le_of_ble_eq_true rfl) (fun r45 h45 q45 => ?_)
    obtain ⟨rfl, rfl⟩ := q45
    show sk_S _ _ _ _ _ _ (.int _ :: _) _ _
    refine sk_S.iret (dd DX8_put 25 rfl) rfl rfl ?_
    exact Or.inl ⟨k0, rfl, by rw [wI_er k0]⟩
  · have k0 : ntK h s = 0 := wI_0 c9 (by have := ntK_le h s; omega)
    obtain ⟨j, hj, rfl, hbj⟩ := ntK_0 k0
    obtain ⟨hl, hl24⟩ := hS j hj
    refine sk_S.iload_n (i := 2) (dd DX8_put 6 rfl) rfl rfl ?_
    refine sk_S.iconst (v := 0) (dd DX8_put 7 rfl) (by decide) ?_
    refine sk_S.aload_n (i := 0) (dd DX8_put 8 rfl) rfl rfl ?_
    refine sk_S.getr (dd DX8_put 9 rfl) rfl fX8_22 se_54 (by decide) rfl ?_
    refine sk_S.iload_n (i := 1) (dd DX8_put 10 rfl) rfl rfl ?_
    refine sk_S.iald (dd DX8_put 11 rfl) se_59 (sk_ix_nI (k := j) rfl (by omega) (by decide)) ?_
    refine sk_S.iconst (v := 1) (dd DX8_put 12 rfl) (by decide) ?_
    refine sk_S.isub (dd DX8_put 13 rfl) ?_
    refine sk_S.callS (dd DX8_put 14 rfl) rfl kX8_47 cM_in rfl rfl rfl (Nat.le_of_ble_eq_true rfl) (fun r22 h22 q22 => ?_)
    obtain ⟨rfl, rfl⟩ := q22
    show sk_S _ _ _ _ _ _ (.int _ :: _) _ _
    refine sk_S.bif_ne (tgt := 33) (dd DX8_put 15 rfl) (by decide) (fun c25 => ?_) (fun c25 => ?_)
    · rw [hl] at c25
      obtain ⟨q, hq, rfl⟩ := (inN_pred (by omega)).mp c25
      refine sk_S.iload (i := 4) (dd DX8_put 18 rfl) rfl ?_
      refine sk_S.istore (i := 4) (dd DX8_put 19 rfl) (Nat.le_of_ble_eq_true rfl) rfl ?_
      refine sk_S.iload (i := 4) (dd DX8_put 20 rfl) rfl ?_
      refine sk_S.if_eq (tgt := 49) (dd DX8_put 21 rfl) (by decide) (fun c39 => ?_) (fun c39 => absurd (by rw [k0]; rfl) c39)
      refine sk_S.aload_n (i := 0) (dd DX8_put 26 rfl) rfl rfl ?_
      refine sk_S.getr (dd DX8_put 27 rfl) rfl fX8_25 se_54 (by decide) rfl ?_
      refine sk_S.bipush (v := 24) (dd DX8_put 28 rfl) (by decide) ?_
      refine sk_S.iload_n (i := 1) (dd DX8_put 29 rfl) rfl rfl ?_
      refine sk_S.imul (dd DX8_put 30 rfl) ?_
      refine sk_S.iload_n (i := 2) (dd DX8_put 31 rfl) rfl rfl ?_
      refine sk_S.iadd (dd DX8_put 32 rfl) ?_
      refine sk_S.aload_n (i := 0) (dd DX8_put 33 rfl) rfl rfl ?_
      refine sk_S.getr (dd DX8_put 34 rfl) rfl fX8_19 se_54 (by decide) rfl ?_
      refine sk_S.iload_n (i := 1) (dd DX8_put 35 rfl) rfl rfl ?_
      refine sk_S.iald (dd DX8_put 36 rfl) se_58 (sk_ix_nI (k := j) rfl (by omega) (by decide)) ?_
      refine sk_S.bipush (v := 8) (dd DX8_put 37 rfl) (by decide) ?_
      refine sk_S.icmp_ne (tgt := 75) (dd DX8_put 38 rfl) (by decide) (fun c67 => ?_) (fun c67 => ?_)
      · refine sk_S.aload_n (i := 0) (dd DX8_put 42 rfl) rfl rfl ?_
        refine sk_S.getr (dd DX8_put 43 rfl) rfl fX8_19 se_54 (by decide) rfl ?_
        refine sk_S.iload_n (i := 1) (dd DX8_put 44 rfl) rfl rfl ?_
        refine sk_S.iald (dd DX8_put 45 rfl) se_58 (sk_ix_nI (k := j) rfl (by omega) (by decide)) ?_
        refine sk_S.bipush (v := 16) (dd DX8_put 46 rfl) (by decide) ?_
        refine sk_S.icmp_ne (tgt := 91) (dd DX8_put 47 rfl) (by decide) (fun c83 => ?_) (fun c83 => ?_)
        · refine sk_S.iload_n (i := 3) (dd DX8_put 51 rfl) rfl rfl ?_
          refine sk_S.iast (dd DX8_put 52 rfl) se_60 (sk_ix_e (k := 24 * j + q) (ix_24 j q) (by omega) (by decide)) ?_
          refine sk_S.iconst (v := 1) (dd DX8_put 53 rfl) (by decide) ?_
          refine sk_S.iret (dd DX8_put 54 rfl) rfl rfl ?_
          refine Or.inr ⟨j, hj, rfl, hbj, Or.inr ⟨q, hq, rfl, ?_, rfl⟩⟩
          unfold ptV
          rw [if_neg c67, if_neg c83]
        · refine sk_S.iload_n (i := 3) (dd DX8_put 48 rfl) rfl rfl ?_
          refine sk_S.i2s (dd DX8_put 49 rfl) ?_
          refine sk_S.goto (tgt := 92) (dd DX8_put 50 rfl) (by decide) ?_
          refine sk_S.iast (dd DX8_put 52 rfl) se_60 (sk_ix_e (k := 24 * j + q) (ix_24 j q) (by omega) (by decide)) ?_
          refine sk_S.iconst (v := 1) (dd DX8_put 53 rfl) (by decide) ?_
          refine sk_S.iret (dd DX8_put 54 rfl) rfl rfl ?_
          refine Or.inr ⟨j, hj, rfl, hbj, Or.inr ⟨q, hq, rfl, ?_, rfl⟩⟩
          unfold ptV
          rw [if_neg c67, if_pos c83]
      · refine sk_S.iload_n (i := 3) (dd DX8_put 39 rfl) rfl rfl ?_
        refine sk_S.i2b (dd DX8_put 40 rfl) ?_
        refine sk_S.goto (tgt := 92) (dd DX8_put 41 rfl) (by decide) ?_
        refine sk_S.iast (dd DX8_put 52 rfl) se_60 (sk_ix_e (k := 24 * j + q) (ix_24 j q) (by omega) (by decide)) ?_
        refine sk_S.iconst (v := 1) (dd DX8_put 53 rfl) (by decide) ?_
        refine sk_S.iret (dd DX8_put 54 rfl) rfl rfl ?_
        refine Or.inr ⟨j, hj, rfl, hbj, Or.inr ⟨q, hq, rfl, ?_, rfl⟩⟩
        unfold ptV
        rw [if_pos c67]
    · refine sk_S.ldc (dd DX8_put 16 rfl) rfl cnX8_73 ?_
      refine sk_S.goto (tgt := 35) (dd DX8_put 17 rfl) (by decide) ?_
      refine sk_S.istore (i := 4) (dd DX8_put 19 rfl) (Nat.le_of_ble_eq_true rfl) rfl ?_
      refine sk_S.iload (i := 4) (dd DX8_put 20 rfl) rfl ?_
      refine sk_S.if_eq (tgt := 49) (dd DX8_put 21 rfl) (by decide) (fun c39 => absurd c39 (by decide)) (fun c39 => ?_)
      refine sk_S.aload_n (i := 0) (dd DX8_put 22 rfl) rfl rfl ?_
      refine sk_S.iload (i := 4) (dd DX8_put 23 rfl) rfl ?_
      refine sk_S.callV (dd DX8_put 24 rfl) rfl kX8_74 (cM_error (k := 1) ⟨by decide, by decide, by decide⟩) se_54 (by decide) rfl rfl rfl rfl (Nat.le_of_ble_eq_true rfl) (fun r45 h45 q45 => ?_)
      obtain ⟨rfl, rfl⟩ := q45
      show sk_S _ _ _ _ _ _ (.int _ :: _) _ _
      refine sk_S.iret (dd DX8_put 25 rfl) rfl rfl ?_
      exact Or.inr ⟨j, hj, rfl, hbj, Or.inl ⟨fun q => c25 (by rw [hl]; exact (inN_pred (by omega)).mpr q), rfl, rfl⟩⟩
set_option maxRecDepth 100000 in
set_option maxHeartbeats 4000000 in
theorem lp_prices {l : Launch} {E : sk_V} {d : Nat} {h : sk_M} {ρ : Nat → Int32} {j len : Nat} {x2 : Int32} (hj : j < 4) (hρ : h 55 = ρ) (hl : h 59 j = nI len) (hl24 : len ≤ 24) : ∀ (m i : Nat) (g : sk_M), i + m = 4 → sk_o [55] h g → g 55 = prR ρ (ceV h j) i → (soF (prP (ceV h j) len) 4 0) = (soF (prP (ceV h j) len) m i) → sk_S l E (d + 1) MX8_prices 18 [some (.ref 54), some (.int (nI j)), some (.int x2), some (.int (nI i))] [] g (fun r h1 => sk_o [55] h h1 ∧ h1 55 = prR ρ (ceV h j) (soF (prP (ceV h j) len) 4 0) ∧ some (.int (nI (soF (prP (ceV h j) len) 4 0))) = r)
  | 0, i, g, hi, ho, hg, hs => by
    have hi4 : i = 4 := by omega
    subst hi4
    refine sk_S.iload_n (i := 3) (dd DX8_prices 12 rfl) rfl rfl ?_
    refine sk_S.aload_n (i := 0) (dd DX8_prices 13 rfl) rfl rfl ?_
    refine sk_S.getr (dd DX8_prices 14 rfl) rfl fX8_22 se_54 (by decide) rfl ?_
    refine sk_S.iload_n (i := 1) (dd DX8_prices 15 rfl) rfl rfl ?_
    refine sk_S.iald (dd DX8_prices 16 rfl) se_59 (sk_ix_nI (k := j) rfl (by omega) (by decide)) ?_
    refine sk_S.icmp_ge (tgt := 79) (dd DX8_prices 17 rfl) (by decide) (fun c25 => ?_) (fun c25 => ?_)
    · refine sk_S.iload_n (i := 3) (dd DX8_prices 49 rfl) rfl rfl ?_
      refine sk_S.iret (dd DX8_prices 50 rfl) rfl rfl ?_
      rw [hs]
      exact ⟨ho, hg, rfl⟩
    · refine sk_S.iload_n (i := 3) (dd DX8_prices 18 rfl) rfl rfl ?_
      refine sk_S.iconst (v := 4) (dd DX8_prices 19 rfl) (by decide) ?_
      refine sk_S.icmp_ge (tgt := 79) (dd DX8_prices 20 rfl) (by decide) (fun c30 => ?_) (fun c30 => absurd (by decide) c30)
      refine sk_S.iload_n (i := 3) (dd DX8_prices 49 rfl) rfl rfl ?_
      refine sk_S.iret (dd DX8_prices 50 rfl) rfl rfl ?_
      rw [hs]
      exact ⟨ho, hg, rfl⟩
  | m + 1, i, g, hi, ho, hg, hs => by
    have e59 : g 59 = h 59 := ho 59 (by decide)
    have e60 : g 60 = h 60 := ho 60 (by decide)
    refine sk_S.iload_n (i := 3) (dd DX8_prices 12 rfl) rfl rfl ?_
    refine sk_S.aload_n (i := 0) (dd DX8_prices 13 rfl) rfl rfl ?_
    refine sk_S.getr (dd DX8_prices 14 rfl) rfl fX8_22 se_54 (by decide) rfl ?_
    refine sk_S.iload_n (i := 1) (dd DX8_prices 15 rfl) rfl rfl ?_
    refine sk_S.iald (dd DX8_prices 16 rfl) se_59 (sk_ix_nI (k := j) rfl (by omega) (by decide)) ?_
    refine sk_S.icmp_ge (tgt := 79) (dd DX8_prices 17 rfl) (by decide) (fun c25 => ?_) (fun c25 => ?_)
    · refine sk_S.iload_n (i := 3) (dd DX8_prices 49 rfl) rfl rfl ?_
      refine sk_S.iret (dd DX8_prices 50 rfl) rfl rfl ?_
      have c25n : ¬ i < len := by
        rw [e59, hl, nI_leI (by omega) (by omega)] at c25
        omega
      have eP : prP (ceV h j) len i = true := by
        unfold prP
        apply decide_eq_true
        intro q
        exact c25n q.1
      have e9 : (soF (prP (ceV h j) len) 4 0) = i := by
        rw [hs]
        show (if _ then _ else _) = _
        rw [eP]
        rfl
      rw [e9]
      exact ⟨ho, hg, rfl⟩
    · refine sk_S.iload_n (i := 3) (dd DX8_prices 18 rfl) rfl rfl ?_
      refine sk_S.iconst (v := 4) (dd DX8_prices 19 rfl) (by decide) ?_
      refine sk_S.icmp_ge (tgt := 79) (dd DX8_prices 20 rfl) (by decide) (fun c30 => absurd c30 (nI_ge (b := 4) (by omega) (by decide))) (fun c30 => ?_)
      refine sk_S.aload_n (i := 0) (dd DX8_prices 21 rfl) rfl rfl ?_
      refine sk_S.getr (dd DX8_prices 22 rfl) rfl fX8_25 se_54 (by decide) rfl ?_
      refine sk_S.bipush (v := 24) (dd DX8_prices 23 rfl) (by decide) ?_
      refine sk_S.iload_n (i := 1) (dd DX8_prices 24 rfl) rfl rfl ?_
      refine sk_S.imul (dd DX8_prices 25 rfl) ?_
      refine sk_S.iload_n (i := 3) (dd DX8_prices 26 rfl) rfl rfl ?_
      refine sk_S.iadd (dd DX8_prices 27 rfl) ?_
      refine sk_S.iald (dd DX8_prices 28 rfl) se_60 (sk_ix_e (k := 24 * j + i) (ix_24 j i) (by omega) (by decide)) ?_
      refine sk_S.iconst (v := 0) (dd DX8_prices 29 rfl) (by decide) ?_
      refine sk_S.bipush (v := 9) (dd DX8_prices 30 rfl) (by decide) ?_
      refine sk_S.callS (dd DX8_prices 31 rfl) rfl kX8_47 cM_in rfl rfl rfl (Nat.le_of_ble_eq_true rfl) (fun r47 h47 q47 => ?_)
      obtain ⟨rfl, rfl⟩ := q47
      show sk_S _ _ _ _ _ _ (.int _ :: _) _ _
      refine sk_S.bif_eq (tgt := 79) (dd DX8_prices 32 rfl) (by decide) (fun c50 => ?_) (fun c50 => ?_)
      · refine sk_S.iload_n (i := 3) (dd DX8_prices 49 rfl) rfl rfl ?_
        refine sk_S.iret (dd DX8_prices 50 rfl) rfl rfl ?_
        have eP : prP (ceV h j) len i = true := by
          unfold prP
          apply decide_eq_true
          intro q
          rw [e60] at c50; exact c50 q.2
        have e9 : (soF (prP (ceV h j) len) 4 0) = i := by
          rw [hs]
          show (if _ then _ else _) = _
          rw [eP]
          rfl
        rw [e9]
        exact ⟨ho, hg, rfl⟩
      · refine sk_S.aload_n (i := 0) (dd DX8_prices 33 rfl) rfl rfl ?_
        refine sk_S.getr (dd DX8_prices 34 rfl) rfl fX8_9 se_54 (by decide) rfl ?_
        refine sk_S.bipush (v := 13) (dd DX8_prices 35 rfl) (by decide) ?_
        refine sk_S.iload_n (i := 3) (dd DX8_prices 36 rfl) rfl rfl ?_
        refine sk_S.iadd (dd DX8_prices 37 rfl) ?_
        refine sk_S.aload_n (i := 0) (dd DX8_prices 38 rfl) rfl rfl ?_
        refine sk_S.getr (dd DX8_prices 39 rfl) rfl fX8_25 se_54 (by decide) rfl ?_
        refine sk_S.bipush (v := 24) (dd DX8_prices 40 rfl) (by decide) ?_
        refine sk_S.iload_n (i := 1) (dd DX8_prices 41 rfl) rfl rfl ?_
        refine sk_S.imul (dd DX8_prices 42 rfl) ?_
        refine sk_S.iload_n (i := 3) (dd DX8_prices 43 rfl) rfl rfl ?_
        refine sk_S.iadd (dd DX8_prices 44 rfl) ?_
        refine sk_S.iald (dd DX8_prices 45 rfl) se_60 (sk_ix_e (k := 24 * j + i) (ix_24 j i) (by omega) (by decide)) ?_
        refine sk_S.iast (dd DX8_prices 46 rfl) se_55 (sk_ix_e (k := 13 + i) (ix_add 13 i) (by omega) (by decide)) ?_
        refine sk_S.iinc (i := 3) (v := _ + 1) (dd DX8_prices 47 rfl) rfl rfl rfl ?_
        refine sk_S.goto (tgt := 18) (dd DX8_prices 48 rfl) (by decide) ?_
        have eP : prP (ceV h j) len i = false := by
          unfold prP
          apply decide_eq_false
          intro q
          apply q
          rw [e60] at c50
          exact ⟨Nat.lt_of_not_le (fun q2 => c25 (by rw [e59, hl]; exact nI_le q2 (by omega))), c50⟩
        have e9 : (soF (prP (ceV h j) len) 4 0) = (soF (prP (ceV h j) len) m (i + 1)) := by
          rw [hs]
          show (if _ then _ else _) = _
          rw [eP]
          rfl
        exact sk_S.L (lp_prices hj hρ hl hl24 m (i + 1) _ (by omega) (ho.u (by decide)) (by rw [sk_u, sk_r_eq, hg, e60, prR_s]) e9) (by rw [nI_succ]; rfl)
set_option maxRecDepth 100000 in
set_option maxHeartbeats 4000000 in
theorem cM_prices {l : Launch} {E : sk_V} {d : Nat} {h : sk_M} {s : Int32} (hS : shI h) : sk_K l E (d + 3) MX8_prices [.ref 54, .int s] h (fun r h1 => (¬ ntK h s = 0 ∧ erM h (ntK h s) h1 r) ∨ (∃ j, j < 4 ∧ s = nI j ∧ ¬ h 58 j = 0 ∧ sk_o [55] h h1 ∧ h1 55 = prR (h 55) (ceV h j) (soF (prP (ceV h j) (shN h j)) 4 0) ∧ some (.int (nI (soF (prP (ceV h j) (shN h j)) 4 0))) = r)) := by
  refine sk_K.of (by decide +kernel) (Nat.le_of_ble_eq_true rfl) ?_
  show sk_S l E (d + 3) _ 0 [some (.ref 54), some (.int s), none, none] [] h _
  refine sk_S.aload_n (i := 0) (dd DX8_prices 0 rfl) rfl rfl ?_
  refine sk_S.iload_n (i := 1) (dd DX8_prices 1 rfl) rfl rfl ?_
  refine sk_S.callV (dd DX8_prices 2 rfl) rfl kX8_246 cM_notThere se_54 (by decide) rfl rfl rfl rfl (Nat.le_of_ble_eq_true rfl) (fun r2 h2 q2 => ?_)
  obtain ⟨rfl, rfl⟩ := q2
  show sk_S _ _ _ _ _ _ (.int _ :: _) _ _
  refine sk_S.istore_n (i := 2) (dd DX8_prices 3 rfl) rfl (Nat.le_of_ble_eq_true rfl) rfl ?_
  refine sk_S.iload_n (i := 2) (dd DX8_prices 4 rfl) rfl rfl ?_
  refine sk_S.if_eq (tgt := 16) (dd DX8_prices 5 rfl) (by decide) (fun c7 => ?_) (fun c7 => ?_)
  · have k0 : ntK h s = 0 := wI_0 c7 (by have := ntK_le h s; omega)
    obtain ⟨j, hj, rfl, hbj⟩ := ntK_0 k0
    obtain ⟨hl, hl24⟩ := hS j hj
    refine sk_S.iconst (v := 0) (dd DX8_prices 10 rfl) (by decide) ?_
    refine sk_S.istore_n (i := 3) (dd DX8_prices 11 rfl) rfl (Nat.le_of_ble_eq_true rfl) rfl ?_
    refine sk_S.mono (lp_prices hj rfl hl hl24 4 0 h rfl sk_o.rf prR_0.symm rfl) ?_
    rintro r h1 ⟨q1, q2, q3⟩
    exact Or.inr ⟨j, hj, rfl, hbj, q1, q2, q3⟩
  · have k0 : ¬ ntK h s = 0 := fun q => c7 (by rw [q]; rfl)
    refine sk_S.aload_n (i := 0) (dd DX8_prices 6 rfl) rfl rfl ?_
    refine sk_S.iload_n (i := 2) (dd DX8_prices 7 rfl) rfl rfl ?_
    refine sk_S.callV (dd DX8_prices 8 rfl) rfl kX8_74 (cM_error (k := ntK h s) (wI_ix k0 (by have := ntK_le h s; omega))) se_54 (by decide) rfl rfl rfl rfl (Nat.le_of_ble_eq_true rfl) (fun r12 h12 q12 => ?_)
    obtain ⟨rfl, rfl⟩ := q12
    show sk_S _ _ _ _ _ _ (.int _ :: _) _ _
    refine sk_S.iret (dd DX8_prices 9 rfl) rfl rfl ?_
    exact Or.inl ⟨k0, rfl, by rw [wI_er k0]⟩
end M11
end
section
section SPEC12
noncomputable def mvK (h : sk_M) (s i o j n : Int32) : Nat :=
  @ite _ (inN s 4 ∧ inN o 4) (Classical.propDecidable _) (if h 58 s.toNatClampNeg = 0 ∨ h 58 o.toNatClampNeg = 0 then 2 else if ¬ h 58 s.toNatClampNeg = h 58 o.toNatClampNeg then 5 else
    @ite _ (∃ a b q : Nat, i = nI a ∧ j = nI b ∧ n = nI q ∧ a + q ≤ shN h s.toNatClampNeg ∧ b + q ≤ shN h o.toNatClampNeg) (Classical.propDecidable _) 0 1) 1
theorem mvK_le (h : sk_M) (s i o j n : Int32) : mvK h s i o j n ≤ 5 := by
  unfold mvK
  split
  · split
    · omega
    · split
      · omega
      · split <;> omega
  · omega
theorem mvK_no {h : sk_M} {s i o j n : Int32} (q : ¬ (inN s 4 ∧ inN o 4)) : mvK h s i o j n = 1 := if_neg q
theorem mvK_in {h : sk_M} {a b : Nat} {i j n : Int32} (ha : a < 4) (hb : b < 4) : mvK h (nI a) i (nI b) j n = if h 58 a = 0 ∨ h 58 b = 0 then 2 else if ¬ h 58 a = h 58 b then 5 else
    @ite _ (∃ x y q : Nat, i = nI x ∧ j = nI y ∧ n = nI q ∧ x + q ≤ shN h a ∧ y + q ≤ shN h b) (Classical.propDecidable _) 0 1 := by
  unfold mvK
  rw [if_pos ⟨⟨a, ha, rfl⟩, ⟨b, hb, rfl⟩⟩, nI_clamp (by omega), nI_clamp (by omega)]
/-- n numbers from i on stand in a row of len -/
theorem sub_toInt {a b : Nat} (ha : a < 2147483648) (hb : b < 2147483648) : (nI a - nI b).toInt = (a : Int) - (b : Int) := by
  rw [Int32.toInt_sub, nI_toInt ha, nI_toInt hb]
  exact Int.bmod_eq_of_le (by omega) (by omega)
theorem mv_fit {i n : Int32} {len : Nat} (hl : len ≤ 24) (h1 : ¬ n < 0) (h2 : ¬ i < 0) (h3 : ¬ nI len - i < n) : ∃ a q : Nat, i = nI a ∧ n = nI q ∧ a + q ≤ len := by
  obtain ⟨a, ha, rfl⟩ := nI_of h2
  obtain ⟨q, hq, rfl⟩ := nI_of h1
  refine ⟨a, q, rfl, rfl, ?_⟩
  rw [Int32.not_lt, Int32.le_iff_toInt_le, sub_toInt (by omega) ha, nI_toInt hq] at h3
  omega
theorem mv_no {a q len : Nat} (hl : len ≤ 24) (h : a + q ≤ len) : ¬ nI q < 0 ∧ ¬ nI a < 0 ∧ ¬ nI len - nI a < nI q := by
  refine ⟨nI_pos (by omega), nI_pos (by omega), ?_⟩
  rw [nI_sub (by omega)]
  exact nI_nlt (by omega) (by omega)
theorem nI_inj {a b : Nat} (ha : a < 2147483648) (hb : b < 2147483648) (h : nI a = nI b) : a = b := (nI_eq ha hb).mp h
end SPEC12
section SPEC12B
theorem rgN_le (g c : Nat → Int32) (len : Nat) (sea : Int32) : rgN g c len sea ≤ 4 := soF_le _ 4 0
end SPEC12B
end
section
section M12
set_option maxRecDepth 100000 in
set_option maxHeartbeats 4000000 in
theorem lp_fits {l : Launch} {E : sk_V} {d : Nat} {h : sk_M} {ρ : Nat → Int32} {s len : Nat} {w : Int32} (hs4 : s < 4) (hρ : h 55 = ρ) (hb : boI ρ) (hI : lawI ρ 0) (hl : h 59 s = nI len) (hl24 : len ≤ 24) : ∀ (k m : Nat) (g : sk_M) (x : Int32) (x7 : Option Value), m + k = 10 → sk_o [55, 63, 64] h g → g 55 = upd ρ 3 x → sk_S l E (d + 7) MX8_fits 56 [some (.ref 54), some (.int (nI s)), some (.int w), some (.int (ρ 3)), some (.int (setT (fsP ρ (ceV h s) len) m)), some (.int (lstT (fsP ρ (ceV h s) len) m)), some (.int (nI (10 - m) - 1)), x7] [] g (fun r h1 => (w = 0 ∧ sk_o [63, 64] h h1 ∧ some (.int (setT (fsP ρ (ceV h s) len) 10)) = r) ∨ (¬ w = 0 ∧ ¬ 0 ≤ lstT (fsP ρ (ceV h s) len) 10 ∧ erT h 2 h1 r) ∨ (¬ w = 0 ∧ 0 ≤ lstT (fsP ρ (ceV h s) len) 10 ∧ sk_o [63, 64] h h1 ∧ some (.int (lstT (fsP ρ (ceV h s) len) 10)) = r))
  | 0, m, g, x, x7, hm, ho, hg => by
    have hmm : m = 10 := by omega
    subst hmm
    refine sk_S.iload (i := 6) (dd DX8_fits 32 rfl) rfl ?_
    refine sk_S.if_lt (tgt := 128) (dd DX8_fits 33 rfl) (by decide) (fun c58 => ?_) (fun c58 => absurd (by decide) c58)
    refine sk_S.aload_n (i := 0) (dd DX8_fits 69 rfl) rfl rfl ?_
    refine sk_S.getr (dd DX8_fits 70 rfl) rfl fX8_9 se_54 (by decide) rfl ?_
    refine sk_S.iconst (v := 3) (dd DX8_fits 71 rfl) (by decide) ?_
    refine sk_S.iload_n (i := 3) (dd DX8_fits 72 rfl) rfl rfl ?_
    refine sk_S.iast (dd DX8_fits 73 rfl) se_55 (j := 3) ⟨by decide, by decide, by decide⟩ ?_
    have hb2 : sk_o [63, 64] h (sk_u g 55 3 (ρ 3)) := back_o (ho.u (by decide)) (by rw [sk_u, sk_r_eq, hg, upd_upd, upd_self, hρ])
    refine sk_S.iload_n (i := 2) (dd DX8_fits 74 rfl) rfl rfl ?_
    refine sk_S.if_ne (tgt := 144) (dd DX8_fits 75 rfl) (by decide) (fun c136 => ?_) (fun c136 => ?_)
    · refine sk_S.iload (i := 5) (dd DX8_fits 78 rfl) rfl ?_
      refine sk_S.if_ge (tgt := 158) (dd DX8_fits 79 rfl) (by decide) (fun c146 => ?_) (fun c146 => ?_)
      · refine sk_S.iload (i := 5) (dd DX8_fits 84 rfl) rfl ?_
        refine sk_S.iret (dd DX8_fits 85 rfl) rfl rfl ?_
        exact Or.inr (Or.inr ⟨c136, c146, hb2, rfl⟩)
      · refine sk_S.aload_n (i := 0) (dd DX8_fits 80 rfl) rfl rfl ?_
        refine sk_S.ldc (dd DX8_fits 81 rfl) rfl cnX8_190 ?_
        refine sk_S.callV (dd DX8_fits 82 rfl) rfl kX8_74 (cM_error (k := 2) ⟨by decide, by decide, by decide⟩) se_54 (by decide) rfl rfl rfl rfl (Nat.le_of_ble_eq_true rfl) (fun r152 h152 q152 => ?_)
        obtain ⟨rfl, rfl⟩ := q152
        show sk_S _ _ _ _ _ _ (.int _ :: _) _ _
        refine sk_S.goto (tgt := 160) (dd DX8_fits 83 rfl) (by decide) ?_
        refine sk_S.iret (dd DX8_fits 85 rfl) rfl rfl ?_
        exact Or.inr (Or.inl ⟨c136, c146, _, hb2, rfl, rfl⟩)
    · refine sk_S.iload (i := 4) (dd DX8_fits 76 rfl) rfl ?_
      refine sk_S.goto (tgt := 160) (dd DX8_fits 77 rfl) (by decide) ?_
      refine sk_S.iret (dd DX8_fits 85 rfl) rfl rfl ?_
      exact Or.inl ⟨c136, hb2, rfl⟩
  | k + 1, m, g, x, x7, hm, ho, hg => by
    have e5 : nI (10 - m) - 1 = nI (9 - m) := by rw [show 10 - m = (9 - m) + 1 from by omega, nI_pred]
    rw [e5]
    refine sk_S.iload (i := 6) (dd DX8_fits 32 rfl) rfl ?_
    refine sk_S.if_lt (tgt := 128) (dd DX8_fits 33 rfl) (by decide) (fun c58 => absurd c58 (nI_pos (by omega))) (fun c58 => ?_)
    refine sk_S.aload_n (i := 0) (dd DX8_fits 34 rfl) rfl rfl ?_
    refine sk_S.getr (dd DX8_fits 35 rfl) rfl fX8_9 se_54 (by decide) rfl ?_
    refine sk_S.iconst (v := 3) (dd DX8_fits 36 rfl) (by decide) ?_
    refine sk_S.iload (i := 6) (dd DX8_fits 37 rfl) rfl ?_
    refine sk_S.iast (dd DX8_fits 38 rfl) se_55 (j := 3) ⟨by decide, by decide, by decide⟩ ?_
    have e55 : sk_u g 55 3 (nI (9 - m)) 55 = upd ρ 3 (nI (9 - m)) := by rw [sk_u, sk_r_eq, hg, upd_upd]
    have eg59 : sk_u g 55 3 (nI (9 - m)) 59 = h 59 := (ho.u (by decide)) 59 (by decide)
    have eg60 : sk_u g 55 3 (nI (9 - m)) 60 = h 60 := (ho.u (by decide)) 60 (by decide)
    have ec : ceV (sk_u g 55 3 (nI (9 - m))) s = ceV h s := by funext q; show sk_u g 55 3 (nI (9 - m)) 60 _ = h 60 _; rw [eg60]
    refine sk_S.aload_n (i := 0) (dd DX8_fits 39 rfl) rfl rfl ?_
    refine sk_S.iload_n (i := 1) (dd DX8_fits 40 rfl) rfl rfl ?_
    refine sk_S.callV (dd DX8_fits 41 rfl) rfl kX8_203 (cM_rightOf hs4 e55 (boI_cg (upd_ne (by decide)) hb) (lawI_cg (fun k hk => upd_ne (by omega)) hI) (by rw [eg59]; exact hl) hl24) se_54 (by decide) rfl rfl rfl rfl (Nat.le_of_ble_eq_true rfl) (fun r71 h71 q71 => ?_)
    obtain ⟨o2, rfl⟩ := q71
    rw [ec, rgN_w]
    have e59 : h71 59 = h 59 := (o2 59 (by decide)).trans eg59
    show sk_S _ _ _ _ _ _ (.int _ :: _) _ _
    refine sk_S.aload_n (i := 0) (dd DX8_fits 42 rfl) rfl rfl ?_
    refine sk_S.getr (dd DX8_fits 43 rfl) rfl fX8_22 se_54 (by decide) rfl ?_
    refine sk_S.iload_n (i := 1) (dd DX8_fits 44 rfl) rfl rfl ?_
    refine sk_S.iald (dd DX8_fits 45 rfl) se_59 (sk_ix_nI (k := s) rfl (by omega) (by decide)) ?_
    refine sk_S.icmp_ne (tgt := 87) (dd DX8_fits 46 rfl) (by decide) (fun c80 => ?_) (fun c80 => ?_)
    · refine sk_S.iconst (v := 0) (dd DX8_fits 49 rfl) (by decide) ?_
      refine sk_S.istore (i := 7) (dd DX8_fits 50 rfl) (Nat.le_of_ble_eq_true rfl) rfl ?_
      refine sk_S.iload (i := 4) (dd DX8_fits 51 rfl) rfl ?_
      refine sk_S.iload (i := 7) (dd DX8_fits 52 rfl) rfl ?_
      refine sk_S.if_eq (tgt := 104) (dd DX8_fits 53 rfl) (by decide) (fun c94 => ?_) (fun c94 => absurd rfl c94)
      refine sk_S.iconst (v := 0) (dd DX8_fits 58 rfl) (by decide) ?_
      refine sk_S.ior (dd DX8_fits 59 rfl) ?_
      refine sk_S.istore (i := 4) (dd DX8_fits 60 rfl) (Nat.le_of_ble_eq_true rfl) rfl ?_
      refine sk_S.iload (i := 7) (dd DX8_fits 61 rfl) rfl ?_
      refine sk_S.if_eq (tgt := 118) (dd DX8_fits 62 rfl) (by decide) (fun c110 => ?_) (fun c110 => absurd rfl c110)
      refine sk_S.iload (i := 5) (dd DX8_fits 65 rfl) rfl ?_
      refine sk_S.istore (i := 5) (dd DX8_fits 66 rfl) (Nat.le_of_ble_eq_true rfl) rfl ?_
      refine sk_S.iinc (i := 6) (v := _ - 1) (dd DX8_fits 67 rfl) rfl iinc_m1 rfl ?_
      refine sk_S.goto (tgt := 56) (dd DX8_fits 68 rfl) (by decide) ?_
      have eP : (fsP ρ (ceV h s) len) (9 - m) = false := by
        unfold fsP
        apply decide_eq_false
        intro q
        apply c80
        rw [e59, hl, q]
      have e1 : setT (fsP ρ (ceV h s) len) (m + 1) = setT (fsP ρ (ceV h s) len) m ||| 0 := by
        show setT (fsP ρ (ceV h s) len) m ||| (if _ then _ else _) = _
        rw [eP]; rfl
      have e2 : lstT (fsP ρ (ceV h s) len) (m + 1) = lstT (fsP ρ (ceV h s) len) m := by
        show (if _ then _ else _) = _
        rw [eP]; rfl
      refine sk_S.L (lp_fits hs4 hρ hb hI hl hl24 k (m + 1) _ (nI (9 - m)) (some (.int 0)) (by omega) ((ho.u (by decide)).tr (o2.more (by decide))) ((o2 55 (by decide)).trans e55)) ?_
      rw [e1, e2, show 10 - (m + 1) = 9 - m from by omega]
      rfl
    · refine sk_S.iconst (v := 1) (dd DX8_fits 47 rfl) (by decide) ?_
      refine sk_S.goto (tgt := 88) (dd DX8_fits 48 rfl) (by decide) ?_
      refine sk_S.istore (i := 7) (dd DX8_fits 50 rfl) (Nat.le_of_ble_eq_true rfl) rfl ?_
      refine sk_S.iload (i := 4) (dd DX8_fits 51 rfl) rfl ?_
      refine sk_S.iload (i := 7) (dd DX8_fits 52 rfl) rfl ?_
      refine sk_S.if_eq (tgt := 104) (dd DX8_fits 53 rfl) (by decide) (fun c94 => absurd c94 (by decide)) (fun c94 => ?_)
      refine sk_S.iconst (v := 1) (dd DX8_fits 54 rfl) (by decide) ?_
      refine sk_S.iload (i := 6) (dd DX8_fits 55 rfl) rfl ?_
      refine sk_S.ishl (dd DX8_fits 56 rfl) ?_
      refine sk_S.goto (tgt := 105) (dd DX8_fits 57 rfl) (by decide) ?_
      refine sk_S.ior (dd DX8_fits 59 rfl) ?_
      refine sk_S.istore (i := 4) (dd DX8_fits 60 rfl) (Nat.le_of_ble_eq_true rfl) rfl ?_
      refine sk_S.iload (i := 7) (dd DX8_fits 61 rfl) rfl ?_
      refine sk_S.if_eq (tgt := 118) (dd DX8_fits 62 rfl) (by decide) (fun c110 => absurd c110 (by decide)) (fun c110 => ?_)
      refine sk_S.iload (i := 6) (dd DX8_fits 63 rfl) rfl ?_
      refine sk_S.goto (tgt := 120) (dd DX8_fits 64 rfl) (by decide) ?_
      refine sk_S.istore (i := 5) (dd DX8_fits 66 rfl) (Nat.le_of_ble_eq_true rfl) rfl ?_
      refine sk_S.iinc (i := 6) (v := _ - 1) (dd DX8_fits 67 rfl) rfl iinc_m1 rfl ?_
      refine sk_S.goto (tgt := 56) (dd DX8_fits 68 rfl) (by decide) ?_
      have eP : (fsP ρ (ceV h s) len) (9 - m) = true := by
        unfold fsP
        apply decide_eq_true
        rw [e59, hl] at c80
        exact nI_inj (by have := rgN_le ρ (ceV h s) len (nI (9 - m)); omega) (by omega) c80
      have e1 : setT (fsP ρ (ceV h s) len) (m + 1) = setT (fsP ρ (ceV h s) len) m ||| 1 <<< (nI (9 - m) &&& 31) := by
        show setT (fsP ρ (ceV h s) len) m ||| (if _ then _ else _) = _
        rw [eP]; rfl
      have e2 : lstT (fsP ρ (ceV h s) len) (m + 1) = nI (9 - m) := by
        show (if _ then _ else _) = _
        rw [eP]; rfl
      refine sk_S.L (lp_fits hs4 hρ hb hI hl hl24 k (m + 1) _ (nI (9 - m)) (some (.int 1)) (by omega) ((ho.u (by decide)).tr (o2.more (by decide))) ((o2 55 (by decide)).trans e55)) ?_
      rw [e1, e2, show 10 - (m + 1) = 9 - m from by omega]
      rfl
set_option maxRecDepth 100000 in
set_option maxHeartbeats 4000000 in
theorem cM_fits {l : Launch} {E : sk_V} {d : Nat} {h : sk_M} {s w : Int32} (hb : boI (h 55)) (hI : lawI (h 55) 0) (hS : shI h) : sk_K l E (d + 7) MX8_fits [.ref 54, .int s, .int w] h (fun r h1 => (¬ (inN s 4 ∧ inN w 2) ∧ erM h 1 h1 r) ∨ (∃ j, j < 4 ∧ s = nI j ∧ inN w 2 ∧ ((h 58 j = 0 ∧ erM h 2 h1 r) ∨ (¬ h 58 j = 0 ∧ ((w = 0 ∧ sk_o [63, 64] h h1 ∧ some (.int (setT (fsP (h 55) (ceV h j) (shN h j)) 10)) = r) ∨ (¬ w = 0 ∧ ¬ 0 ≤ lstT (fsP (h 55) (ceV h j) (shN h j)) 10 ∧ erT h 2 h1 r) ∨ (¬ w = 0 ∧ 0 ≤ lstT (fsP (h 55) (ceV h j) (shN h j)) 10 ∧ sk_o [63, 64] h h1 ∧ some (.int (lstT (fsP (h 55) (ceV h j) (shN h j)) 10)) = r)))))) := by
  refine sk_K.of (by decide +kernel) (Nat.le_of_ble_eq_true rfl) ?_
  show sk_S l E (d + 7) _ 0 [some (.ref 54), some (.int s), some (.int w), none, none, none, none, none] [] h _
  refine sk_S.iload_n (i := 1) (dd DX8_fits 0 rfl) rfl rfl ?_
  refine sk_S.callS (dd DX8_fits 1 rfl) rfl kX8_200 cM_isSheet rfl rfl rfl (Nat.le_of_ble_eq_true rfl) (fun r1 h1 q1 => ?_)
  obtain ⟨rfl, rfl⟩ := q1
  show sk_S _ _ _ _ _ _ (.int _ :: _) _ _
  refine sk_S.bif_eq (tgt := 16) (dd DX8_fits 2 rfl) (by decide) (fun c4 => ?_) (fun c4 => ?_)
  · refine sk_S.aload_n (i := 0) (dd DX8_fits 8 rfl) rfl rfl ?_
    refine sk_S.ldc (dd DX8_fits 9 rfl) rfl cnX8_73 ?_
    refine sk_S.callV (dd DX8_fits 10 rfl) rfl kX8_74 (cM_error (k := 1) ⟨by decide, by decide, by decide⟩) se_54 (by decide) rfl rfl rfl rfl (Nat.le_of_ble_eq_true rfl) (fun r19 h19 q19 => ?_)
    obtain ⟨rfl, rfl⟩ := q19
    show sk_S _ _ _ _ _ _ (.int _ :: _) _ _
    refine sk_S.iret (dd DX8_fits 11 rfl) rfl rfl ?_
    exact Or.inl ⟨fun q => c4 ((inN_le (by decide)).mpr q.1), rfl, rfl⟩
  · refine sk_S.iload_n (i := 2) (dd DX8_fits 3 rfl) rfl rfl ?_
    refine sk_S.iconst (v := 0) (dd DX8_fits 4 rfl) (by decide) ?_
    refine sk_S.iconst (v := 1) (dd DX8_fits 5 rfl) (by decide) ?_
    refine sk_S.callS (dd DX8_fits 6 rfl) rfl kX8_47 cM_in rfl rfl rfl (Nat.le_of_ble_eq_true rfl) (fun r10 h10 q10 => ?_)
    obtain ⟨rfl, rfl⟩ := q10
    show sk_S _ _ _ _ _ _ (.int _ :: _) _ _
    refine sk_S.bif_ne (tgt := 23) (dd DX8_fits 7 rfl) (by decide) (fun c13 => ?_) (fun c13 => ?_)
    · obtain ⟨j, hj, rfl⟩ := (inN_le (n := 4) (by decide)).mp c4
      refine sk_S.aload_n (i := 0) (dd DX8_fits 12 rfl) rfl rfl ?_
      refine sk_S.getr (dd DX8_fits 13 rfl) rfl fX8_19 se_54 (by decide) rfl ?_
      refine sk_S.iload_n (i := 1) (dd DX8_fits 14 rfl) rfl rfl ?_
      refine sk_S.iald (dd DX8_fits 15 rfl) se_58 (sk_ix_nI (k := j) rfl (by omega) (by decide)) ?_
      refine sk_S.if_ne (tgt := 39) (dd DX8_fits 16 rfl) (by decide) (fun c29 => ?_) (fun c29 => ?_)
      · obtain ⟨hl, hl24⟩ := hS j hj
        refine sk_S.aload_n (i := 0) (dd DX8_fits 21 rfl) rfl rfl ?_
        refine sk_S.getr (dd DX8_fits 22 rfl) rfl fX8_9 se_54 (by decide) rfl ?_
        refine sk_S.iconst (v := 3) (dd DX8_fits 23 rfl) (by decide) ?_
        refine sk_S.iald (dd DX8_fits 24 rfl) se_55 (j := 3) ⟨by decide, by decide, by decide⟩ ?_
        refine sk_S.istore_n (i := 3) (dd DX8_fits 25 rfl) rfl (Nat.le_of_ble_eq_true rfl) rfl ?_
        refine sk_S.iconst (v := 0) (dd DX8_fits 26 rfl) (by decide) ?_
        refine sk_S.istore (i := 4) (dd DX8_fits 27 rfl) (Nat.le_of_ble_eq_true rfl) rfl ?_
        refine sk_S.iconst (v := -1) (dd DX8_fits 28 rfl) (by decide) ?_
        refine sk_S.istore (i := 5) (dd DX8_fits 29 rfl) (Nat.le_of_ble_eq_true rfl) rfl ?_
        refine sk_S.bipush (v := 9) (dd DX8_fits 30 rfl) (by decide) ?_
        refine sk_S.istore (i := 6) (dd DX8_fits 31 rfl) (Nat.le_of_ble_eq_true rfl) rfl ?_
        refine sk_S.mono (lp_fits hj rfl hb hI hl hl24 10 0 h (h 55 3) none rfl sk_o.rf upd_self.symm) ?_
        intro r h1 q
        exact Or.inr ⟨j, hj, rfl, (inN_le (by decide)).mp c13, Or.inr ⟨c29, q⟩⟩
      · refine sk_S.aload_n (i := 0) (dd DX8_fits 17 rfl) rfl rfl ?_
        refine sk_S.ldc (dd DX8_fits 18 rfl) rfl cnX8_190 ?_
        refine sk_S.callV (dd DX8_fits 19 rfl) rfl kX8_74 (cM_error (k := 2) ⟨by decide, by decide, by decide⟩) se_54 (by decide) rfl rfl rfl rfl (Nat.le_of_ble_eq_true rfl) (fun r35 h35 q35 => ?_)
        obtain ⟨rfl, rfl⟩ := q35
        show sk_S _ _ _ _ _ _ (.int _ :: _) _ _
        refine sk_S.iret (dd DX8_fits 20 rfl) rfl rfl ?_
        exact Or.inr ⟨j, hj, rfl, (inN_le (by decide)).mp c13, Or.inl ⟨c29, rfl, rfl⟩⟩
    · refine sk_S.aload_n (i := 0) (dd DX8_fits 8 rfl) rfl rfl ?_
      refine sk_S.ldc (dd DX8_fits 9 rfl) rfl cnX8_73 ?_
      refine sk_S.callV (dd DX8_fits 10 rfl) rfl kX8_74 (cM_error (k := 1) ⟨by decide, by decide, by decide⟩) se_54 (by decide) rfl rfl rfl rfl (Nat.le_of_ble_eq_true rfl) (fun r19 h19 q19 => ?_)
      obtain ⟨rfl, rfl⟩ := q19
      show sk_S _ _ _ _ _ _ (.int _ :: _) _ _
      refine sk_S.iret (dd DX8_fits 11 rfl) rfl rfl ?_
      exact Or.inl ⟨fun q => c13 ((inN_le (by decide)).mpr q.2), rfl, rfl⟩
set_option maxRecDepth 100000 in
set_option maxHeartbeats 4000000 in
theorem lp_sheet {l : Launch} {E : sk_V} {d : Nat} {h : sk_M} {j : Nat} {b n : Int32} (hj : j < 4) : ∀ (m i : Nat) (g : sk_M), i + m = 24 → sk_o [60] h g → g 60 = clrN (h 60) (24 * j) i → sk_S l E (d + 1) MX8_sheet 93 [some (.ref 54), some (.int (nI j)), some (.int b), some (.int n), some (.int (nI i))] [] g (fun r h1 => sk_o [60] h h1 ∧ h1 60 = clrN (h 60) (24 * j) 24 ∧ some (.int 1) = r)
  | 0, i, g, hi, ho, hg => by
    have hi4 : i = 24 := by omega
    subst hi4
    refine sk_S.iload (i := 4) (dd DX8_sheet 51 rfl) rfl ?_
    refine sk_S.bipush (v := 24) (dd DX8_sheet 52 rfl) (by decide) ?_
    refine sk_S.icmp_ge (tgt := 119) (dd DX8_sheet 53 rfl) (by decide) (fun c97 => ?_) (fun c97 => absurd (by decide) c97)
    refine sk_S.iconst (v := 1) (dd DX8_sheet 65 rfl) (by decide) ?_
    refine sk_S.iret (dd DX8_sheet 66 rfl) rfl rfl ?_
    exact ⟨ho, hg, rfl⟩
  | m + 1, i, g, hi, ho, hg => by
    refine sk_S.iload (i := 4) (dd DX8_sheet 51 rfl) rfl ?_
    refine sk_S.bipush (v := 24) (dd DX8_sheet 52 rfl) (by decide) ?_
    refine sk_S.icmp_ge (tgt := 119) (dd DX8_sheet 53 rfl) (by decide) (fun c97 => absurd c97 (nI_ge (b := 24) (by omega) (by decide))) (fun c97 => ?_)
    refine sk_S.aload_n (i := 0) (dd DX8_sheet 54 rfl) rfl rfl ?_
    refine sk_S.getr (dd DX8_sheet 55 rfl) rfl fX8_25 se_54 (by decide) rfl ?_
    refine sk_S.bipush (v := 24) (dd DX8_sheet 56 rfl) (by decide) ?_
    refine sk_S.iload_n (i := 1) (dd DX8_sheet 57 rfl) rfl rfl ?_
    refine sk_S.imul (dd DX8_sheet 58 rfl) ?_
    refine sk_S.iload (i := 4) (dd DX8_sheet 59 rfl) rfl ?_
    refine sk_S.iadd (dd DX8_sheet 60 rfl) ?_
    refine sk_S.iconst (v := 0) (dd DX8_sheet 61 rfl) (by decide) ?_
    refine sk_S.iast (dd DX8_sheet 62 rfl) se_60 (sk_ix_e (k := 24 * j + i) (ix_24 j i) (by omega) (by decide)) ?_
    refine sk_S.iinc (i := 4) (v := _ + 1) (dd DX8_sheet 63 rfl) rfl rfl rfl ?_
    refine sk_S.goto (tgt := 93) (dd DX8_sheet 64 rfl) (by decide) ?_
    exact sk_S.L (lp_sheet hj m (i + 1) _ (by omega) (ho.u (by decide)) (by rw [sk_u, sk_r_eq, hg, clrN_s])) (by rw [nI_succ]; rfl)
set_option maxRecDepth 100000 in
set_option maxHeartbeats 4000000 in
theorem cM_sheet {l : Launch} {E : sk_V} {d : Nat} {h : sk_M} {s b n : Int32}  : sk_K l E (d + 2) MX8_sheet [.ref 54, .int s, .int b, .int n] h (fun r h1 => (¬ (inN s 4 ∧ okB b) ∧ erM h 1 h1 r) ∨ (∃ j, j < 4 ∧ s = nI j ∧ okB b ∧ ((¬ b = 0 ∧ n < 0 ∧ erM h 3 h1 r) ∨ (¬ b = 0 ∧ ¬ n < 0 ∧ 24 < n ∧ erM h 1 h1 r) ∨ ((b = 0 ∨ inN n 25) ∧ sk_o [58, 59, 60] h h1 ∧ h1 58 = upd (h 58) j b ∧ h1 59 = upd (h 59) j (if b = 0 then 0 else n) ∧ h1 60 = clrN (h 60) (24 * j) 24 ∧ some (.int 1) = r)))) := by
  refine sk_K.of (by decide +kernel) (Nat.le_of_ble_eq_true rfl) ?_
  show sk_S l E (d + 2) _ 0 [some (.ref 54), some (.int s), some (.int b), some (.int n), none] [] h _
  refine sk_S.iload_n (i := 1) (dd DX8_sheet 0 rfl) rfl rfl ?_
  refine sk_S.callS (dd DX8_sheet 1 rfl) rfl kX8_200 cM_isSheet rfl rfl rfl (Nat.le_of_ble_eq_true rfl) (fun r1 h1 q1 => ?_)
  obtain ⟨rfl, rfl⟩ := q1
  show sk_S _ _ _ _ _ _ (.int _ :: _) _ _
  refine sk_S.bif_eq (tgt := 29) (dd DX8_sheet 2 rfl) (by decide) (fun c4 => ?_) (fun c4 => ?_)
  · refine sk_S.aload_n (i := 0) (dd DX8_sheet 14 rfl) rfl rfl ?_
    refine sk_S.ldc (dd DX8_sheet 15 rfl) rfl cnX8_73 ?_
    refine sk_S.callV (dd DX8_sheet 16 rfl) rfl kX8_74 (cM_error (k := 1) ⟨by decide, by decide, by decide⟩) se_54 (by decide) rfl rfl rfl rfl (Nat.le_of_ble_eq_true rfl) (fun r32 h32 q32 => ?_)
    obtain ⟨rfl, rfl⟩ := q32
    show sk_S _ _ _ _ _ _ (.int _ :: _) _ _
    refine sk_S.iret (dd DX8_sheet 17 rfl) rfl rfl ?_
    refine Or.inl ⟨?_, rfl, rfl⟩
    rintro ⟨q, q2⟩
    exact c4 ((inN_le (by decide)).mpr q)
  · refine sk_S.iload_n (i := 2) (dd DX8_sheet 3 rfl) rfl rfl ?_
    refine sk_S.if_eq (tgt := 36) (dd DX8_sheet 4 rfl) (by decide) (fun c8 => ?_) (fun c8 => ?_)
    · obtain ⟨j, hj, rfl⟩ := (inN_le (n := 4) (by decide)).mp c4
      refine sk_S.iload_n (i := 2) (dd DX8_sheet 18 rfl) rfl rfl ?_
      refine sk_S.if_le (tgt := 51) (dd DX8_sheet 19 rfl) (by decide) (fun c37 => ?_) (fun c37 => absurd (by rw [c8]; decide) c37)
      refine sk_S.iload_n (i := 2) (dd DX8_sheet 26 rfl) rfl rfl ?_
      refine sk_S.if_le (tgt := 68) (dd DX8_sheet 27 rfl) (by decide) (fun c52 => ?_) (fun c52 => absurd (by rw [c8]; decide) c52)
      refine sk_S.aload_n (i := 0) (dd DX8_sheet 35 rfl) rfl rfl ?_
      refine sk_S.getr (dd DX8_sheet 36 rfl) rfl fX8_19 se_54 (by decide) rfl ?_
      refine sk_S.iload_n (i := 1) (dd DX8_sheet 37 rfl) rfl rfl ?_
      refine sk_S.iload_n (i := 2) (dd DX8_sheet 38 rfl) rfl rfl ?_
      refine sk_S.iast (dd DX8_sheet 39 rfl) se_58 (sk_ix_nI (k := j) rfl (by omega) (by decide)) ?_
      refine sk_S.aload_n (i := 0) (dd DX8_sheet 40 rfl) rfl rfl ?_
      refine sk_S.getr (dd DX8_sheet 41 rfl) rfl fX8_22 se_54 (by decide) rfl ?_
      refine sk_S.iload_n (i := 1) (dd DX8_sheet 42 rfl) rfl rfl ?_
      refine sk_S.iload_n (i := 2) (dd DX8_sheet 43 rfl) rfl rfl ?_
      refine sk_S.if_ne (tgt := 88) (dd DX8_sheet 44 rfl) (by decide) (fun c81 => absurd c8 c81) (fun c81 => ?_)
      refine sk_S.iconst (v := 0) (dd DX8_sheet 45 rfl) (by decide) ?_
      refine sk_S.goto (tgt := 89) (dd DX8_sheet 46 rfl) (by decide) ?_
      refine sk_S.iast (dd DX8_sheet 48 rfl) se_59 (sk_ix_nI (k := j) rfl (by omega) (by decide)) ?_
      refine sk_S.iconst (v := 0) (dd DX8_sheet 49 rfl) (by decide) ?_
      refine sk_S.istore (i := 4) (dd DX8_sheet 50 rfl) (Nat.le_of_ble_eq_true rfl) rfl ?_
      refine sk_S.mono (lp_sheet hj 24 0 _ rfl sk_o.rf clrN_0.symm) ?_
      rintro r h1 ⟨q1, q2, q3⟩
      refine Or.inr ⟨j, hj, rfl, Or.inl c8, Or.inr (Or.inr ⟨Or.inl c8, (((sk_o.rf (h := h)).u (by decide)).u (by decide)).tr (q1.more (by decide)), ?_, ?_, ?_, q3⟩)⟩
      · rw [q1 58 (by decide)]; rfl
      · rw [q1 59 (by decide), if_pos c8]; rfl
      · rw [q2]; rfl
    · refine sk_S.iload_n (i := 2) (dd DX8_sheet 5 rfl) rfl rfl ?_
      refine sk_S.bipush (v := 8) (dd DX8_sheet 6 rfl) (by decide) ?_
      refine sk_S.icmp_eq (tgt := 36) (dd DX8_sheet 7 rfl) (by decide) (fun c14 => ?_) (fun c14 => ?_)
      · obtain ⟨j, hj, rfl⟩ := (inN_le (n := 4) (by decide)).mp c4
        refine sk_S.iload_n (i := 2) (dd DX8_sheet 18 rfl) rfl rfl ?_
        refine sk_S.if_le (tgt := 51) (dd DX8_sheet 19 rfl) (by decide) (fun c37 => absurd c37 (by rw [c14]; decide)) (fun c37 => ?_)
        refine sk_S.iload_n (i := 3) (dd DX8_sheet 20 rfl) rfl rfl ?_
        refine sk_S.if_ge (tgt := 51) (dd DX8_sheet 21 rfl) (by decide) (fun c41 => ?_) (fun c41 => ?_)
        · refine sk_S.iload_n (i := 2) (dd DX8_sheet 26 rfl) rfl rfl ?_
          refine sk_S.if_le (tgt := 68) (dd DX8_sheet 27 rfl) (by decide) (fun c52 => absurd c52 (by rw [c14]; decide)) (fun c52 => ?_)
          refine sk_S.iload_n (i := 3) (dd DX8_sheet 28 rfl) rfl rfl ?_
          refine sk_S.bipush (v := 24) (dd DX8_sheet 29 rfl) (by decide) ?_
          refine sk_S.icmp_le (tgt := 68) (dd DX8_sheet 30 rfl) (by decide) (fun c58 => ?_) (fun c58 => ?_)
          · refine sk_S.aload_n (i := 0) (dd DX8_sheet 35 rfl) rfl rfl ?_
            refine sk_S.getr (dd DX8_sheet 36 rfl) rfl fX8_19 se_54 (by decide) rfl ?_
            refine sk_S.iload_n (i := 1) (dd DX8_sheet 37 rfl) rfl rfl ?_
            refine sk_S.iload_n (i := 2) (dd DX8_sheet 38 rfl) rfl rfl ?_
            refine sk_S.iast (dd DX8_sheet 39 rfl) se_58 (sk_ix_nI (k := j) rfl (by omega) (by decide)) ?_
            refine sk_S.aload_n (i := 0) (dd DX8_sheet 40 rfl) rfl rfl ?_
            refine sk_S.getr (dd DX8_sheet 41 rfl) rfl fX8_22 se_54 (by decide) rfl ?_
            refine sk_S.iload_n (i := 1) (dd DX8_sheet 42 rfl) rfl rfl ?_
            refine sk_S.iload_n (i := 2) (dd DX8_sheet 43 rfl) rfl rfl ?_
            refine sk_S.if_ne (tgt := 88) (dd DX8_sheet 44 rfl) (by decide) (fun c81 => ?_) (fun c81 => absurd c81 (by rw [c14]; decide))
            refine sk_S.iload_n (i := 3) (dd DX8_sheet 47 rfl) rfl rfl ?_
            refine sk_S.iast (dd DX8_sheet 48 rfl) se_59 (sk_ix_nI (k := j) rfl (by omega) (by decide)) ?_
            refine sk_S.iconst (v := 0) (dd DX8_sheet 49 rfl) (by decide) ?_
            refine sk_S.istore (i := 4) (dd DX8_sheet 50 rfl) (Nat.le_of_ble_eq_true rfl) rfl ?_
            refine sk_S.mono (lp_sheet hj 24 0 _ rfl sk_o.rf clrN_0.symm) ?_
            rintro r h1 ⟨q1, q2, q3⟩
            refine Or.inr ⟨j, hj, rfl, Or.inr (Or.inl c14), Or.inr (Or.inr ⟨Or.inr ((inN_le (M := 24) (by decide)).mp ⟨Int32.not_lt.mp (fun q => absurd c41 (Int32.not_le.mpr q)), c58⟩), (((sk_o.rf (h := h)).u (by decide)).u (by decide)).tr (q1.more (by decide)), ?_, ?_, ?_, q3⟩)⟩
            · rw [q1 58 (by decide)]; rfl
            · rw [q1 59 (by decide), if_neg (by rw [c14]; decide)]; rfl
            · rw [q2]; rfl
          · refine sk_S.aload_n (i := 0) (dd DX8_sheet 31 rfl) rfl rfl ?_
            refine sk_S.ldc (dd DX8_sheet 32 rfl) rfl cnX8_73 ?_
            refine sk_S.callV (dd DX8_sheet 33 rfl) rfl kX8_74 (cM_error (k := 1) ⟨by decide, by decide, by decide⟩) se_54 (by decide) rfl rfl rfl rfl (Nat.le_of_ble_eq_true rfl) (fun r64 h64 q64 => ?_)
            obtain ⟨rfl, rfl⟩ := q64
            show sk_S _ _ _ _ _ _ (.int _ :: _) _ _
            refine sk_S.iret (dd DX8_sheet 34 rfl) rfl rfl ?_
            exact Or.inr ⟨j, hj, rfl, Or.inr (Or.inl c14), Or.inr (Or.inl ⟨by rw [c14]; decide, Int32.not_lt.mpr c41, Int32.not_le.mp c58, rfl, rfl⟩)⟩
        · refine sk_S.aload_n (i := 0) (dd DX8_sheet 22 rfl) rfl rfl ?_
          refine sk_S.ldc (dd DX8_sheet 23 rfl) rfl cnX8_100 ?_
          refine sk_S.callV (dd DX8_sheet 24 rfl) rfl kX8_74 (cM_error (k := 3) ⟨by decide, by decide, by decide⟩) se_54 (by decide) rfl rfl rfl rfl (Nat.le_of_ble_eq_true rfl) (fun r47 h47 q47 => ?_)
          obtain ⟨rfl, rfl⟩ := q47
          show sk_S _ _ _ _ _ _ (.int _ :: _) _ _
          refine sk_S.iret (dd DX8_sheet 25 rfl) rfl rfl ?_
          exact Or.inr ⟨j, hj, rfl, Or.inr (Or.inl c14), Or.inl ⟨by rw [c14]; decide, Int32.not_le.mp c41, rfl, rfl⟩⟩
      · refine sk_S.iload_n (i := 2) (dd DX8_sheet 8 rfl) rfl rfl ?_
        refine sk_S.bipush (v := 16) (dd DX8_sheet 9 rfl) (by decide) ?_
        refine sk_S.icmp_eq (tgt := 36) (dd DX8_sheet 10 rfl) (by decide) (fun c20 => ?_) (fun c20 => ?_)
        · obtain ⟨j, hj, rfl⟩ := (inN_le (n := 4) (by decide)).mp c4
          refine sk_S.iload_n (i := 2) (dd DX8_sheet 18 rfl) rfl rfl ?_
          refine sk_S.if_le (tgt := 51) (dd DX8_sheet 19 rfl) (by decide) (fun c37 => absurd c37 (by rw [c20]; decide)) (fun c37 => ?_)
          refine sk_S.iload_n (i := 3) (dd DX8_sheet 20 rfl) rfl rfl ?_
          refine sk_S.if_ge (tgt := 51) (dd DX8_sheet 21 rfl) (by decide) (fun c41 => ?_) (fun c41 => ?_)
          · refine sk_S.iload_n (i := 2) (dd DX8_sheet 26 rfl) rfl rfl ?_
            refine sk_S.if_le (tgt := 68) (dd DX8_sheet 27 rfl) (by decide) (fun c52 => absurd c52 (by rw [c20]; decide)) (fun c52 => ?_)
            refine sk_S.iload_n (i := 3) (dd DX8_sheet 28 rfl) rfl rfl ?_
            refine sk_S.bipush (v := 24) (dd DX8_sheet 29 rfl) (by decide) ?_
            refine sk_S.icmp_le (tgt := 68) (dd DX8_sheet 30 rfl) (by decide) (fun c58 => ?_) (fun c58 => ?_)
            · refine sk_S.aload_n (i := 0) (dd DX8_sheet 35 rfl) rfl rfl ?_
              refine sk_S.getr (dd DX8_sheet 36 rfl) rfl fX8_19 se_54 (by decide) rfl ?_
              refine sk_S.iload_n (i := 1) (dd DX8_sheet 37 rfl) rfl rfl ?_
              refine sk_S.iload_n (i := 2) (dd DX8_sheet 38 rfl) rfl rfl ?_
              refine sk_S.iast (dd DX8_sheet 39 rfl) se_58 (sk_ix_nI (k := j) rfl (by omega) (by decide)) ?_
              refine sk_S.aload_n (i := 0) (dd DX8_sheet 40 rfl) rfl rfl ?_
              refine sk_S.getr (dd DX8_sheet 41 rfl) rfl fX8_22 se_54 (by decide) rfl ?_
              refine sk_S.iload_n (i := 1) (dd DX8_sheet 42 rfl) rfl rfl ?_
              refine sk_S.iload_n (i := 2) (dd DX8_sheet 43 rfl) rfl rfl ?_
              refine sk_S.if_ne (tgt := 88) (dd DX8_sheet 44 rfl) (by decide) (fun c81 => ?_) (fun c81 => absurd c81 (by rw [c20]; decide))
              refine sk_S.iload_n (i := 3) (dd DX8_sheet 47 rfl) rfl rfl ?_
              refine sk_S.iast (dd DX8_sheet 48 rfl) se_59 (sk_ix_nI (k := j) rfl (by omega) (by decide)) ?_
              refine sk_S.iconst (v := 0) (dd DX8_sheet 49 rfl) (by decide) ?_
              refine sk_S.istore (i := 4) (dd DX8_sheet 50 rfl) (Nat.le_of_ble_eq_true rfl) rfl ?_
              refine sk_S.mono (lp_sheet hj 24 0 _ rfl sk_o.rf clrN_0.symm) ?_
              rintro r h1 ⟨q1, q2, q3⟩
              refine Or.inr ⟨j, hj, rfl, Or.inr (Or.inr (Or.inl c20)), Or.inr (Or.inr ⟨Or.inr ((inN_le (M := 24) (by decide)).mp ⟨Int32.not_lt.mp (fun q => absurd c41 (Int32.not_le.mpr q)), c58⟩), (((sk_o.rf (h := h)).u (by decide)).u (by decide)).tr (q1.more (by decide)), ?_, ?_, ?_, q3⟩)⟩
              · rw [q1 58 (by decide)]; rfl
              · rw [q1 59 (by decide), if_neg (by rw [c20]; decide)]; rfl
              · rw [q2]; rfl
            · refine sk_S.aload_n (i := 0) (dd DX8_sheet 31 rfl) rfl rfl ?_
              refine sk_S.ldc (dd DX8_sheet 32 rfl) rfl cnX8_73 ?_
              refine sk_S.callV (dd DX8_sheet 33 rfl) rfl kX8_74 (cM_error (k := 1) ⟨by decide, by decide, by decide⟩) se_54 (by decide) rfl rfl rfl rfl (Nat.le_of_ble_eq_true rfl) (fun r64 h64 q64 => ?_)
              obtain ⟨rfl, rfl⟩ := q64
              show sk_S _ _ _ _ _ _ (.int _ :: _) _ _
              refine sk_S.iret (dd DX8_sheet 34 rfl) rfl rfl ?_
              exact Or.inr ⟨j, hj, rfl, Or.inr (Or.inr (Or.inl c20)), Or.inr (Or.inl ⟨by rw [c20]; decide, Int32.not_lt.mpr c41, Int32.not_le.mp c58, rfl, rfl⟩)⟩
          · refine sk_S.aload_n (i := 0) (dd DX8_sheet 22 rfl) rfl rfl ?_
            refine sk_S.ldc (dd DX8_sheet 23 rfl) rfl cnX8_100 ?_
            refine sk_S.callV (dd DX8_sheet 24 rfl) rfl kX8_74 (cM_error (k := 3) ⟨by decide, by decide, by decide⟩) se_54 (by decide) rfl rfl rfl rfl (Nat.le_of_ble_eq_true rfl) (fun r47 h47 q47 => ?_)
            obtain ⟨rfl, rfl⟩ := q47
            show sk_S _ _ _ _ _ _ (.int _ :: _) _ _
            refine sk_S.iret (dd DX8_sheet 25 rfl) rfl rfl ?_
            exact Or.inr ⟨j, hj, rfl, Or.inr (Or.inr (Or.inl c20)), Or.inl ⟨by rw [c20]; decide, Int32.not_le.mp c41, rfl, rfl⟩⟩
        · refine sk_S.iload_n (i := 2) (dd DX8_sheet 11 rfl) rfl rfl ?_
          refine sk_S.bipush (v := 32) (dd DX8_sheet 12 rfl) (by decide) ?_
          refine sk_S.icmp_eq (tgt := 36) (dd DX8_sheet 13 rfl) (by decide) (fun c26 => ?_) (fun c26 => ?_)
          · obtain ⟨j, hj, rfl⟩ := (inN_le (n := 4) (by decide)).mp c4
            refine sk_S.iload_n (i := 2) (dd DX8_sheet 18 rfl) rfl rfl ?_
            refine sk_S.if_le (tgt := 51) (dd DX8_sheet 19 rfl) (by decide) (fun c37 => absurd c37 (by rw [c26]; decide)) (fun c37 => ?_)
            refine sk_S.iload_n (i := 3) (dd DX8_sheet 20 rfl) rfl rfl ?_
            refine sk_S.if_ge (tgt := 51) (dd DX8_sheet 21 rfl) (by decide) (fun c41 => ?_) (fun c41 => ?_)
            · refine sk_S.iload_n (i := 2) (dd DX8_sheet 26 rfl) rfl rfl ?_
              refine sk_S.if_le (tgt := 68) (dd DX8_sheet 27 rfl) (by decide) (fun c52 => absurd c52 (by rw [c26]; decide)) (fun c52 => ?_)
              refine sk_S.iload_n (i := 3) (dd DX8_sheet 28 rfl) rfl rfl ?_
              refine sk_S.bipush (v := 24) (dd DX8_sheet 29 rfl) (by decide) ?_
              refine sk_S.icmp_le (tgt := 68) (dd DX8_sheet 30 rfl) (by decide) (fun c58 => ?_) (fun c58 => ?_)
              · refine sk_S.aload_n (i := 0) (dd DX8_sheet 35 rfl) rfl rfl ?_
                refine sk_S.getr (dd DX8_sheet 36 rfl) rfl fX8_19 se_54 (by decide) rfl ?_
                refine sk_S.iload_n (i := 1) (dd DX8_sheet 37 rfl) rfl rfl ?_
                refine sk_S.iload_n (i := 2) (dd DX8_sheet 38 rfl) rfl rfl ?_
                refine sk_S.iast (dd DX8_sheet 39 rfl) se_58 (sk_ix_nI (k := j) rfl (by omega) (by decide)) ?_
                refine sk_S.aload_n (i := 0) (dd DX8_sheet 40 rfl) rfl rfl ?_
                refine sk_S.getr (dd DX8_sheet 41 rfl) rfl fX8_22 se_54 (by decide) rfl ?_
                refine sk_S.iload_n (i := 1) (dd DX8_sheet 42 rfl) rfl rfl ?_
                refine sk_S.iload_n (i := 2) (dd DX8_sheet 43 rfl) rfl rfl ?_
                refine sk_S.if_ne (tgt := 88) (dd DX8_sheet 44 rfl) (by decide) (fun c81 => ?_) (fun c81 => absurd c81 (by rw [c26]; decide))
                refine sk_S.iload_n (i := 3) (dd DX8_sheet 47 rfl) rfl rfl ?_
                refine sk_S.iast (dd DX8_sheet 48 rfl) se_59 (sk_ix_nI (k := j) rfl (by omega) (by decide)) ?_
                refine sk_S.iconst (v := 0) (dd DX8_sheet 49 rfl) (by decide) ?_
                refine sk_S.istore (i := 4) (dd DX8_sheet 50 rfl) (Nat.le_of_ble_eq_true rfl) rfl ?_
                refine sk_S.mono (lp_sheet hj 24 0 _ rfl sk_o.rf clrN_0.symm) ?_
                rintro r h1 ⟨q1, q2, q3⟩
                refine Or.inr ⟨j, hj, rfl, Or.inr (Or.inr (Or.inr c26)), Or.inr (Or.inr ⟨Or.inr ((inN_le (M := 24) (by decide)).mp ⟨Int32.not_lt.mp (fun q => absurd c41 (Int32.not_le.mpr q)), c58⟩), (((sk_o.rf (h := h)).u (by decide)).u (by decide)).tr (q1.more (by decide)), ?_, ?_, ?_, q3⟩)⟩
                · rw [q1 58 (by decide)]; rfl
                · rw [q1 59 (by decide), if_neg (by rw [c26]; decide)]; rfl
                · rw [q2]; rfl
              · refine sk_S.aload_n (i := 0) (dd DX8_sheet 31 rfl) rfl rfl ?_
                refine sk_S.ldc (dd DX8_sheet 32 rfl) rfl cnX8_73 ?_
                refine sk_S.callV (dd DX8_sheet 33 rfl) rfl kX8_74 (cM_error (k := 1) ⟨by decide, by decide, by decide⟩) se_54 (by decide) rfl rfl rfl rfl (Nat.le_of_ble_eq_true rfl) (fun r64 h64 q64 => ?_)
                obtain ⟨rfl, rfl⟩ := q64
                show sk_S _ _ _ _ _ _ (.int _ :: _) _ _
                refine sk_S.iret (dd DX8_sheet 34 rfl) rfl rfl ?_
                exact Or.inr ⟨j, hj, rfl, Or.inr (Or.inr (Or.inr c26)), Or.inr (Or.inl ⟨by rw [c26]; decide, Int32.not_lt.mpr c41, Int32.not_le.mp c58, rfl, rfl⟩)⟩
            · refine sk_S.aload_n (i := 0) (dd DX8_sheet 22 rfl) rfl rfl ?_
              refine sk_S.ldc (dd DX8_sheet 23 rfl) rfl cnX8_100 ?_
              refine sk_S.callV (dd DX8_sheet 24 rfl) rfl kX8_74 (cM_error (k := 3) ⟨by decide, by decide, by decide⟩) se_54 (by decide) rfl rfl rfl rfl (Nat.le_of_ble_eq_true rfl) (fun r47 h47 q47 => ?_)
              obtain ⟨rfl, rfl⟩ := q47
              show sk_S _ _ _ _ _ _ (.int _ :: _) _ _
              refine sk_S.iret (dd DX8_sheet 25 rfl) rfl rfl ?_
              exact Or.inr ⟨j, hj, rfl, Or.inr (Or.inr (Or.inr c26)), Or.inl ⟨by rw [c26]; decide, Int32.not_le.mp c41, rfl, rfl⟩⟩
          · refine sk_S.aload_n (i := 0) (dd DX8_sheet 14 rfl) rfl rfl ?_
            refine sk_S.ldc (dd DX8_sheet 15 rfl) rfl cnX8_73 ?_
            refine sk_S.callV (dd DX8_sheet 16 rfl) rfl kX8_74 (cM_error (k := 1) ⟨by decide, by decide, by decide⟩) se_54 (by decide) rfl rfl rfl rfl (Nat.le_of_ble_eq_true rfl) (fun r32 h32 q32 => ?_)
            obtain ⟨rfl, rfl⟩ := q32
            show sk_S _ _ _ _ _ _ (.int _ :: _) _ _
            refine sk_S.iret (dd DX8_sheet 17 rfl) rfl rfl ?_
            refine Or.inl ⟨?_, rfl, rfl⟩
            rintro ⟨q, q2⟩
            rcases q2 with q2 | q2 | q2 | q2
            · exact c8 q2
            · exact c14 q2
            · exact c20 q2
            · exact c26 q2
set_option maxRecDepth 100000 in
set_option maxHeartbeats 4000000 in
theorem cM_notMoved {l : Launch} {E : sk_V} {d : Nat} {h : sk_M} {s i t j n : Int32} (hS : shI h) : sk_K l E (d + 2) MX8_notMoved [.ref 54, .int s, .int i, .int t, .int j, .int n] h (fun r h1 => h = h1 ∧ some (.int (wI (mvK h s i t j n))) = r) := by
  refine sk_K.of (by decide +kernel) (Nat.le_of_ble_eq_true rfl) ?_
  show sk_S l E (d + 2) _ 0 [some (.ref 54), some (.int s), some (.int i), some (.int t), some (.int j), some (.int n), none] [] h _
  refine sk_S.iload_n (i := 1) (dd DX8_notMoved 0 rfl) rfl rfl ?_
  refine sk_S.callS (dd DX8_notMoved 1 rfl) rfl kX8_200 cM_isSheet rfl rfl rfl (Nat.le_of_ble_eq_true rfl) (fun r1 h1 q1 => ?_)
  obtain ⟨rfl, rfl⟩ := q1
  show sk_S _ _ _ _ _ _ (.int _ :: _) _ _
  refine sk_S.bif_eq (tgt := 14) (dd DX8_notMoved 2 rfl) (by decide) (fun c4 => ?_) (fun c4 => ?_)
  · refine sk_S.ldc (dd DX8_notMoved 6 rfl) rfl cnX8_73 ?_
    refine sk_S.iret (dd DX8_notMoved 7 rfl) rfl rfl ?_
    refine ⟨rfl, ?_⟩
    rw [mvK_no (fun q => c4 ((inN_le (by decide)).mpr q.1))]
    rfl
  · refine sk_S.iload_n (i := 3) (dd DX8_notMoved 3 rfl) rfl rfl ?_
    refine sk_S.callS (dd DX8_notMoved 4 rfl) rfl kX8_200 cM_isSheet rfl rfl rfl (Nat.le_of_ble_eq_true rfl) (fun r8 h8 q8 => ?_)
    obtain ⟨rfl, rfl⟩ := q8
    show sk_S _ _ _ _ _ _ (.int _ :: _) _ _
    refine sk_S.bif_ne (tgt := 17) (dd DX8_notMoved 5 rfl) (by decide) (fun c11 => ?_) (fun c11 => ?_)
    · obtain ⟨a, ha, rfl⟩ := (inN_le (n := 4) (by decide)).mp c4
      obtain ⟨b, hb, rfl⟩ := (inN_le (n := 4) (by decide)).mp c11
      refine sk_S.aload_n (i := 0) (dd DX8_notMoved 8 rfl) rfl rfl ?_
      refine sk_S.getr (dd DX8_notMoved 9 rfl) rfl fX8_19 se_54 (by decide) rfl ?_
      refine sk_S.iload_n (i := 1) (dd DX8_notMoved 10 rfl) rfl rfl ?_
      refine sk_S.iald (dd DX8_notMoved 11 rfl) se_58 (sk_ix_nI (k := a) rfl (by omega) (by decide)) ?_
      refine sk_S.if_eq (tgt := 35) (dd DX8_notMoved 12 rfl) (by decide) (fun c23 => ?_) (fun c23 => ?_)
      · refine sk_S.ldc (dd DX8_notMoved 18 rfl) rfl cnX8_190 ?_
        refine sk_S.iret (dd DX8_notMoved 19 rfl) rfl rfl ?_
        refine ⟨rfl, ?_⟩
        rw [mvK_in ha hb, if_pos (Or.inl c23)]
        rfl
      · refine sk_S.aload_n (i := 0) (dd DX8_notMoved 13 rfl) rfl rfl ?_
        refine sk_S.getr (dd DX8_notMoved 14 rfl) rfl fX8_19 se_54 (by decide) rfl ?_
        refine sk_S.iload_n (i := 3) (dd DX8_notMoved 15 rfl) rfl rfl ?_
        refine sk_S.iald (dd DX8_notMoved 16 rfl) se_58 (sk_ix_nI (k := b) rfl (by omega) (by decide)) ?_
        refine sk_S.if_ne (tgt := 38) (dd DX8_notMoved 17 rfl) (by decide) (fun c32 => ?_) (fun c32 => ?_)
        · refine sk_S.aload_n (i := 0) (dd DX8_notMoved 20 rfl) rfl rfl ?_
          refine sk_S.getr (dd DX8_notMoved 21 rfl) rfl fX8_19 se_54 (by decide) rfl ?_
          refine sk_S.iload_n (i := 1) (dd DX8_notMoved 22 rfl) rfl rfl ?_
          refine sk_S.iald (dd DX8_notMoved 23 rfl) se_58 (sk_ix_nI (k := a) rfl (by omega) (by decide)) ?_
          refine sk_S.aload_n (i := 0) (dd DX8_notMoved 24 rfl) rfl rfl ?_
          refine sk_S.getr (dd DX8_notMoved 25 rfl) rfl fX8_19 se_54 (by decide) rfl ?_
          refine sk_S.iload_n (i := 3) (dd DX8_notMoved 26 rfl) rfl rfl ?_
          refine sk_S.iald (dd DX8_notMoved 27 rfl) se_58 (sk_ix_nI (k := b) rfl (by omega) (by decide)) ?_
          refine sk_S.icmp_eq (tgt := 56) (dd DX8_notMoved 28 rfl) (by decide) (fun c50 => ?_) (fun c50 => ?_)
          · refine sk_S.iload (i := 5) (dd DX8_notMoved 31 rfl) rfl ?_
            refine sk_S.if_lt (tgt := 101) (dd DX8_notMoved 32 rfl) (by decide) (fun c58 => ?_) (fun c58 => ?_)
            · refine sk_S.iconst (v := 0) (dd DX8_notMoved 55 rfl) (by decide) ?_
              refine sk_S.istore (i := 6) (dd DX8_notMoved 56 rfl) (Nat.le_of_ble_eq_true rfl) rfl ?_
              refine sk_S.iload (i := 6) (dd DX8_notMoved 57 rfl) rfl ?_
              refine sk_S.if_eq (tgt := 113) (dd DX8_notMoved 58 rfl) (by decide) (fun c106 => ?_) (fun c106 => absurd rfl c106)
              refine sk_S.ldc (dd DX8_notMoved 61 rfl) rfl cnX8_73 ?_
              refine sk_S.iret (dd DX8_notMoved 62 rfl) rfl rfl ?_
              refine ⟨rfl, ?_⟩
              obtain ⟨la, la24⟩ := hS a ha
              obtain ⟨lb, lb24⟩ := hS b hb
              rw [mvK_in ha hb, if_neg (fun q => q.elim c23 c32), if_neg (fun q => q c50), if_neg]
              · rfl
              rintro ⟨x, y, q, rfl, rfl, rfl, f1, f2⟩
              obtain ⟨a1, a2, a3⟩ := mv_no la24 f1
              obtain ⟨b1, b2, b3⟩ := mv_no lb24 f2
              exact a1 c58
            · refine sk_S.iload_n (i := 2) (dd DX8_notMoved 33 rfl) rfl rfl ?_
              refine sk_S.if_lt (tgt := 101) (dd DX8_notMoved 34 rfl) (by decide) (fun c62 => ?_) (fun c62 => ?_)
              · refine sk_S.iconst (v := 0) (dd DX8_notMoved 55 rfl) (by decide) ?_
                refine sk_S.istore (i := 6) (dd DX8_notMoved 56 rfl) (Nat.le_of_ble_eq_true rfl) rfl ?_
                refine sk_S.iload (i := 6) (dd DX8_notMoved 57 rfl) rfl ?_
                refine sk_S.if_eq (tgt := 113) (dd DX8_notMoved 58 rfl) (by decide) (fun c106 => ?_) (fun c106 => absurd rfl c106)
                refine sk_S.ldc (dd DX8_notMoved 61 rfl) rfl cnX8_73 ?_
                refine sk_S.iret (dd DX8_notMoved 62 rfl) rfl rfl ?_
                refine ⟨rfl, ?_⟩
                obtain ⟨la, la24⟩ := hS a ha
                obtain ⟨lb, lb24⟩ := hS b hb
                rw [mvK_in ha hb, if_neg (fun q => q.elim c23 c32), if_neg (fun q => q c50), if_neg]
                · rfl
                rintro ⟨x, y, q, rfl, rfl, rfl, f1, f2⟩
                obtain ⟨a1, a2, a3⟩ := mv_no la24 f1
                obtain ⟨b1, b2, b3⟩ := mv_no lb24 f2
                exact a2 c62
              · refine sk_S.iload (i := 4) (dd DX8_notMoved 35 rfl) rfl ?_
                refine sk_S.if_lt (tgt := 101) (dd DX8_notMoved 36 rfl) (by decide) (fun c67 => ?_) (fun c67 => ?_)
                · refine sk_S.iconst (v := 0) (dd DX8_notMoved 55 rfl) (by decide) ?_
                  refine sk_S.istore (i := 6) (dd DX8_notMoved 56 rfl) (Nat.le_of_ble_eq_true rfl) rfl ?_
                  refine sk_S.iload (i := 6) (dd DX8_notMoved 57 rfl) rfl ?_
                  refine sk_S.if_eq (tgt := 113) (dd DX8_notMoved 58 rfl) (by decide) (fun c106 => ?_) (fun c106 => absurd rfl c106)
                  refine sk_S.ldc (dd DX8_notMoved 61 rfl) rfl cnX8_73 ?_
                  refine sk_S.iret (dd DX8_notMoved 62 rfl) rfl rfl ?_
                  refine ⟨rfl, ?_⟩
                  obtain ⟨la, la24⟩ := hS a ha
                  obtain ⟨lb, lb24⟩ := hS b hb
                  rw [mvK_in ha hb, if_neg (fun q => q.elim c23 c32), if_neg (fun q => q c50), if_neg]
                  · rfl
                  rintro ⟨x, y, q, rfl, rfl, rfl, f1, f2⟩
                  obtain ⟨a1, a2, a3⟩ := mv_no la24 f1
                  obtain ⟨b1, b2, b3⟩ := mv_no lb24 f2
                  exact b2 c67
                · refine sk_S.iload (i := 5) (dd DX8_notMoved 37 rfl) rfl ?_
                  refine sk_S.aload_n (i := 0) (dd DX8_notMoved 38 rfl) rfl rfl ?_
                  refine sk_S.getr (dd DX8_notMoved 39 rfl) rfl fX8_22 se_54 (by decide) rfl ?_
                  refine sk_S.iload_n (i := 1) (dd DX8_notMoved 40 rfl) rfl rfl ?_
                  refine sk_S.iald (dd DX8_notMoved 41 rfl) se_59 (sk_ix_nI (k := a) rfl (by omega) (by decide)) ?_
                  refine sk_S.iload_n (i := 2) (dd DX8_notMoved 42 rfl) rfl rfl ?_
                  refine sk_S.isub (dd DX8_notMoved 43 rfl) ?_
                  refine sk_S.icmp_gt (tgt := 101) (dd DX8_notMoved 44 rfl) (by decide) (fun c80 => ?_) (fun c80 => ?_)
                  · refine sk_S.iconst (v := 0) (dd DX8_notMoved 55 rfl) (by decide) ?_
                    refine sk_S.istore (i := 6) (dd DX8_notMoved 56 rfl) (Nat.le_of_ble_eq_true rfl) rfl ?_
                    refine sk_S.iload (i := 6) (dd DX8_notMoved 57 rfl) rfl ?_
                    refine sk_S.if_eq (tgt := 113) (dd DX8_notMoved 58 rfl) (by decide) (fun c106 => ?_) (fun c106 => absurd rfl c106)
                    refine sk_S.ldc (dd DX8_notMoved 61 rfl) rfl cnX8_73 ?_
                    refine sk_S.iret (dd DX8_notMoved 62 rfl) rfl rfl ?_
                    refine ⟨rfl, ?_⟩
                    obtain ⟨la, la24⟩ := hS a ha
                    obtain ⟨lb, lb24⟩ := hS b hb
                    rw [mvK_in ha hb, if_neg (fun q => q.elim c23 c32), if_neg (fun q => q c50), if_neg]
                    · rfl
                    rintro ⟨x, y, q, rfl, rfl, rfl, f1, f2⟩
                    obtain ⟨a1, a2, a3⟩ := mv_no la24 f1
                    obtain ⟨b1, b2, b3⟩ := mv_no lb24 f2
                    exact a3 (by rw [← la]; exact c80)
                  · refine sk_S.iload (i := 5) (dd DX8_notMoved 45 rfl) rfl ?_
                    refine sk_S.aload_n (i := 0) (dd DX8_notMoved 46 rfl) rfl rfl ?_
                    refine sk_S.getr (dd DX8_notMoved 47 rfl) rfl fX8_22 se_54 (by decide) rfl ?_
                    refine sk_S.iload_n (i := 3) (dd DX8_notMoved 48 rfl) rfl rfl ?_
                    refine sk_S.iald (dd DX8_notMoved 49 rfl) se_59 (sk_ix_nI (k := b) rfl (by omega) (by decide)) ?_
                    refine sk_S.iload (i := 4) (dd DX8_notMoved 50 rfl) rfl ?_
                    refine sk_S.isub (dd DX8_notMoved 51 rfl) ?_
                    refine sk_S.icmp_gt (tgt := 101) (dd DX8_notMoved 52 rfl) (by decide) (fun c94 => ?_) (fun c94 => ?_)
                    · refine sk_S.iconst (v := 0) (dd DX8_notMoved 55 rfl) (by decide) ?_
                      refine sk_S.istore (i := 6) (dd DX8_notMoved 56 rfl) (Nat.le_of_ble_eq_true rfl) rfl ?_
                      refine sk_S.iload (i := 6) (dd DX8_notMoved 57 rfl) rfl ?_
                      refine sk_S.if_eq (tgt := 113) (dd DX8_notMoved 58 rfl) (by decide) (fun c106 => ?_) (fun c106 => absurd rfl c106)
                      refine sk_S.ldc (dd DX8_notMoved 61 rfl) rfl cnX8_73 ?_
                      refine sk_S.iret (dd DX8_notMoved 62 rfl) rfl rfl ?_
                      refine ⟨rfl, ?_⟩
                      obtain ⟨la, la24⟩ := hS a ha
                      obtain ⟨lb, lb24⟩ := hS b hb
                      rw [mvK_in ha hb, if_neg (fun q => q.elim c23 c32), if_neg (fun q => q c50), if_neg]
                      · rfl
                      rintro ⟨x, y, q, rfl, rfl, rfl, f1, f2⟩
                      obtain ⟨a1, a2, a3⟩ := mv_no la24 f1
                      obtain ⟨b1, b2, b3⟩ := mv_no lb24 f2
                      exact b3 (by rw [← lb]; exact c94)
                    · refine sk_S.iconst (v := 1) (dd DX8_notMoved 53 rfl) (by decide) ?_
                      refine sk_S.goto (tgt := 102) (dd DX8_notMoved 54 rfl) (by decide) ?_
                      refine sk_S.istore (i := 6) (dd DX8_notMoved 56 rfl) (Nat.le_of_ble_eq_true rfl) rfl ?_
                      refine sk_S.iload (i := 6) (dd DX8_notMoved 57 rfl) rfl ?_
                      refine sk_S.if_eq (tgt := 113) (dd DX8_notMoved 58 rfl) (by decide) (fun c106 => absurd c106 (by decide)) (fun c106 => ?_)
                      refine sk_S.iconst (v := 0) (dd DX8_notMoved 59 rfl) (by decide) ?_
                      refine sk_S.goto (tgt := 115) (dd DX8_notMoved 60 rfl) (by decide) ?_
                      refine sk_S.iret (dd DX8_notMoved 62 rfl) rfl rfl ?_
                      refine ⟨rfl, ?_⟩
                      obtain ⟨la, la24⟩ := hS a ha
                      obtain ⟨lb, lb24⟩ := hS b hb
                      rw [mvK_in ha hb, if_neg (fun q => q.elim c23 c32), if_neg (fun q => q c50), if_pos]
                      · rfl
                      rw [la] at c80
                      rw [lb] at c94
                      obtain ⟨x, q, rfl, rfl, f1⟩ := mv_fit la24 c58 c62 c80
                      obtain ⟨y, q2, rfl, e2, f2⟩ := mv_fit lb24 c58 c67 c94
                      have e3 : q = q2 := nI_inj (by omega) (by omega) e2
                      subst e3
                      exact ⟨x, y, q, rfl, rfl, rfl, f1, f2⟩
          · refine sk_S.ldc (dd DX8_notMoved 29 rfl) rfl cnX8_88 ?_
            refine sk_S.iret (dd DX8_notMoved 30 rfl) rfl rfl ?_
            refine ⟨rfl, ?_⟩
            rw [mvK_in ha hb, if_neg (fun q => q.elim c23 c32), if_pos c50]
            rfl
        · refine sk_S.ldc (dd DX8_notMoved 18 rfl) rfl cnX8_190 ?_
          refine sk_S.iret (dd DX8_notMoved 19 rfl) rfl rfl ?_
          refine ⟨rfl, ?_⟩
          rw [mvK_in ha hb, if_pos (Or.inr c32)]
          rfl
    · refine sk_S.ldc (dd DX8_notMoved 6 rfl) rfl cnX8_73 ?_
      refine sk_S.iret (dd DX8_notMoved 7 rfl) rfl rfl ?_
      refine ⟨rfl, ?_⟩
      rw [mvK_no (fun q => c11 ((inN_le (by decide)).mpr q.2))]
      rfl
end M12
end
section
section SPEC13
/-- a part of a row set anew from another part -/
def mvR (f : Nat → Int32) (src dst q : Nat) : Nat → Int32 := fun k => if dst ≤ k ∧ k < dst + q then f (src + (k - dst)) else f k
def mvD (f : Nat → Int32) (src dst q k : Nat) : Nat → Int32 := fun z => if dst + (q - k) ≤ z ∧ z < dst + q then f (src + (z - dst)) else f z
theorem mvR_0 {f : Nat → Int32} {src dst : Nat} : mvR f src dst 0 = f := by
  funext k
  unfold mvR
  rw [if_neg (by omega)]
theorem mvR_s {f : Nat → Int32} {src dst k : Nat} (h : ¬ (dst ≤ src + k ∧ src + k < dst + k)) : upd (mvR f src dst k) (dst + k) (mvR f src dst k (src + k)) = mvR f src dst (k + 1) := by
  have e1 : mvR f src dst k (src + k) = f (src + k) := if_neg h
  rw [e1]
  funext z
  unfold mvR upd
  by_cases q : z = dst + k
  · rw [if_pos q, if_pos (by omega), q]
    congr 1
    omega
  · rw [if_neg q]
    show (if dst ≤ z ∧ z < dst + k then f (src + (z - dst)) else f z) = _
    by_cases q2 : dst ≤ z ∧ z < dst + k
    · rw [if_pos q2, if_pos (by omega)]
    · rw [if_neg q2, if_neg (by omega)]
theorem mvD_0 {f : Nat → Int32} {src dst q : Nat} : mvD f src dst q 0 = f := by
  funext k
  unfold mvD
  rw [if_neg (by omega)]
theorem mvD_q {f : Nat → Int32} {src dst q : Nat} : mvD f src dst q q = mvR f src dst q := by
  funext k
  unfold mvD mvR
  rw [Nat.sub_self, Nat.add_zero]
theorem mvD_s {f : Nat → Int32} {src dst q k : Nat} (hk : k < q) (h : ¬ (dst + (q - k) ≤ src + (q - 1 - k) ∧ src + (q - 1 - k) < dst + q)) : upd (mvD f src dst q k) (dst + (q - 1 - k)) (mvD f src dst q k (src + (q - 1 - k))) = mvD f src dst q (k + 1) := by
  have e1 : mvD f src dst q k (src + (q - 1 - k)) = f (src + (q - 1 - k)) := if_neg h
  rw [e1]
  funext z
  unfold mvD upd
  by_cases p : z = dst + (q - 1 - k)
  · rw [if_pos p, if_pos (by omega), p]
    congr 1
    omega
  · rw [if_neg p]
    show (if dst + (q - k) ≤ z ∧ z < dst + q then f (src + (z - dst)) else f z) = _
    by_cases q2 : dst + (q - k) ≤ z ∧ z < dst + q
    · rw [if_pos q2, if_pos (by omega)]
    · rw [if_neg q2, if_neg (by omega)]
theorem ix_24b (a x k : Nat) : (24 : Int32) * nI a + nI x + nI k = nI (24 * a + x + k) := by
  rw [ix_24, nI_add]
theorem mvK_0 {h : sk_M} {s i o j n : Int32} (q : mvK h s i o j n = 0) : ∃ a b x y w : Nat, a < 4 ∧ b < 4 ∧ s = nI a ∧ o = nI b ∧ i = nI x ∧ j = nI y ∧ n = nI w ∧ ¬ h 58 a = 0 ∧ h 58 a = h 58 b ∧ x + w ≤ shN h a ∧ y + w ≤ shN h b := by
  have hx : inN s 4 ∧ inN o 4 := by
    apply Classical.byContradiction
    intro q2
    rw [mvK_no q2] at q
    omega
  obtain ⟨⟨a, ha, rfl⟩, ⟨b, hb, rfl⟩⟩ := hx
  rw [mvK_in ha hb] at q
  by_cases c1 : h 58 a = 0 ∨ h 58 b = 0
  · rw [if_pos c1] at q; omega
  · rw [if_neg c1] at q
    by_cases c2 : ¬ h 58 a = h 58 b
    · rw [if_pos c2] at q; omega
    · rw [if_neg c2] at q
      by_cases c3 : ∃ x y q : Nat, i = nI x ∧ j = nI y ∧ n = nI q ∧ x + q ≤ shN h a ∧ y + q ≤ shN h b
      · obtain ⟨x, y, w, e1, e2, e3, f1, f2⟩ := c3
        exact ⟨a, b, x, y, w, ha, hb, rfl, rfl, e1, e2, e3, fun e => c1 (Or.inl e), Decidable.byContradiction c2, f1, f2⟩
      · rw [if_neg c3] at q; omega
/-- bodies put on the trace -/
def appT (f : Nat → Int32) (n : Nat) : List Int32 → (Nat → Int32)
  | [] => f
  | b :: l => appT (upd f n b) (n + 1) l
theorem appT_app {f : Nat → Int32} : ∀ {n : Nat} {a b : List Int32}, appT f n (a ++ b) = appT (appT f n a) (n + a.length) b
  | n, [], b => rfl
  | n, x :: a, b => by
    show appT (upd f n x) (n + 1) (a ++ b) = _
    rw [appT_app]
    show appT (appT (upd f n x) (n + 1) a) (n + 1 + a.length) b = appT (appT (upd f n x) (n + 1) a) (n + (a.length + 1)) b
    rw [Nat.add_assoc, Nat.add_comm 1]
def voC (k t x : Int32) : Int32 := if k = 1 then x + t - 4 else if k = 4 then (x + t - 4) * 3 else if k = 6 then 9 else x + t
def voCb (k : Int32) : List Int32 := if k = 1 then [20, 10] else if k = 4 then [50, 20, 10] else if k = 6 then [70] else [10]
def voP (k t x : Int32) : Int32 := voC k t x * 2
def voPb (k : Int32) : List Int32 := 11 :: voCb k
def voH (k m t x : Int32) : Int32 := if k = 2 then -(voP k t x) else if k = 5 then -(voP k t (x + 1)) else if k = 6 then voP k t x + m else voP k t x
def voHb (k : Int32) : List Int32 := if k = 2 then 30 :: voPb k else if k = 5 then 60 :: 30 :: voPb k else if k = 6 then 71 :: voPb k else voPb k
def voL (k m t x : Int32) : Int32 := if k = 3 then voH k m t (x / 2) - m else if k = 4 then (voH k m t x - m) ^^^ t else voH k m t x - m
def voLb (k : Int32) : List Int32 := if k = 3 then 40 :: 12 :: voHb k else if k = 4 then 51 :: 12 :: voHb k else 12 :: voHb k
def voRp (m t : Int32) : Prop := m - t = 0
end SPEC13
end
section
section M13
set_option maxRecDepth 100000 in
set_option maxHeartbeats 4000000 in
theorem lp_moveA {l : Launch} {E : sk_V} {d : Nat} {h : sk_M} {a b x y q : Nat} (ha : a < 4) (hb : b < 4) (hx : x + q ≤ 24) (hy : y + q ≤ 24) (hc : y ≤ x) : ∀ (m k : Nat) (g : sk_M) (x8 : Option Value), k + m = q → sk_o [60] h g → g 60 = mvR (h 60) (24 * a + x) (24 * b + y) k → sk_S l E (d + 3) MX8_move 28 [some (.ref 54), some (.int (nI a)), some (.int (nI x)), some (.int (nI b)), some (.int (nI y)), some (.int (nI q)), some (.int 0), some (.int (nI k)), x8] [] g (fun r h1 => sk_o [60] h h1 ∧ h1 60 = mvR (h 60) (24 * a + x) (24 * b + y) q ∧ some (.int (nI q)) = r)
  | 0, k, g, x8, hk, ho, hg => by
    have hkq : k = q := by omega
    subst hkq
    refine sk_S.iload (i := 7) (dd DX8_move 16 rfl) rfl ?_
    refine sk_S.iload (i := 5) (dd DX8_move 17 rfl) rfl ?_
    refine sk_S.icmp_ge (tgt := 90) (dd DX8_move 18 rfl) (by decide) (fun c32 => ?_) (fun c32 => absurd (Int32.le_refl _) c32)
    refine sk_S.iload (i := 5) (dd DX8_move 52 rfl) rfl ?_
    refine sk_S.iret (dd DX8_move 53 rfl) rfl rfl ?_
    exact ⟨ho, hg, rfl⟩
  | m + 1, k, g, x8, hk, ho, hg => by
    have hkq : k < q := by omega
    refine sk_S.iload (i := 7) (dd DX8_move 16 rfl) rfl ?_
    refine sk_S.iload (i := 5) (dd DX8_move 17 rfl) rfl ?_
    refine sk_S.icmp_ge (tgt := 90) (dd DX8_move 18 rfl) (by decide) (fun c32 => absurd c32 (nI_ge (by omega) (by omega))) (fun c32 => ?_)
    refine sk_S.iload_n (i := 2) (dd DX8_move 19 rfl) rfl rfl ?_
    refine sk_S.iload (i := 4) (dd DX8_move 20 rfl) rfl ?_
    refine sk_S.icmp_ge (tgt := 51) (dd DX8_move 21 rfl) (by decide) (fun c38 => ?_) (fun c38 => absurd (nI_le hc (by omega)) c38)
    refine sk_S.iload (i := 7) (dd DX8_move 28 rfl) rfl ?_
    skip
    refine sk_S.istore (i := 8) (dd DX8_move 29 rfl) (Nat.le_of_ble_eq_true rfl) rfl ?_
    refine sk_S.aload_n (i := 0) (dd DX8_move 30 rfl) rfl rfl ?_
    refine sk_S.getr (dd DX8_move 31 rfl) rfl fX8_25 se_54 (by decide) rfl ?_
    refine sk_S.bipush (v := 24) (dd DX8_move 32 rfl) (by decide) ?_
    refine sk_S.iload_n (i := 3) (dd DX8_move 33 rfl) rfl rfl ?_
    refine sk_S.imul (dd DX8_move 34 rfl) ?_
    refine sk_S.iload (i := 4) (dd DX8_move 35 rfl) rfl ?_
    refine sk_S.iadd (dd DX8_move 36 rfl) ?_
    refine sk_S.iload (i := 8) (dd DX8_move 37 rfl) rfl ?_
    refine sk_S.iadd (dd DX8_move 38 rfl) ?_
    refine sk_S.aload_n (i := 0) (dd DX8_move 39 rfl) rfl rfl ?_
    refine sk_S.getr (dd DX8_move 40 rfl) rfl fX8_25 se_54 (by decide) rfl ?_
    refine sk_S.bipush (v := 24) (dd DX8_move 41 rfl) (by decide) ?_
    refine sk_S.iload_n (i := 1) (dd DX8_move 42 rfl) rfl rfl ?_
    refine sk_S.imul (dd DX8_move 43 rfl) ?_
    refine sk_S.iload_n (i := 2) (dd DX8_move 44 rfl) rfl rfl ?_
    refine sk_S.iadd (dd DX8_move 45 rfl) ?_
    refine sk_S.iload (i := 8) (dd DX8_move 46 rfl) rfl ?_
    refine sk_S.iadd (dd DX8_move 47 rfl) ?_
    refine sk_S.iald (dd DX8_move 48 rfl) se_60 (sk_ix_e (k := 24 * a + x + k) (ix_24b a x _) (by omega) (by decide)) ?_
    refine sk_S.iast (dd DX8_move 49 rfl) se_60 (sk_ix_e (k := 24 * b + y + k) (ix_24b b y _) (by omega) (by decide)) ?_
    refine sk_S.iinc (i := 7) (v := _ + 1) (dd DX8_move 50 rfl) rfl rfl rfl ?_
    refine sk_S.goto (tgt := 28) (dd DX8_move 51 rfl) (by decide) ?_
    exact sk_S.L (lp_moveA ha hb hx hy hc m (k + 1) _ (some (.int (nI k))) (by omega) (ho.u (by decide)) (by rw [sk_u, sk_r_eq, hg]; exact mvR_s (by omega))) (by rw [nI_succ]; rfl)
set_option maxRecDepth 100000 in
set_option maxHeartbeats 4000000 in
theorem lp_moveD {l : Launch} {E : sk_V} {d : Nat} {h : sk_M} {a b x y q : Nat} (ha : a < 4) (hb : b < 4) (hx : x + q ≤ 24) (hy : y + q ≤ 24) (hc : x < y) : ∀ (m k : Nat) (g : sk_M) (x8 : Option Value), k + m = q → sk_o [60] h g → g 60 = mvD (h 60) (24 * a + x) (24 * b + y) q k → sk_S l E (d + 3) MX8_move 28 [some (.ref 54), some (.int (nI a)), some (.int (nI x)), some (.int (nI b)), some (.int (nI y)), some (.int (nI q)), some (.int 0), some (.int (nI k)), x8] [] g (fun r h1 => sk_o [60] h h1 ∧ h1 60 = mvR (h 60) (24 * a + x) (24 * b + y) q ∧ some (.int (nI q)) = r)
  | 0, k, g, x8, hk, ho, hg => by
    have hkq : k = q := by omega
    subst hkq
    refine sk_S.iload (i := 7) (dd DX8_move 16 rfl) rfl ?_
    refine sk_S.iload (i := 5) (dd DX8_move 17 rfl) rfl ?_
    refine sk_S.icmp_ge (tgt := 90) (dd DX8_move 18 rfl) (by decide) (fun c32 => ?_) (fun c32 => absurd (Int32.le_refl _) c32)
    refine sk_S.iload (i := 5) (dd DX8_move 52 rfl) rfl ?_
    refine sk_S.iret (dd DX8_move 53 rfl) rfl rfl ?_
    exact ⟨ho, (hg.trans mvD_q), rfl⟩
  | m + 1, k, g, x8, hk, ho, hg => by
    have hkq : k < q := by omega
    refine sk_S.iload (i := 7) (dd DX8_move 16 rfl) rfl ?_
    refine sk_S.iload (i := 5) (dd DX8_move 17 rfl) rfl ?_
    refine sk_S.icmp_ge (tgt := 90) (dd DX8_move 18 rfl) (by decide) (fun c32 => absurd c32 (nI_ge (by omega) (by omega))) (fun c32 => ?_)
    refine sk_S.iload_n (i := 2) (dd DX8_move 19 rfl) rfl rfl ?_
    refine sk_S.iload (i := 4) (dd DX8_move 20 rfl) rfl ?_
    refine sk_S.icmp_ge (tgt := 51) (dd DX8_move 21 rfl) (by decide) (fun c38 => absurd c38 (nI_ge hc (by omega))) (fun c38 => ?_)
    refine sk_S.iload (i := 5) (dd DX8_move 22 rfl) rfl ?_
    refine sk_S.iconst (v := 1) (dd DX8_move 23 rfl) (by decide) ?_
    refine sk_S.isub (dd DX8_move 24 rfl) ?_
    refine sk_S.iload (i := 7) (dd DX8_move 25 rfl) rfl ?_
    refine sk_S.isub (dd DX8_move 26 rfl) ?_
    refine sk_S.goto (tgt := 53) (dd DX8_move 27 rfl) (by decide) ?_
    rw [show nI q - 1 - nI k = nI (q - 1 - k) from by rw [show nI q - 1 = nI (q - 1) from nI_sub (b := 1) (by omega), nI_sub (by omega)]]
    refine sk_S.istore (i := 8) (dd DX8_move 29 rfl) (Nat.le_of_ble_eq_true rfl) rfl ?_
    refine sk_S.aload_n (i := 0) (dd DX8_move 30 rfl) rfl rfl ?_
    refine sk_S.getr (dd DX8_move 31 rfl) rfl fX8_25 se_54 (by decide) rfl ?_
    refine sk_S.bipush (v := 24) (dd DX8_move 32 rfl) (by decide) ?_
    refine sk_S.iload_n (i := 3) (dd DX8_move 33 rfl) rfl rfl ?_
    refine sk_S.imul (dd DX8_move 34 rfl) ?_
    refine sk_S.iload (i := 4) (dd DX8_move 35 rfl) rfl ?_
    refine sk_S.iadd (dd DX8_move 36 rfl) ?_
    refine sk_S.iload (i := 8) (dd DX8_move 37 rfl) rfl ?_
    refine sk_S.iadd (dd DX8_move 38 rfl) ?_
    refine sk_S.aload_n (i := 0) (dd DX8_move 39 rfl) rfl rfl ?_
    refine sk_S.getr (dd DX8_move 40 rfl) rfl fX8_25 se_54 (by decide) rfl ?_
    refine sk_S.bipush (v := 24) (dd DX8_move 41 rfl) (by decide) ?_
    refine sk_S.iload_n (i := 1) (dd DX8_move 42 rfl) rfl rfl ?_
    refine sk_S.imul (dd DX8_move 43 rfl) ?_
    refine sk_S.iload_n (i := 2) (dd DX8_move 44 rfl) rfl rfl ?_
    refine sk_S.iadd (dd DX8_move 45 rfl) ?_
    refine sk_S.iload (i := 8) (dd DX8_move 46 rfl) rfl ?_
    refine sk_S.iadd (dd DX8_move 47 rfl) ?_
    refine sk_S.iald (dd DX8_move 48 rfl) se_60 (sk_ix_e (k := 24 * a + x + (q - 1 - k)) (ix_24b a x _) (by omega) (by decide)) ?_
    refine sk_S.iast (dd DX8_move 49 rfl) se_60 (sk_ix_e (k := 24 * b + y + (q - 1 - k)) (ix_24b b y _) (by omega) (by decide)) ?_
    refine sk_S.iinc (i := 7) (v := _ + 1) (dd DX8_move 50 rfl) rfl rfl rfl ?_
    refine sk_S.goto (tgt := 28) (dd DX8_move 51 rfl) (by decide) ?_
    exact sk_S.L (lp_moveD ha hb hx hy hc m (k + 1) _ (some (.int (nI (q - 1 - k)))) (by omega) (ho.u (by decide)) (by rw [sk_u, sk_r_eq, hg]; exact mvD_s hkq (by omega))) (by rw [nI_succ]; rfl)
set_option maxRecDepth 100000 in
set_option maxHeartbeats 4000000 in
theorem cM_move {l : Launch} {E : sk_V} {d : Nat} {h : sk_M} {s i t j n : Int32} (hS : shI h) : sk_K l E (d + 3) MX8_move [.ref 54, .int s, .int i, .int t, .int j, .int n] h (fun r h1 => (¬ mvK h s i t j n = 0 ∧ erM h (mvK h s i t j n) h1 r) ∨ (mvK h s i t j n = 0 ∧ ∃ a b x y w : Nat, a < 4 ∧ b < 4 ∧ s = nI a ∧ t = nI b ∧ i = nI x ∧ j = nI y ∧ n = nI w ∧ ¬ h 58 a = 0 ∧ h 58 a = h 58 b ∧ x + w ≤ shN h a ∧ y + w ≤ shN h b ∧ sk_o [60] h h1 ∧ h1 60 = mvR (h 60) (24 * a + x) (24 * b + y) w ∧ some (.int (nI w)) = r)) := by
  refine sk_K.of (by decide +kernel) (Nat.le_of_ble_eq_true rfl) ?_
  show sk_S l E (d + 3) _ 0 [some (.ref 54), some (.int s), some (.int i), some (.int t), some (.int j), some (.int n), none, none, none] [] h _
  refine sk_S.aload_n (i := 0) (dd DX8_move 0 rfl) rfl rfl ?_
  refine sk_S.iload_n (i := 1) (dd DX8_move 1 rfl) rfl rfl ?_
  refine sk_S.iload_n (i := 2) (dd DX8_move 2 rfl) rfl rfl ?_
  refine sk_S.iload_n (i := 3) (dd DX8_move 3 rfl) rfl rfl ?_
  refine sk_S.iload (i := 4) (dd DX8_move 4 rfl) rfl ?_
  refine sk_S.iload (i := 5) (dd DX8_move 5 rfl) rfl ?_
  refine sk_S.callV (dd DX8_move 6 rfl) rfl kX8_249 (cM_notMoved hS) se_54 (by decide) rfl rfl rfl rfl (Nat.le_of_ble_eq_true rfl) (fun r8 h8 q8 => ?_)
  obtain ⟨rfl, rfl⟩ := q8
  show sk_S _ _ _ _ _ _ (.int _ :: _) _ _
  refine sk_S.istore (i := 6) (dd DX8_move 7 rfl) (Nat.le_of_ble_eq_true rfl) rfl ?_
  refine sk_S.iload (i := 6) (dd DX8_move 8 rfl) rfl ?_
  refine sk_S.if_eq (tgt := 25) (dd DX8_move 9 rfl) (by decide) (fun c15 => ?_) (fun c15 => ?_)
  · have k1 : mvK h s i t j n = 0 := wI_0 c15 (by have := mvK_le h s i t j n; omega)
    rw [k1]
    obtain ⟨a, b, x, y, w, ha, hb, rfl, rfl, rfl, rfl, rfl, hba, hbb, f1, f2⟩ := mvK_0 k1
    have la := (hS a ha).2
    have lb := (hS b hb).2
    refine sk_S.iconst (v := 0) (dd DX8_move 14 rfl) (by decide) ?_
    refine sk_S.istore (i := 7) (dd DX8_move 15 rfl) (Nat.le_of_ble_eq_true rfl) rfl ?_
    by_cases hc : y ≤ x
    · refine sk_S.mono (lp_moveA ha hb (by omega) (by omega) hc w 0 h none (Nat.zero_add _) sk_o.rf mvR_0.symm) ?_
      rintro r h1 ⟨q1, q2, q3⟩
      exact Or.inr ⟨rfl, a, b, x, y, w, ha, hb, rfl, rfl, rfl, rfl, rfl, hba, hbb, f1, f2, q1, q2, q3⟩
    · refine sk_S.mono (lp_moveD ha hb (by omega) (by omega) (Nat.lt_of_not_le hc) w 0 h none (Nat.zero_add _) sk_o.rf mvD_0.symm) ?_
      rintro r h1 ⟨q1, q2, q3⟩
      exact Or.inr ⟨rfl, a, b, x, y, w, ha, hb, rfl, rfl, rfl, rfl, rfl, hba, hbb, f1, f2, q1, q2, q3⟩
  · have k0 : ¬ mvK h s i t j n = 0 := fun q => c15 (by rw [q]; rfl)
    refine sk_S.aload_n (i := 0) (dd DX8_move 10 rfl) rfl rfl ?_
    refine sk_S.iload (i := 6) (dd DX8_move 11 rfl) rfl ?_
    refine sk_S.callV (dd DX8_move 12 rfl) rfl kX8_74 (cM_error (k := mvK h s i t j n) (wI_ix k0 (by have := mvK_le h s i t j n; omega))) se_54 (by decide) rfl rfl rfl rfl (Nat.le_of_ble_eq_true rfl) (fun r21 h21 q21 => ?_)
    obtain ⟨rfl, rfl⟩ := q21
    show sk_S _ _ _ _ _ _ (.int _ :: _) _ _
    refine sk_S.iret (dd DX8_move 13 rfl) rfl rfl ?_
    exact Or.inl ⟨k0, rfl, by rw [wI_er k0]⟩
end M13
end
section
section SPEC14
theorem lk_off {x : Int32} {d : Int} : ∀ l : List (Int × Int), (∀ q ∈ l, -2147483648 ≤ q.1 ∧ q.1 < 2147483648) → (∃ (i : Nat) (q : Int × Int), l[i]? = some q ∧ x = Int32.ofInt q.1 ∧ Op.lookupswitch.offset l d x.toInt = q.2) ∨ ((∀ q ∈ l, ¬ x = Int32.ofInt q.1) ∧ Op.lookupswitch.offset l d x.toInt = d)
  | [], _ => Or.inr ⟨fun _ h => absurd h List.not_mem_nil, rfl⟩
  | (a, o) :: r, hr => by
    have ih := lk_off (x := x) (d := d) r (fun q hq => hr q (List.mem_cons_of_mem _ hq))
    have ha := hr (a, o) List.mem_cons_self
    rw [Op.lookupswitch.offset_cons]
    by_cases e : x = Int32.ofInt a
    · have e2 : x.toInt = a := by rw [e, Int32.toInt_ofInt_of_le (by omega) (by omega)]
      refine Or.inl ⟨0, (a, o), rfl, e, ?_⟩
      simp [e2]
    · have e2 : ¬ x.toInt = a := fun q => e (Int32.toInt_inj.mp (by rw [q, Int32.toInt_ofInt_of_le (by omega) (by omega)]))
      have e3 : ¬ a = x.toInt := fun q => e2 q.symm
      rcases ih with ⟨i, q, h1, h2, h3⟩ | ⟨h1, h2⟩
      · refine Or.inl ⟨i + 1, q, by simpa using h1, h2, ?_⟩
        simp [e2, e3, h3]
      · refine Or.inr ⟨fun q hq => ?_, ?_⟩
        · rcases List.mem_cons.mp hq with rfl | hq
          · exact e
          · exact h1 q hq
        · simp [e2, e3, h2]
theorem sk_S.lookN {l : Launch} {E : sk_V} {d : Nat} {M : sk_m} {pc : Nat} {L : List (Option Value)} {St : List Value} {h : sk_M} {Q : Option Value → sk_M → Prop} {dflt : Int} {ps : Array (Int × Int)} {len : Nat} {x : Int32} (hd : decode M.2.1 pc = .ok (.lookupswitch dflt ps, len)) (hp : (ps.toList.zip (ps.toList.drop 1)).all (fun (a, next) => a.1 < next.1) = true) (hr : ps.toList.all (fun q => decide (-2147483648 ≤ q.1 ∧ q.1 < 2147483648 ∧ 0 ≤ (pc : Int) + q.2)) = true) (h0 : 0 ≤ (pc : Int) + dflt)
    (k : ∀ (i : Nat) (q : Int × Int), ps.toList[i]? = some q → x = Int32.ofInt q.1 → sk_S l E d M ((pc : Int) + q.2).toNat L St h Q) (k0 : (∀ q ∈ ps.toList, ¬ x = Int32.ofInt q.1) → sk_S l E d M ((pc : Int) + dflt).toNat L St h Q) : sk_S l E d M pc L (.int x :: St) h Q := by
  have hr2 : ∀ q ∈ ps.toList, -2147483648 ≤ q.1 ∧ q.1 < 2147483648 ∧ 0 ≤ (pc : Int) + q.2 := fun q hq => of_decide_eq_true (List.all_eq_true.mp hr q hq)
  rcases lk_off (x := x) (d := dflt) ps.toList (fun q hq => ⟨(hr2 q hq).1, (hr2 q hq).2.1⟩) with ⟨i, q, h1, h2, h3⟩ | ⟨h1, h3⟩
  · have h4 := (hr2 q (List.mem_of_getElem? h1)).2.2
    exact sk_S.lookup hd hp h3 (tgt := ((pc : Int) + q.2).toNat) (by omega) (k i q h1 h2)
  · exact sk_S.lookup hd hp h3 (tgt := ((pc : Int) + dflt).toNat) (by omega) (k0 h1)
end SPEC14
end
section
section M14
set_option maxRecDepth 100000 in
set_option maxHeartbeats 4000000 in
theorem cM_begins {l : Launch} {E : sk_V} {d : Nat} {h : sk_M} {b : Int32} {n : Nat} (hn : h 54 18 = nI n) (h30 : n < 30) : sk_K l E (d + 0) MX8_begins [.ref 54, .int b] h (fun r h1 => sk_o [54, 66] h h1 ∧ h1 54 = upd (h 54) 18 (nI (n + 1)) ∧ h1 66 = upd (h 66) n b ∧ none = r) := by
  refine sk_K.of (by decide +kernel) (Nat.le_of_ble_eq_true rfl) ?_
  show sk_S l E (d + 0) _ 0 [some (.ref 54), some (.int b)] [] h _
  refine sk_S.aload_n (i := 0) (dd DX8_begins 0 rfl) rfl rfl ?_
  refine sk_S.geti (dd DX8_begins 1 rfl) rfl fX8_206 se_54 (by decide) rfl ?_
  refine sk_S.bipush (v := 30) (dd DX8_begins 2 rfl) (by decide) ?_
  refine sk_S.icmp_ge (tgt := 29) (dd DX8_begins 3 rfl) (by decide) (fun c6 => absurd c6 (by rw [hn]; exact nI_ge (b := 30) h30 (by decide))) (fun c6 => ?_)
  refine sk_S.aload_n (i := 0) (dd DX8_begins 4 rfl) rfl rfl ?_
  refine sk_S.getr (dd DX8_begins 5 rfl) rfl fX8_43 se_54 (by decide) rfl ?_
  refine sk_S.aload_n (i := 0) (dd DX8_begins 6 rfl) rfl rfl ?_
  refine sk_S.geti (dd DX8_begins 7 rfl) rfl fX8_206 se_54 (by decide) rfl ?_
  refine sk_S.iload_n (i := 1) (dd DX8_begins 8 rfl) rfl rfl ?_
  refine sk_S.iast (dd DX8_begins 9 rfl) se_66 (sk_ix_nI (k := n) hn (by omega) (by decide)) ?_
  refine sk_S.aload_n (i := 0) (dd DX8_begins 10 rfl) rfl rfl ?_
  refine sk_S.dup (dd DX8_begins 11 rfl) rfl ?_
  refine sk_S.geti (dd DX8_begins 12 rfl) rfl fX8_206 se_54 (by decide) rfl ?_
  refine sk_S.iconst (v := 1) (dd DX8_begins 13 rfl) (by decide) ?_
  refine sk_S.iadd (dd DX8_begins 14 rfl) ?_
  refine sk_S.putf (dd DX8_begins 15 rfl) rfl pX8_206 se_54 (by decide) rfl rfl rfl ?_
  refine sk_S.vret (dd DX8_begins 16 rfl) rfl ?_
  refine ⟨((sk_o.rf (h := h)).u (by decide)).u (by decide), ?_, ?_, rfl⟩
  · rw [sk_u, sk_r_eq, nI_succ, ← hn]; rfl
  · rw [sk_u, sk_r_ne _ _ (by decide), sk_u, sk_r_eq]
set_option maxRecDepth 100000 in
set_option maxHeartbeats 4000000 in
theorem cM_plainCalls {l : Launch} {E : sk_V} {d : Nat} {h : sk_M} {n t : Nat} {x : Int32} (hn : h 54 18 = nI n) (h30 : n ≤ 22) : sk_K l E (d + 1) MX8_plainCalls [.ref 54, .int (nI t), .int x] h (fun r h1 => sk_o [54, 66] h h1 ∧ h1 54 = upd (h 54) 18 (nI (n + ([10]).length)) ∧ h1 66 = appT (h 66) n ([10]) ∧ some (.int (x + nI t)) = r) := by
  refine sk_K.of (by decide +kernel) (Nat.le_of_ble_eq_true rfl) ?_
  show sk_S l E (d + 1) _ 0 [some (.ref 54), some (.int (nI t)), some (.int x)] [] h _
  refine sk_S.aload_n (i := 0) (dd DX8_plainCalls 0 rfl) rfl rfl ?_
  refine sk_S.bipush (v := 10) (dd DX8_plainCalls 1 rfl) (by decide) ?_
  refine sk_S.callV (dd DX8_plainCalls 2 rfl) rfl kX8_209 (cM_begins hn (by omega)) se_54 (by decide) rfl rfl rfl rfl (Nat.le_of_ble_eq_true rfl) (fun r3 h3 q3 => ?_)
  obtain ⟨o1, a1, b1, rfl⟩ := q3
  have n1 : h3 54 18 = nI (n + 1) := by rw [a1, upd_eq]
  have e1 : h3 55 = h 55 := o1 55 (by decide)
  show sk_S _ _ _ _ 6 _ _ _ _
  refine sk_S.iload_n (i := 2) (dd DX8_plainCalls 3 rfl) rfl rfl ?_
  refine sk_S.iload_n (i := 1) (dd DX8_plainCalls 4 rfl) rfl rfl ?_
  refine sk_S.iadd (dd DX8_plainCalls 5 rfl) ?_
  refine sk_S.iret (dd DX8_plainCalls 6 rfl) rfl rfl ?_
  exact ⟨o1, a1, b1, rfl⟩
set_option maxRecDepth 100000 in
set_option maxHeartbeats 4000000 in
theorem cM_smackCalls {l : Launch} {E : sk_V} {d : Nat} {h : sk_M} {n t : Nat} {x : Int32} (hn : h 54 18 = nI n) (h30 : n ≤ 21) : sk_K l E (d + 2) MX8_smackCalls [.ref 54, .int (nI t), .int x] h (fun r h1 => sk_o [54, 66] h h1 ∧ h1 54 = upd (h 54) 18 (nI (n + ([20, 10]).length)) ∧ h1 66 = appT (h 66) n ([20, 10]) ∧ some (.int (x + nI t - 4)) = r) := by
  refine sk_K.of (by decide +kernel) (Nat.le_of_ble_eq_true rfl) ?_
  show sk_S l E (d + 2) _ 0 [some (.ref 54), some (.int (nI t)), some (.int x)] [] h _
  refine sk_S.aload_n (i := 0) (dd DX8_smackCalls 0 rfl) rfl rfl ?_
  refine sk_S.bipush (v := 20) (dd DX8_smackCalls 1 rfl) (by decide) ?_
  refine sk_S.callV (dd DX8_smackCalls 2 rfl) rfl kX8_209 (cM_begins hn (by omega)) se_54 (by decide) rfl rfl rfl rfl (Nat.le_of_ble_eq_true rfl) (fun r3 h3 q3 => ?_)
  obtain ⟨o1, a1, b1, rfl⟩ := q3
  have n1 : h3 54 18 = nI (n + 1) := by rw [a1, upd_eq]
  have e1 : h3 55 = h 55 := o1 55 (by decide)
  show sk_S _ _ _ _ 6 _ _ _ _
  refine sk_S.aload_n (i := 0) (dd DX8_smackCalls 3 rfl) rfl rfl ?_
  refine sk_S.iload_n (i := 1) (dd DX8_smackCalls 4 rfl) rfl rfl ?_
  refine sk_S.iload_n (i := 2) (dd DX8_smackCalls 5 rfl) rfl rfl ?_
  refine sk_S.callV (dd DX8_smackCalls 6 rfl) rfl kX8_212 (cM_plainCalls n1 (by omega)) se_54 (by decide) rfl rfl rfl rfl (Nat.le_of_ble_eq_true rfl) (fun r9 h9 q9 => ?_)
  obtain ⟨o2, a2, b2, rfl⟩ := q9
  show sk_S _ _ _ _ _ _ (.int _ :: _) _ _
  refine sk_S.iconst (v := 4) (dd DX8_smackCalls 7 rfl) (by decide) ?_
  refine sk_S.isub (dd DX8_smackCalls 8 rfl) ?_
  refine sk_S.iret (dd DX8_smackCalls 9 rfl) rfl rfl ?_
  refine ⟨o1.tr o2, ?_, ?_, ?_⟩
  · rw [a2, a1, upd_upd]
    first | done | rfl | (congr 2; simp only [List.length_cons]; omega)
  · rw [b2, b1]
    rfl
  · rfl
set_option maxRecDepth 100000 in
set_option maxHeartbeats 4000000 in
theorem cM_calls {l : Launch} {E : sk_V} {d : Nat} {h : sk_M} {ρ : Nat → Int32} {n t : Nat} {x : Int32} (ht : t < 6) (hρ : h 55 = ρ) (hn : h 54 18 = nI n) (h30 : n ≤ 20) : sk_K l E (d + 3) MX8_calls [.ref 54, .int (nI t), .int x] h (fun r h1 => sk_o [54, 66] h h1 ∧ h1 54 = upd (h 54) 18 (nI (n + (voCb (ρ (17 + 3 * t))).length)) ∧ h1 66 = appT (h 66) n (voCb (ρ (17 + 3 * t))) ∧ some (.int (voC (ρ (17 + 3 * t)) (nI t) x)) = r) := by
  refine sk_K.of (by decide +kernel) (Nat.le_of_ble_eq_true rfl) ?_
  show sk_S l E (d + 3) _ 0 [some (.ref 54), some (.int (nI t)), some (.int x)] [] h _
  refine sk_S.aload_n (i := 0) (dd DX8_calls 0 rfl) rfl rfl ?_
  refine sk_S.iload_n (i := 1) (dd DX8_calls 1 rfl) rfl rfl ?_
  refine sk_S.iconst (v := 0) (dd DX8_calls 2 rfl) (by decide) ?_
  refine sk_S.callV (dd DX8_calls 3 rfl) rfl kX8_51 (cM_of (j := t) (w := 0) (by omega)) se_54 (by decide) rfl rfl rfl rfl (Nat.le_of_ble_eq_true rfl) (fun r3 h3 q3 => ?_)
  obtain ⟨rfl, rfl⟩ := q3
  show sk_S _ _ _ _ _ _ (.int _ :: _) _ _
  refine sk_S.lookN (dd DX8_calls 4 rfl) (by decide) (by decide) (by decide) (fun i6 q6 w6 e6 => ?_) (fun e6 => ?_)
  · rcases i6 with _ | _ | _ | i6
    · obtain rfl : (1, 34) = q6 := Option.some.inj w6
      show sk_S _ _ _ _ 40 _ _ _ _
      replace e6 : _ = (1 : Int32) := e6
      refine sk_S.aload_n (i := 0) (dd DX8_calls 5 rfl) rfl rfl ?_
      refine sk_S.iload_n (i := 1) (dd DX8_calls 6 rfl) rfl rfl ?_
      refine sk_S.iload_n (i := 2) (dd DX8_calls 7 rfl) rfl rfl ?_
      refine sk_S.callV (dd DX8_calls 8 rfl) rfl kX8_215 (cM_smackCalls hn (by omega)) se_54 (by decide) rfl rfl rfl rfl (Nat.le_of_ble_eq_true rfl) (fun r43 h43 q43 => ?_)
      obtain ⟨o2, a2, b2, rfl⟩ := q43
      show sk_S _ _ _ _ _ _ (.int _ :: _) _ _
      refine sk_S.iret (dd DX8_calls 9 rfl) rfl rfl ?_
      have kq : ρ (17 + 3 * t) = 1 := by rw [← hρ]; exact e6
      unfold voC voCb
      rw [kq]
      exact ⟨o2, a2, b2, rfl⟩
    · obtain rfl : (4, 41) = q6 := Option.some.inj w6
      show sk_S _ _ _ _ 47 _ _ _ _
      replace e6 : _ = (4 : Int32) := e6
      refine sk_S.aload_n (i := 0) (dd DX8_calls 10 rfl) rfl rfl ?_
      refine sk_S.bipush (v := 50) (dd DX8_calls 11 rfl) (by decide) ?_
      refine sk_S.callV (dd DX8_calls 12 rfl) rfl kX8_209 (cM_begins hn (by omega)) se_54 (by decide) rfl rfl rfl rfl (Nat.le_of_ble_eq_true rfl) (fun r50 h50 q50 => ?_)
      obtain ⟨o1, a1, b1, rfl⟩ := q50
      have n1 : h50 54 18 = nI (n + 1) := by rw [a1, upd_eq]
      have e1 : h50 55 = h 55 := o1 55 (by decide)
      show sk_S _ _ _ _ 53 _ _ _ _
      refine sk_S.aload_n (i := 0) (dd DX8_calls 13 rfl) rfl rfl ?_
      refine sk_S.iload_n (i := 1) (dd DX8_calls 14 rfl) rfl rfl ?_
      refine sk_S.iload_n (i := 2) (dd DX8_calls 15 rfl) rfl rfl ?_
      refine sk_S.callV (dd DX8_calls 16 rfl) rfl kX8_215 (cM_smackCalls n1 (by omega)) se_54 (by decide) rfl rfl rfl rfl (Nat.le_of_ble_eq_true rfl) (fun r56 h56 q56 => ?_)
      obtain ⟨o2, a2, b2, rfl⟩ := q56
      show sk_S _ _ _ _ _ _ (.int _ :: _) _ _
      refine sk_S.iconst (v := 3) (dd DX8_calls 17 rfl) (by decide) ?_
      refine sk_S.imul (dd DX8_calls 18 rfl) ?_
      refine sk_S.iret (dd DX8_calls 19 rfl) rfl rfl ?_
      have kq : ρ (17 + 3 * t) = 4 := by rw [← hρ]; exact e6
      unfold voC voCb
      rw [kq]
      refine ⟨o1.tr o2, ?_, ?_, ?_⟩
      · rw [a2, a1, upd_upd]
        first | done | rfl | (congr 2; simp only [List.length_cons]; omega)
      · rw [b2, b1]
        rfl
      · rfl
    · obtain rfl : (6, 56) = q6 := Option.some.inj w6
      show sk_S _ _ _ _ 62 _ _ _ _
      replace e6 : _ = (6 : Int32) := e6
      refine sk_S.aload_n (i := 0) (dd DX8_calls 20 rfl) rfl rfl ?_
      refine sk_S.bipush (v := 70) (dd DX8_calls 21 rfl) (by decide) ?_
      refine sk_S.callV (dd DX8_calls 22 rfl) rfl kX8_209 (cM_begins hn (by omega)) se_54 (by decide) rfl rfl rfl rfl (Nat.le_of_ble_eq_true rfl) (fun r65 h65 q65 => ?_)
      obtain ⟨o1, a1, b1, rfl⟩ := q65
      have n1 : h65 54 18 = nI (n + 1) := by rw [a1, upd_eq]
      have e1 : h65 55 = h 55 := o1 55 (by decide)
      show sk_S _ _ _ _ 68 _ _ _ _
      refine sk_S.bipush (v := 9) (dd DX8_calls 23 rfl) (by decide) ?_
      refine sk_S.iret (dd DX8_calls 24 rfl) rfl rfl ?_
      have kq : ρ (17 + 3 * t) = 6 := by rw [← hρ]; exact e6
      unfold voC voCb
      rw [kq]
      exact ⟨o1, a1, b1, rfl⟩
    · exact absurd w6 (by simp)
  · show sk_S _ _ _ _ 71 _ _ _ _
    have e6_ := (⟨e6 (1, 34) (by simp), e6 (4, 41) (by simp), e6 (6, 56) (by simp)⟩ : ¬ _ = (1 : Int32) ∧ ¬ _ = (4 : Int32) ∧ ¬ _ = (6 : Int32))
    refine sk_S.aload_n (i := 0) (dd DX8_calls 25 rfl) rfl rfl ?_
    refine sk_S.iload_n (i := 1) (dd DX8_calls 26 rfl) rfl rfl ?_
    refine sk_S.iload_n (i := 2) (dd DX8_calls 27 rfl) rfl rfl ?_
    refine sk_S.callV (dd DX8_calls 28 rfl) rfl kX8_212 (cM_plainCalls hn (by omega)) se_54 (by decide) rfl rfl rfl rfl (Nat.le_of_ble_eq_true rfl) (fun r74 h74 q74 => ?_)
    obtain ⟨o2, a2, b2, rfl⟩ := q74
    show sk_S _ _ _ _ _ _ (.int _ :: _) _ _
    refine sk_S.iret (dd DX8_calls 29 rfl) rfl rfl ?_
    have k1 : ¬ ρ (17 + 3 * t) = 1 := fun q => e6_.1 (by rw [hρ]; exact q)
    have k4 : ¬ ρ (17 + 3 * t) = 4 := fun q => e6_.2.1 (by rw [hρ]; exact q)
    have k6 : ¬ ρ (17 + 3 * t) = 6 := fun q => e6_.2.2 (by rw [hρ]; exact q)
    unfold voC voCb
    rw [if_neg k1, if_neg k4, if_neg k6, if_neg k1, if_neg k4, if_neg k6]
    exact ⟨o2, a2, b2, rfl⟩
set_option maxRecDepth 100000 in
set_option maxHeartbeats 4000000 in
theorem cM_plainHauls {l : Launch} {E : sk_V} {d : Nat} {h : sk_M} {ρ : Nat → Int32} {n t : Nat} {x : Int32} (ht : t < 6) (hρ : h 55 = ρ) (hn : h 54 18 = nI n) (h30 : n ≤ 19) : sk_K l E (d + 4) MX8_plainHauls [.ref 54, .int (nI t), .int x] h (fun r h1 => sk_o [54, 66] h h1 ∧ h1 54 = upd (h 54) 18 (nI (n + (voPb (ρ (17 + 3 * t))).length)) ∧ h1 66 = appT (h 66) n (voPb (ρ (17 + 3 * t))) ∧ some (.int (voP (ρ (17 + 3 * t)) (nI t) x)) = r) := by
  refine sk_K.of (by decide +kernel) (Nat.le_of_ble_eq_true rfl) ?_
  show sk_S l E (d + 4) _ 0 [some (.ref 54), some (.int (nI t)), some (.int x)] [] h _
  refine sk_S.aload_n (i := 0) (dd DX8_plainHauls 0 rfl) rfl rfl ?_
  refine sk_S.bipush (v := 11) (dd DX8_plainHauls 1 rfl) (by decide) ?_
  refine sk_S.callV (dd DX8_plainHauls 2 rfl) rfl kX8_209 (cM_begins hn (by omega)) se_54 (by decide) rfl rfl rfl rfl (Nat.le_of_ble_eq_true rfl) (fun r3 h3 q3 => ?_)
  obtain ⟨o1, a1, b1, rfl⟩ := q3
  have n1 : h3 54 18 = nI (n + 1) := by rw [a1, upd_eq]
  have e1 : h3 55 = h 55 := o1 55 (by decide)
  show sk_S _ _ _ _ 6 _ _ _ _
  refine sk_S.aload_n (i := 0) (dd DX8_plainHauls 3 rfl) rfl rfl ?_
  refine sk_S.iload_n (i := 1) (dd DX8_plainHauls 4 rfl) rfl rfl ?_
  refine sk_S.iload_n (i := 2) (dd DX8_plainHauls 5 rfl) rfl rfl ?_
  refine sk_S.callV (dd DX8_plainHauls 6 rfl) rfl kX8_218 (cM_calls ht (e1.trans hρ) n1 (by omega)) se_54 (by decide) rfl rfl rfl rfl (Nat.le_of_ble_eq_true rfl) (fun r9 h9 q9 => ?_)
  obtain ⟨o2, a2, b2, rfl⟩ := q9
  show sk_S _ _ _ _ _ _ (.int _ :: _) _ _
  refine sk_S.iconst (v := 2) (dd DX8_plainHauls 7 rfl) (by decide) ?_
  refine sk_S.imul (dd DX8_plainHauls 8 rfl) ?_
  refine sk_S.iret (dd DX8_plainHauls 9 rfl) rfl rfl ?_
  refine ⟨o1.tr o2, ?_, ?_, ?_⟩
  · rw [a2, a1, upd_upd]
    first | done | rfl | (congr 2; simp only [voPb, List.length_cons]; omega)
  · rw [b2, b1]
    rfl
  · rfl
set_option maxRecDepth 100000 in
set_option maxHeartbeats 4000000 in
theorem cM_skiffHauls {l : Launch} {E : sk_V} {d : Nat} {h : sk_M} {ρ : Nat → Int32} {n t : Nat} {x : Int32} (ht : t < 6) (hρ : h 55 = ρ) (hn : h 54 18 = nI n) (h30 : n ≤ 18) : sk_K l E (d + 5) MX8_skiffHauls [.ref 54, .int (nI t), .int x] h (fun r h1 => sk_o [54, 66] h h1 ∧ h1 54 = upd (h 54) 18 (nI (n + (30 :: voPb (ρ (17 + 3 * t))).length)) ∧ h1 66 = appT (h 66) n (30 :: voPb (ρ (17 + 3 * t))) ∧ some (.int (-(voP (ρ (17 + 3 * t)) (nI t) x))) = r) := by
  refine sk_K.of (by decide +kernel) (Nat.le_of_ble_eq_true rfl) ?_
  show sk_S l E (d + 5) _ 0 [some (.ref 54), some (.int (nI t)), some (.int x)] [] h _
  refine sk_S.aload_n (i := 0) (dd DX8_skiffHauls 0 rfl) rfl rfl ?_
  refine sk_S.bipush (v := 30) (dd DX8_skiffHauls 1 rfl) (by decide) ?_
  refine sk_S.callV (dd DX8_skiffHauls 2 rfl) rfl kX8_209 (cM_begins hn (by omega)) se_54 (by decide) rfl rfl rfl rfl (Nat.le_of_ble_eq_true rfl) (fun r3 h3 q3 => ?_)
  obtain ⟨o1, a1, b1, rfl⟩ := q3
  have n1 : h3 54 18 = nI (n + 1) := by rw [a1, upd_eq]
  have e1 : h3 55 = h 55 := o1 55 (by decide)
  show sk_S _ _ _ _ 6 _ _ _ _
  refine sk_S.aload_n (i := 0) (dd DX8_skiffHauls 3 rfl) rfl rfl ?_
  refine sk_S.iload_n (i := 1) (dd DX8_skiffHauls 4 rfl) rfl rfl ?_
  refine sk_S.iload_n (i := 2) (dd DX8_skiffHauls 5 rfl) rfl rfl ?_
  refine sk_S.callV (dd DX8_skiffHauls 6 rfl) rfl kX8_221 (cM_plainHauls ht (e1.trans hρ) n1 (by omega)) se_54 (by decide) rfl rfl rfl rfl (Nat.le_of_ble_eq_true rfl) (fun r9 h9 q9 => ?_)
  obtain ⟨o2, a2, b2, rfl⟩ := q9
  show sk_S _ _ _ _ _ _ (.int _ :: _) _ _
  refine sk_S.ineg (dd DX8_skiffHauls 7 rfl) ?_
  refine sk_S.iret (dd DX8_skiffHauls 8 rfl) rfl rfl ?_
  refine ⟨o1.tr o2, ?_, ?_, ?_⟩
  · rw [a2, a1, upd_upd]
    first | done | rfl | (congr 2; simp only [List.length_cons]; omega)
  · rw [b2, b1]
    rfl
  · rfl
set_option maxRecDepth 100000 in
set_option maxHeartbeats 4000000 in
theorem cM_hauls {l : Launch} {E : sk_V} {d : Nat} {h : sk_M} {ρ : Nat → Int32} {n t : Nat} {x : Int32} (ht : t < 6) (hρ : h 55 = ρ) (hn : h 54 18 = nI n) (h30 : n ≤ 17) : sk_K l E (d + 6) MX8_hauls [.ref 54, .int (nI t), .int x] h (fun r h1 => sk_o [54, 66] h h1 ∧ h1 54 = upd (h 54) 18 (nI (n + (voHb (ρ (17 + 3 * t))).length)) ∧ h1 66 = appT (h 66) n (voHb (ρ (17 + 3 * t))) ∧ some (.int (voH (ρ (17 + 3 * t)) (ρ (17 + 3 * t + 1)) (nI t) x)) = r) := by
  refine sk_K.of (by decide +kernel) (Nat.le_of_ble_eq_true rfl) ?_
  show sk_S l E (d + 6) _ 0 [some (.ref 54), some (.int (nI t)), some (.int x)] [] h _
  refine sk_S.aload_n (i := 0) (dd DX8_hauls 0 rfl) rfl rfl ?_
  refine sk_S.iload_n (i := 1) (dd DX8_hauls 1 rfl) rfl rfl ?_
  refine sk_S.iconst (v := 0) (dd DX8_hauls 2 rfl) (by decide) ?_
  refine sk_S.callV (dd DX8_hauls 3 rfl) rfl kX8_51 (cM_of (j := t) (w := 0) (by omega)) se_54 (by decide) rfl rfl rfl rfl (Nat.le_of_ble_eq_true rfl) (fun r3 h3 q3 => ?_)
  obtain ⟨rfl, rfl⟩ := q3
  show sk_S _ _ _ _ _ _ (.int _ :: _) _ _
  refine sk_S.tabL (dd DX8_hauls 4 rfl) rfl (by decide) (by decide) (by decide) (fun j6 hj6 e6 => ?_) (fun e6 => ?_)
  · rcases j6 with _ | _ | _ | _ | _ | j6
    · show sk_S _ _ _ _ 40 _ _ _ _
      replace e6 : _ = (2 : Int32) := e6
      refine sk_S.aload_n (i := 0) (dd DX8_hauls 5 rfl) rfl rfl ?_
      refine sk_S.iload_n (i := 1) (dd DX8_hauls 6 rfl) rfl rfl ?_
      refine sk_S.iload_n (i := 2) (dd DX8_hauls 7 rfl) rfl rfl ?_
      refine sk_S.callV (dd DX8_hauls 8 rfl) rfl kX8_224 (cM_skiffHauls ht hρ hn (by omega)) se_54 (by decide) rfl rfl rfl rfl (Nat.le_of_ble_eq_true rfl) (fun r43 h43 q43 => ?_)
      obtain ⟨o2, a2, b2, rfl⟩ := q43
      show sk_S _ _ _ _ _ _ (.int _ :: _) _ _
      refine sk_S.iret (dd DX8_hauls 9 rfl) rfl rfl ?_
      have kq : ρ (17 + 3 * t) = 2 := by rw [← hρ]; exact e6
      unfold voH voHb
      rw [if_pos kq, if_pos kq]
      exact ⟨o2, a2, b2, rfl⟩
    · show sk_S _ _ _ _ 82 _ _ _ _
      replace e6 : _ = (3 : Int32) := e6
      refine sk_S.aload_n (i := 0) (dd DX8_hauls 33 rfl) rfl rfl ?_
      refine sk_S.iload_n (i := 1) (dd DX8_hauls 34 rfl) rfl rfl ?_
      refine sk_S.iload_n (i := 2) (dd DX8_hauls 35 rfl) rfl rfl ?_
      refine sk_S.callV (dd DX8_hauls 36 rfl) rfl kX8_221 (cM_plainHauls ht hρ hn (by omega)) se_54 (by decide) rfl rfl rfl rfl (Nat.le_of_ble_eq_true rfl) (fun r85 h85 q85 => ?_)
      obtain ⟨o2, a2, b2, rfl⟩ := q85
      show sk_S _ _ _ _ _ _ (.int _ :: _) _ _
      refine sk_S.iret (dd DX8_hauls 37 rfl) rfl rfl ?_
      have kq : ρ (17 + 3 * t) = 3 := by rw [← hρ]; exact e6
      have k2 : ¬ ρ (17 + 3 * t) = 2 := by rw [kq]; decide
      have k5 : ¬ ρ (17 + 3 * t) = 5 := by rw [kq]; decide
      have k6 : ¬ ρ (17 + 3 * t) = 6 := by rw [kq]; decide
      unfold voH voHb
      rw [if_neg k2, if_neg k5, if_neg k6, if_neg k2, if_neg k5, if_neg k6]
      exact ⟨o2, a2, b2, rfl⟩
    · show sk_S _ _ _ _ 82 _ _ _ _
      replace e6 : _ = (4 : Int32) := e6
      refine sk_S.aload_n (i := 0) (dd DX8_hauls 33 rfl) rfl rfl ?_
      refine sk_S.iload_n (i := 1) (dd DX8_hauls 34 rfl) rfl rfl ?_
      refine sk_S.iload_n (i := 2) (dd DX8_hauls 35 rfl) rfl rfl ?_
      refine sk_S.callV (dd DX8_hauls 36 rfl) rfl kX8_221 (cM_plainHauls ht hρ hn (by omega)) se_54 (by decide) rfl rfl rfl rfl (Nat.le_of_ble_eq_true rfl) (fun r85 h85 q85 => ?_)
      obtain ⟨o2, a2, b2, rfl⟩ := q85
      show sk_S _ _ _ _ _ _ (.int _ :: _) _ _
      refine sk_S.iret (dd DX8_hauls 37 rfl) rfl rfl ?_
      have kq : ρ (17 + 3 * t) = 4 := by rw [← hρ]; exact e6
      have k2 : ¬ ρ (17 + 3 * t) = 2 := by rw [kq]; decide
      have k5 : ¬ ρ (17 + 3 * t) = 5 := by rw [kq]; decide
      have k6 : ¬ ρ (17 + 3 * t) = 6 := by rw [kq]; decide
      unfold voH voHb
      rw [if_neg k2, if_neg k5, if_neg k6, if_neg k2, if_neg k5, if_neg k6]
      exact ⟨o2, a2, b2, rfl⟩
    · show sk_S _ _ _ _ 47 _ _ _ _
      replace e6 : _ = (5 : Int32) := e6
      refine sk_S.aload_n (i := 0) (dd DX8_hauls 10 rfl) rfl rfl ?_
      refine sk_S.bipush (v := 60) (dd DX8_hauls 11 rfl) (by decide) ?_
      refine sk_S.callV (dd DX8_hauls 12 rfl) rfl kX8_209 (cM_begins hn (by omega)) se_54 (by decide) rfl rfl rfl rfl (Nat.le_of_ble_eq_true rfl) (fun r50 h50 q50 => ?_)
      obtain ⟨o1, a1, b1, rfl⟩ := q50
      have n1 : h50 54 18 = nI (n + 1) := by rw [a1, upd_eq]
      have e1 : h50 55 = h 55 := o1 55 (by decide)
      show sk_S _ _ _ _ 53 _ _ _ _
      refine sk_S.aload_n (i := 0) (dd DX8_hauls 13 rfl) rfl rfl ?_
      refine sk_S.iload_n (i := 1) (dd DX8_hauls 14 rfl) rfl rfl ?_
      refine sk_S.iload_n (i := 2) (dd DX8_hauls 15 rfl) rfl rfl ?_
      refine sk_S.iconst (v := 1) (dd DX8_hauls 16 rfl) (by decide) ?_
      refine sk_S.iadd (dd DX8_hauls 17 rfl) ?_
      refine sk_S.callV (dd DX8_hauls 18 rfl) rfl kX8_224 (cM_skiffHauls ht (e1.trans hρ) n1 (by omega)) se_54 (by decide) rfl rfl rfl rfl (Nat.le_of_ble_eq_true rfl) (fun r58 h58 q58 => ?_)
      obtain ⟨o2, a2, b2, rfl⟩ := q58
      show sk_S _ _ _ _ _ _ (.int _ :: _) _ _
      refine sk_S.iret (dd DX8_hauls 19 rfl) rfl rfl ?_
      have kq : ρ (17 + 3 * t) = 5 := by rw [← hρ]; exact e6
      have k2 : ¬ ρ (17 + 3 * t) = 2 := by rw [kq]; decide
      unfold voH voHb
      rw [if_neg k2, if_pos kq, if_neg k2, if_pos kq]
      refine ⟨o1.tr o2, ?_, ?_, ?_⟩
      · rw [a2, a1, upd_upd]
        first | done | rfl | (congr 2; simp only [List.length_cons]; omega)
      · rw [b2, b1]
        rfl
      · rfl
    · show sk_S _ _ _ _ 62 _ _ _ _
      replace e6 : _ = (6 : Int32) := e6
      refine sk_S.aload_n (i := 0) (dd DX8_hauls 20 rfl) rfl rfl ?_
      refine sk_S.bipush (v := 71) (dd DX8_hauls 21 rfl) (by decide) ?_
      refine sk_S.callV (dd DX8_hauls 22 rfl) rfl kX8_209 (cM_begins hn (by omega)) se_54 (by decide) rfl rfl rfl rfl (Nat.le_of_ble_eq_true rfl) (fun r65 h65 q65 => ?_)
      obtain ⟨o1, a1, b1, rfl⟩ := q65
      have n1 : h65 54 18 = nI (n + 1) := by rw [a1, upd_eq]
      have e1 : h65 55 = h 55 := o1 55 (by decide)
      show sk_S _ _ _ _ 68 _ _ _ _
      refine sk_S.aload_n (i := 0) (dd DX8_hauls 23 rfl) rfl rfl ?_
      refine sk_S.iload_n (i := 1) (dd DX8_hauls 24 rfl) rfl rfl ?_
      refine sk_S.iload_n (i := 2) (dd DX8_hauls 25 rfl) rfl rfl ?_
      refine sk_S.callV (dd DX8_hauls 26 rfl) rfl kX8_221 (cM_plainHauls ht (e1.trans hρ) n1 (by omega)) se_54 (by decide) rfl rfl rfl rfl (Nat.le_of_ble_eq_true rfl) (fun r71 h71 q71 => ?_)
      obtain ⟨o2, a2, b2, rfl⟩ := q71
      show sk_S _ _ _ _ _ _ (.int _ :: _) _ _
      refine sk_S.aload_n (i := 0) (dd DX8_hauls 27 rfl) rfl rfl ?_
      refine sk_S.iload_n (i := 1) (dd DX8_hauls 28 rfl) rfl rfl ?_
      refine sk_S.iconst (v := 1) (dd DX8_hauls 29 rfl) (by decide) ?_
      refine sk_S.callV (dd DX8_hauls 30 rfl) rfl kX8_51 (cM_of (j := t) (w := 1) (by omega)) se_54 (by decide) rfl rfl rfl rfl (Nat.le_of_ble_eq_true rfl) (fun r77 h77 q77 => ?_)
      obtain ⟨rfl, rfl⟩ := q77
      show sk_S _ _ _ _ _ _ (.int _ :: _) _ _
      refine sk_S.iadd (dd DX8_hauls 31 rfl) ?_
      refine sk_S.iret (dd DX8_hauls 32 rfl) rfl rfl ?_
      have kq : ρ (17 + 3 * t) = 6 := by rw [← hρ]; exact e6
      have k2 : ¬ ρ (17 + 3 * t) = 2 := by rw [kq]; decide
      have k5 : ¬ ρ (17 + 3 * t) = 5 := by rw [kq]; decide
      unfold voH voHb
      rw [if_neg k2, if_neg k5, if_pos kq, if_neg k2, if_neg k5, if_pos kq]
      refine ⟨o1.tr o2, ?_, ?_, ?_⟩
      · rw [a2, a1, upd_upd]
        first | done | rfl | (congr 2; simp only [List.length_cons]; omega)
      · rw [b2, b1]
        rfl
      · rw [o2 55 (by decide), e1, hρ]
    · exact absurd hj6 (by simp)
  · show sk_S _ _ _ _ 82 _ _ _ _
    have e6_ := (⟨e6 0 (by decide), e6 1 (by decide), e6 2 (by decide), e6 3 (by decide), e6 4 (by decide)⟩ : ¬ _ = (2 : Int32) ∧ ¬ _ = (3 : Int32) ∧ ¬ _ = (4 : Int32) ∧ ¬ _ = (5 : Int32) ∧ ¬ _ = (6 : Int32))
    refine sk_S.aload_n (i := 0) (dd DX8_hauls 33 rfl) rfl rfl ?_
    refine sk_S.iload_n (i := 1) (dd DX8_hauls 34 rfl) rfl rfl ?_
    refine sk_S.iload_n (i := 2) (dd DX8_hauls 35 rfl) rfl rfl ?_
    refine sk_S.callV (dd DX8_hauls 36 rfl) rfl kX8_221 (cM_plainHauls ht hρ hn (by omega)) se_54 (by decide) rfl rfl rfl rfl (Nat.le_of_ble_eq_true rfl) (fun r85 h85 q85 => ?_)
    obtain ⟨o2, a2, b2, rfl⟩ := q85
    show sk_S _ _ _ _ _ _ (.int _ :: _) _ _
    refine sk_S.iret (dd DX8_hauls 37 rfl) rfl rfl ?_
    have k2 : ¬ ρ (17 + 3 * t) = 2 := fun q => e6_.1 (by rw [hρ]; exact q)
    have k5 : ¬ ρ (17 + 3 * t) = 5 := fun q => e6_.2.2.2.1 (by rw [hρ]; exact q)
    have k6 : ¬ ρ (17 + 3 * t) = 6 := fun q => e6_.2.2.2.2 (by rw [hρ]; exact q)
    unfold voH voHb
    rw [if_neg k2, if_neg k5, if_neg k6, if_neg k2, if_neg k5, if_neg k6]
    exact ⟨o2, a2, b2, rfl⟩
set_option maxRecDepth 100000 in
set_option maxHeartbeats 4000000 in
theorem cM_plainLets {l : Launch} {E : sk_V} {d : Nat} {h : sk_M} {ρ : Nat → Int32} {n t : Nat} {x : Int32} (ht : t < 6) (hρ : h 55 = ρ) (hn : h 54 18 = nI n) (h30 : n ≤ 16) : sk_K l E (d + 7) MX8_plainLets [.ref 54, .int (nI t), .int x] h (fun r h1 => sk_o [54, 66] h h1 ∧ h1 54 = upd (h 54) 18 (nI (n + (12 :: voHb (ρ (17 + 3 * t))).length)) ∧ h1 66 = appT (h 66) n (12 :: voHb (ρ (17 + 3 * t))) ∧ some (.int (voH (ρ (17 + 3 * t)) (ρ (17 + 3 * t + 1)) (nI t) x - (ρ (17 + 3 * t + 1)))) = r) := by
  refine sk_K.of (by decide +kernel) (Nat.le_of_ble_eq_true rfl) ?_
  show sk_S l E (d + 7) _ 0 [some (.ref 54), some (.int (nI t)), some (.int x)] [] h _
  refine sk_S.aload_n (i := 0) (dd DX8_plainLets 0 rfl) rfl rfl ?_
  refine sk_S.bipush (v := 12) (dd DX8_plainLets 1 rfl) (by decide) ?_
  refine sk_S.callV (dd DX8_plainLets 2 rfl) rfl kX8_209 (cM_begins hn (by omega)) se_54 (by decide) rfl rfl rfl rfl (Nat.le_of_ble_eq_true rfl) (fun r3 h3 q3 => ?_)
  obtain ⟨o1, a1, b1, rfl⟩ := q3
  have n1 : h3 54 18 = nI (n + 1) := by rw [a1, upd_eq]
  have e1 : h3 55 = h 55 := o1 55 (by decide)
  show sk_S _ _ _ _ 6 _ _ _ _
  refine sk_S.aload_n (i := 0) (dd DX8_plainLets 3 rfl) rfl rfl ?_
  refine sk_S.iload_n (i := 1) (dd DX8_plainLets 4 rfl) rfl rfl ?_
  refine sk_S.iload_n (i := 2) (dd DX8_plainLets 5 rfl) rfl rfl ?_
  refine sk_S.callV (dd DX8_plainLets 6 rfl) rfl kX8_227 (cM_hauls ht (e1.trans hρ) n1 (by omega)) se_54 (by decide) rfl rfl rfl rfl (Nat.le_of_ble_eq_true rfl) (fun r9 h9 q9 => ?_)
  obtain ⟨o2, a2, b2, rfl⟩ := q9
  show sk_S _ _ _ _ _ _ (.int _ :: _) _ _
  refine sk_S.aload_n (i := 0) (dd DX8_plainLets 7 rfl) rfl rfl ?_
  refine sk_S.iload_n (i := 1) (dd DX8_plainLets 8 rfl) rfl rfl ?_
  refine sk_S.iconst (v := 1) (dd DX8_plainLets 9 rfl) (by decide) ?_
  refine sk_S.callV (dd DX8_plainLets 10 rfl) rfl kX8_51 (cM_of (j := t) (w := 1) (by omega)) se_54 (by decide) rfl rfl rfl rfl (Nat.le_of_ble_eq_true rfl) (fun r15 h15 q15 => ?_)
  obtain ⟨rfl, rfl⟩ := q15
  show sk_S _ _ _ _ _ _ (.int _ :: _) _ _
  refine sk_S.isub (dd DX8_plainLets 11 rfl) ?_
  refine sk_S.iret (dd DX8_plainLets 12 rfl) rfl rfl ?_
  refine ⟨o1.tr o2, ?_, ?_, ?_⟩
  · rw [a2, a1, upd_upd]
    first | done | rfl | (congr 2; simp only [List.length_cons]; omega)
  · rw [b2, b1]
    rfl
  · rw [o2 55 (by decide), e1, hρ]
set_option maxRecDepth 100000 in
set_option maxHeartbeats 4000000 in
theorem cM_letsBy {l : Launch} {E : sk_V} {d : Nat} {h : sk_M} {ρ : Nat → Int32} {n t : Nat} {x : Int32} (ht : t < 6) (hρ : h 55 = ρ) (hn : h 54 18 = nI n) (h30 : n ≤ 15) : sk_K l E (d + 8) MX8_letsBy [.ref 54, .int (nI t), .int x] h (fun r h1 => sk_o [54, 66] h h1 ∧ h1 54 = upd (h 54) 18 (nI (n + (voLb (ρ (17 + 3 * t))).length)) ∧ h1 66 = appT (h 66) n (voLb (ρ (17 + 3 * t))) ∧ some (.int (voL (ρ (17 + 3 * t)) (ρ (17 + 3 * t + 1)) (nI t) x)) = r) := by
  refine sk_K.of (by decide +kernel) (Nat.le_of_ble_eq_true rfl) ?_
  show sk_S l E (d + 8) _ 0 [some (.ref 54), some (.int (nI t)), some (.int x)] [] h _
  refine sk_S.aload_n (i := 0) (dd DX8_letsBy 0 rfl) rfl rfl ?_
  refine sk_S.iload_n (i := 1) (dd DX8_letsBy 1 rfl) rfl rfl ?_
  refine sk_S.iconst (v := 0) (dd DX8_letsBy 2 rfl) (by decide) ?_
  refine sk_S.callV (dd DX8_letsBy 3 rfl) rfl kX8_51 (cM_of (j := t) (w := 0) (by omega)) se_54 (by decide) rfl rfl rfl rfl (Nat.le_of_ble_eq_true rfl) (fun r3 h3 q3 => ?_)
  obtain ⟨rfl, rfl⟩ := q3
  show sk_S _ _ _ _ _ _ (.int _ :: _) _ _
  refine sk_S.lookN (dd DX8_letsBy 4 rfl) (by decide) (by decide) (by decide) (fun i6 q6 w6 e6 => ?_) (fun e6 => ?_)
  · rcases i6 with _ | _ | i6
    · obtain rfl : (3, 26) = q6 := Option.some.inj w6
      show sk_S _ _ _ _ 32 _ _ _ _
      replace e6 : _ = (3 : Int32) := e6
      refine sk_S.aload_n (i := 0) (dd DX8_letsBy 5 rfl) rfl rfl ?_
      refine sk_S.bipush (v := 40) (dd DX8_letsBy 6 rfl) (by decide) ?_
      refine sk_S.callV (dd DX8_letsBy 7 rfl) rfl kX8_209 (cM_begins hn (by omega)) se_54 (by decide) rfl rfl rfl rfl (Nat.le_of_ble_eq_true rfl) (fun r35 h35 q35 => ?_)
      obtain ⟨o1, a1, b1, rfl⟩ := q35
      have n1 : h35 54 18 = nI (n + 1) := by rw [a1, upd_eq]
      have e1 : h35 55 = h 55 := o1 55 (by decide)
      show sk_S _ _ _ _ 38 _ _ _ _
      refine sk_S.aload_n (i := 0) (dd DX8_letsBy 8 rfl) rfl rfl ?_
      refine sk_S.iload_n (i := 1) (dd DX8_letsBy 9 rfl) rfl rfl ?_
      refine sk_S.iload_n (i := 2) (dd DX8_letsBy 10 rfl) rfl rfl ?_
      refine sk_S.iconst (v := 2) (dd DX8_letsBy 11 rfl) (by decide) ?_
      refine sk_S.idiv (dd DX8_letsBy 12 rfl) (by decide) ?_
      refine sk_S.callV (dd DX8_letsBy 13 rfl) rfl kX8_230 (cM_plainLets ht (e1.trans hρ) n1 (by omega)) se_54 (by decide) rfl rfl rfl rfl (Nat.le_of_ble_eq_true rfl) (fun r43 h43 q43 => ?_)
      obtain ⟨o2, a2, b2, rfl⟩ := q43
      show sk_S _ _ _ _ _ _ (.int _ :: _) _ _
      refine sk_S.iret (dd DX8_letsBy 14 rfl) rfl rfl ?_
      have kq : ρ (17 + 3 * t) = 3 := by rw [← hρ]; exact e6
      unfold voL voLb
      rw [if_pos kq, if_pos kq]
      refine ⟨o1.tr o2, ?_, ?_, ?_⟩
      · rw [a2, a1, upd_upd]
        first | done | rfl | (congr 2; simp only [List.length_cons]; omega)
      · rw [b2, b1]
        rfl
      · rfl
    · obtain rfl : (4, 41) = q6 := Option.some.inj w6
      show sk_S _ _ _ _ 47 _ _ _ _
      replace e6 : _ = (4 : Int32) := e6
      refine sk_S.aload_n (i := 0) (dd DX8_letsBy 15 rfl) rfl rfl ?_
      refine sk_S.bipush (v := 51) (dd DX8_letsBy 16 rfl) (by decide) ?_
      refine sk_S.callV (dd DX8_letsBy 17 rfl) rfl kX8_209 (cM_begins hn (by omega)) se_54 (by decide) rfl rfl rfl rfl (Nat.le_of_ble_eq_true rfl) (fun r50 h50 q50 => ?_)
      obtain ⟨o1, a1, b1, rfl⟩ := q50
      have n1 : h50 54 18 = nI (n + 1) := by rw [a1, upd_eq]
      have e1 : h50 55 = h 55 := o1 55 (by decide)
      show sk_S _ _ _ _ 53 _ _ _ _
      refine sk_S.aload_n (i := 0) (dd DX8_letsBy 18 rfl) rfl rfl ?_
      refine sk_S.iload_n (i := 1) (dd DX8_letsBy 19 rfl) rfl rfl ?_
      refine sk_S.iload_n (i := 2) (dd DX8_letsBy 20 rfl) rfl rfl ?_
      refine sk_S.callV (dd DX8_letsBy 21 rfl) rfl kX8_230 (cM_plainLets ht (e1.trans hρ) n1 (by omega)) se_54 (by decide) rfl rfl rfl rfl (Nat.le_of_ble_eq_true rfl) (fun r56 h56 q56 => ?_)
      obtain ⟨o2, a2, b2, rfl⟩ := q56
      show sk_S _ _ _ _ _ _ (.int _ :: _) _ _
      refine sk_S.iload_n (i := 1) (dd DX8_letsBy 22 rfl) rfl rfl ?_
      refine sk_S.ixor (dd DX8_letsBy 23 rfl) ?_
      refine sk_S.iret (dd DX8_letsBy 24 rfl) rfl rfl ?_
      have kq : ρ (17 + 3 * t) = 4 := by rw [← hρ]; exact e6
      have k3 : ¬ ρ (17 + 3 * t) = 3 := by rw [kq]; decide
      unfold voL voLb
      rw [if_neg k3, if_pos kq, if_neg k3, if_pos kq]
      refine ⟨o1.tr o2, ?_, ?_, ?_⟩
      · rw [a2, a1, upd_upd]
        first | done | rfl | (congr 2; simp only [List.length_cons]; omega)
      · rw [b2, b1]
        rfl
      · rfl
    · exact absurd w6 (by simp)
  · show sk_S _ _ _ _ 62 _ _ _ _
    have e6_ := (⟨e6 (3, 26) (by simp), e6 (4, 41) (by simp)⟩ : ¬ _ = (3 : Int32) ∧ ¬ _ = (4 : Int32))
    refine sk_S.aload_n (i := 0) (dd DX8_letsBy 25 rfl) rfl rfl ?_
    refine sk_S.iload_n (i := 1) (dd DX8_letsBy 26 rfl) rfl rfl ?_
    refine sk_S.iload_n (i := 2) (dd DX8_letsBy 27 rfl) rfl rfl ?_
    refine sk_S.callV (dd DX8_letsBy 28 rfl) rfl kX8_230 (cM_plainLets ht hρ hn (by omega)) se_54 (by decide) rfl rfl rfl rfl (Nat.le_of_ble_eq_true rfl) (fun r65 h65 q65 => ?_)
    obtain ⟨o2, a2, b2, rfl⟩ := q65
    show sk_S _ _ _ _ _ _ (.int _ :: _) _ _
    refine sk_S.iret (dd DX8_letsBy 29 rfl) rfl rfl ?_
    have k3 : ¬ ρ (17 + 3 * t) = 3 := fun q => e6_.1 (by rw [hρ]; exact q)
    have k4 : ¬ ρ (17 + 3 * t) = 4 := fun q => e6_.2 (by rw [hρ]; exact q)
    unfold voL voLb
    rw [if_neg k3, if_neg k4, if_neg k3, if_neg k4]
    exact ⟨o2, a2, b2, rfl⟩
end M14
end
