section LINKS
theorem gg_at (k : Nat) {w : Cond} (q : lw_tbl[k]? = some w ∧ goodWord w = true) : w ∈ gg_W := List.mem_filter.mpr ⟨List.mem_of_getElem? q.1, q.2⟩
theorem nn_at (k : Nat) {w : Cond} (q : tables_1[k]? = some w ∧ nn_b w = true) : w ∈ nn_W := List.mem_filter.mpr ⟨List.mem_of_getElem? q.1, q.2⟩
theorem cl_v {own : String} {i : Nat} {M : sk_m} {n : Nat} (a : Cond.code M.1 M.2.1 M.2.2.1 M.2.2.2 ∈ gg_W) (b : Cond.initialized M.1.cls ∈ gg_W) (c : M.1.cls ≠ "java/lang/invoke/MethodHandle" ∧ M.1.cls ≠ "java/lang/invoke/VarHandle" ∧ (parseMethodDescriptor M.1.desc).map (fun d => d.parameters.length) = some n) (e : M.2.2.1 ≤ 40) (f : Cond.instanceMethod M.1 ∈ gg_W) (f2 : Cond.selects M.1.cls M.1 M.1 ∈ gg_W) (g : Cond.methodLink own i M.1 ∈ gg_W ∨ ∃ host, Cond.methodLinkNest own i M.1 host ∈ nn_W) : sk_cl own i M n true := ⟨a, b, c, e, by rw [if_pos rfl]; exact ⟨f, f2⟩, g⟩
theorem cl_s {own : String} {i : Nat} {M : sk_m} {n : Nat} (a : Cond.code M.1 M.2.1 M.2.2.1 M.2.2.2 ∈ gg_W) (b : Cond.initialized M.1.cls ∈ gg_W) (c : M.1.cls ≠ "java/lang/invoke/MethodHandle" ∧ M.1.cls ≠ "java/lang/invoke/VarHandle" ∧ (parseMethodDescriptor M.1.desc).map (fun d => d.parameters.length) = some n) (e : M.2.2.1 ≤ 40) (f : Cond.static M.1 ∈ gg_W) (g : Cond.methodLink own i M.1 ∈ gg_W ∨ ∃ host, Cond.methodLinkNest own i M.1 host ∈ nn_W) : sk_cl own i M n false := ⟨a, b, c, e, by rw [if_neg (by decide)]; exact f, g⟩
abbrev MX0_init : sk_m := (yX0_init, cX0_init, 1, none)
theorem aX0_init : Cond.code MX0_init.1 MX0_init.2.1 MX0_init.2.2.1 MX0_init.2.2.2 ∈ gg_W := gg_at 124 (by decide +kernel)
abbrev MX0_turnInto : sk_m := (yX0_turnInto, cX0_turnInto, 2, none)
theorem aX0_turnInto : Cond.code MX0_turnInto.1 MX0_turnInto.2.1 MX0_turnInto.2.2.1 MX0_turnInto.2.2.2 ∈ gg_W := gg_at 344 (by decide +kernel)
abbrev MX0_takeFrom : sk_m := (yX0_takeFrom, cX0_takeFrom, 2, none)
theorem aX0_takeFrom : Cond.code MX0_takeFrom.1 MX0_takeFrom.2.1 MX0_takeFrom.2.2.1 MX0_takeFrom.2.2.2 ∈ gg_W := gg_at 772 (by decide +kernel)
abbrev MX0_isOneOf : sk_m := (yX0_isOneOf, cX0_isOneOf, 4, some .boolean)
theorem aX0_isOneOf : Cond.code MX0_isOneOf.1 MX0_isOneOf.2.1 MX0_isOneOf.2.2.1 MX0_isOneOf.2.2.2 ∈ gg_W := gg_at 395 (by decide +kernel)
abbrev MX0_hauls : sk_m := (yX0_hauls, cX0_hauls, 5, some .int)
theorem aX0_hauls : Cond.code MX0_hauls.1 MX0_hauls.2.1 MX0_hauls.2.2.1 MX0_hauls.2.2.2 ∈ gg_W := gg_at 367 (by decide +kernel)
abbrev MX0_eats : sk_m := (yX0_eats, cX0_eats, 2, some .int)
theorem aX0_eats : Cond.code MX0_eats.1 MX0_eats.2.1 MX0_eats.2.2.1 MX0_eats.2.2.2 ∈ gg_W := gg_at 359 (by decide +kernel)
abbrev MX1_init : sk_m := (yX1_init, cX1_init, 1, none)
theorem aX1_init : Cond.code MX1_init.1 MX1_init.2.1 MX1_init.2.2.1 MX1_init.2.2.2 ∈ gg_W := gg_at 146 (by decide +kernel)
abbrev MX1_take : sk_m := (yX1_take, cX1_take, 3, none)
theorem aX1_take : Cond.code MX1_take.1 MX1_take.2.1 MX1_take.2.2.1 MX1_take.2.2.2 ∈ gg_W := gg_at 539 (by decide +kernel)
abbrev MX1_takeFrom : sk_m := (yX1_takeFrom, cX1_takeFrom, 2, none)
theorem aX1_takeFrom : Cond.code MX1_takeFrom.1 MX1_takeFrom.2.1 MX1_takeFrom.2.2.1 MX1_takeFrom.2.2.2 ∈ gg_W := gg_at 776 (by decide +kernel)
abbrev MX1_gives : sk_m := (yX1_gives, cX1_gives, 7, some .int)
theorem aX1_gives : Cond.code MX1_gives.1 MX1_gives.2.1 MX1_gives.2.2.1 MX1_gives.2.2.2 ∈ gg_W := gg_at 371 (by decide +kernel)
abbrev MX1_joined : sk_m := (yX1_joined, cX1_joined, 3, some .int)
theorem aX1_joined : Cond.code MX1_joined.1 MX1_joined.2.1 MX1_joined.2.2.1 MX1_joined.2.2.2 ∈ gg_W := gg_at 383 (by decide +kernel)
abbrev MX2_init : sk_m := (yX2_init, cX2_init, 2, none)
theorem aX2_init : Cond.code MX2_init.1 MX2_init.2.1 MX2_init.2.2.1 MX2_init.2.2.2 ∈ gg_W := gg_at 112 (by decide +kernel)
abbrev MX2_takeFrom : sk_m := (yX2_takeFrom, cX2_takeFrom, 3, none)
theorem aX2_takeFrom : Cond.code MX2_takeFrom.1 MX2_takeFrom.2.1 MX2_takeFrom.2.2.1 MX2_takeFrom.2.2.2 ∈ gg_W := gg_at 767 (by decide +kernel)
abbrev MX2_landed : sk_m := (yX2_landed, cX2_landed, 7, some .int)
theorem aX2_landed : Cond.code MX2_landed.1 MX2_landed.2.1 MX2_landed.2.2.1 MX2_landed.2.2.2 ∈ gg_W := gg_at 363 (by decide +kernel)
abbrev MX2_caught : sk_m := (yX2_caught, cX2_caught, 7, some .int)
theorem aX2_caught : Cond.code MX2_caught.1 MX2_caught.2.1 MX2_caught.2.2.1 MX2_caught.2.2.2 ∈ gg_W := gg_at 563 (by decide +kernel)
abbrev MX2_caughtNow : sk_m := (yX2_caughtNow, cX2_caughtNow, 2, some .int)
theorem aX2_caughtNow : Cond.code MX2_caughtNow.1 MX2_caughtNow.2.1 MX2_caughtNow.2.2.1 MX2_caughtNow.2.2.2 ∈ gg_W := gg_at 595 (by decide +kernel)
abbrev MX2_coins : sk_m := (yX2_coins, cX2_coins, 3, some .int)
theorem aX2_coins : Cond.code MX2_coins.1 MX2_coins.2.1 MX2_coins.2.2.1 MX2_coins.2.2.2 ∈ gg_W := gg_at 426 (by decide +kernel)
abbrev MX2_promise : sk_m := (yX2_promise, cX2_promise, 4, some .int)
theorem aX2_promise : Cond.code MX2_promise.1 MX2_promise.2.1 MX2_promise.2.2.1 MX2_promise.2.2.2 ∈ gg_W := gg_at 422 (by decide +kernel)
abbrev MX2_settle : sk_m := (yX2_settle, cX2_settle, 4, some .int)
theorem aX2_settle : Cond.code MX2_settle.1 MX2_settle.2.1 MX2_settle.2.2.1 MX2_settle.2.2.2 ∈ gg_W := gg_at 559 (by decide +kernel)
abbrev MX2_dayByDraws : sk_m := (yX2_dayByDraws, cX2_dayByDraws, 3, some .int)
theorem aX2_dayByDraws : Cond.code MX2_dayByDraws.1 MX2_dayByDraws.2.1 MX2_dayByDraws.2.2.1 MX2_dayByDraws.2.2.2 ∈ gg_W := gg_at 576 (by decide +kernel)
abbrev MX2_draw : sk_m := (yX2_draw, cX2_draw, 1, some .int)
theorem aX2_draw : Cond.code MX2_draw.1 MX2_draw.2.1 MX2_draw.2.2.1 MX2_draw.2.2.2 ∈ gg_W := gg_at 580 (by decide +kernel)
abbrev MX3_init : sk_m := (yX3_init, cX3_init, 1, none)
theorem aX3_init : Cond.code MX3_init.1 MX3_init.2.1 MX3_init.2.2.1 MX3_init.2.2.2 ∈ gg_W := gg_at 232 (by decide +kernel)
abbrev MX3_faultIn : sk_m := (yX3_faultIn, cX3_faultIn, 4, some .int)
theorem aX3_faultIn : Cond.code MX3_faultIn.1 MX3_faultIn.2.1 MX3_faultIn.2.2.1 MX3_faultIn.2.2.2 ∈ gg_W := gg_at 443 (by decide +kernel)
abbrev MX3_readLevel : sk_m := (yX3_readLevel, cX3_readLevel, 6, some .boolean)
theorem aX3_readLevel : Cond.code MX3_readLevel.1 MX3_readLevel.2.1 MX3_readLevel.2.2.1 MX3_readLevel.2.2.2 ∈ gg_W := gg_at 452 (by decide +kernel)
abbrev MX3_readItem : sk_m := (yX3_readItem, cX3_readItem, 4, some .boolean)
theorem aX3_readItem : Cond.code MX3_readItem.1 MX3_readItem.2.1 MX3_readItem.2.2.1 MX3_readItem.2.2.2 ∈ gg_W := gg_at 456 (by decide +kernel)
abbrev MX3_readDenied : sk_m := (yX3_readDenied, cX3_readDenied, 2, some .boolean)
theorem aX3_readDenied : Cond.code MX3_readDenied.1 MX3_readDenied.2.1 MX3_readDenied.2.2.1 MX3_readDenied.2.2.2 ∈ gg_W := gg_at 528 (by decide +kernel)
abbrev MX3_readBracketed : sk_m := (yX3_readBracketed, cX3_readBracketed, 2, some .boolean)
theorem aX3_readBracketed : Cond.code MX3_readBracketed.1 MX3_readBracketed.2.1 MX3_readBracketed.2.2.1 MX3_readBracketed.2.2.2 ∈ gg_W := gg_at 532 (by decide +kernel)
abbrev MX3_readNumber : sk_m := (yX3_readNumber, cX3_readNumber, 3, some .int)
theorem aX3_readNumber : Cond.code MX3_readNumber.1 MX3_readNumber.2.1 MX3_readNumber.2.2.1 MX3_readNumber.2.2.2 ∈ gg_W := gg_at 467 (by decide +kernel)
abbrev MX3_next : sk_m := (yX3_next, cX3_next, 1, some .int)
theorem aX3_next : Cond.code MX3_next.1 MX3_next.2.1 MX3_next.2.2.1 MX3_next.2.2.2 ∈ gg_W := gg_at 460 (by decide +kernel)
abbrev MX3_write : sk_m := (yX3_write, cX3_write, 2, none)
theorem aX3_write : Cond.code MX3_write.1 MX3_write.2.1 MX3_write.2.2.1 MX3_write.2.2.2 ∈ gg_W := gg_at 471 (by decide +kernel)
abbrev MX3_isDigit : sk_m := (yX3_isDigit, cX3_isDigit, 1, some .boolean)
theorem aX3_isDigit : Cond.code MX3_isDigit.1 MX3_isDigit.2.1 MX3_isDigit.2.2.1 MX3_isDigit.2.2.2 ∈ gg_W := gg_at 463 (by decide +kernel)
abbrev MX3_nameOf : sk_m := (yX3_nameOf, cX3_nameOf, 4, some .int)
theorem aX3_nameOf : Cond.code MX3_nameOf.1 MX3_nameOf.2.1 MX3_nameOf.2.2.1 MX3_nameOf.2.2.2 ∈ gg_W := gg_at 475 (by decide +kernel)
abbrev MX3_levelOf : sk_m := (yX3_levelOf, cX3_levelOf, 1, some .int)
theorem aX3_levelOf : Cond.code MX3_levelOf.1 MX3_levelOf.2.1 MX3_levelOf.2.2.1 MX3_levelOf.2.2.2 ∈ gg_W := gg_at 535 (by decide +kernel)
abbrev MX4_init : sk_m := (yX4_init, cX4_init, 1, none)
theorem aX4_init : Cond.code MX4_init.1 MX4_init.2.1 MX4_init.2.2.1 MX4_init.2.2.2 ∈ gg_W := gg_at 288 (by decide +kernel)
abbrev MX4_lay : sk_m := (yX4_lay, cX4_lay, 3, none)
theorem aX4_lay : Cond.code MX4_lay.1 MX4_lay.2.1 MX4_lay.2.2.1 MX4_lay.2.2.2 ∈ gg_W := gg_at 732 (by decide +kernel)
abbrev MX4_isMissing : sk_m := (yX4_isMissing, cX4_isMissing, 1, some .boolean)
theorem aX4_isMissing : Cond.code MX4_isMissing.1 MX4_isMissing.2.1 MX4_isMissing.2.2.1 MX4_isMissing.2.2.2 ∈ gg_W := gg_at 686 (by decide +kernel)
abbrev MX4_has : sk_m := (yX4_has, cX4_has, 3, some .boolean)
theorem aX4_has : Cond.code MX4_has.1 MX4_has.2.1 MX4_has.2.2.1 MX4_has.2.2.2 ∈ gg_W := gg_at 750 (by decide +kernel)
abbrev MX4_lowestBits : sk_m := (yX4_lowestBits, cX4_lowestBits, 2, some .int)
theorem aX4_lowestBits : Cond.code MX4_lowestBits.1 MX4_lowestBits.2.1 MX4_lowestBits.2.2.1 MX4_lowestBits.2.2.2 ∈ gg_W := gg_at 741 (by decide +kernel)
abbrev MX5_safest : sk_m := (yX5_safest, cX5_safest, 3, some .int)
theorem aX5_safest : Cond.code MX5_safest.1 MX5_safest.2.1 MX5_safest.2.2.1 MX5_safest.2.2.2 ∈ gg_W := gg_at 602 (by decide +kernel)
abbrev MX5_isSafe : sk_m := (yX5_isSafe, cX5_isSafe, 4, some .boolean)
theorem aX5_isSafe : Cond.code MX5_isSafe.1 MX5_isSafe.2.1 MX5_isSafe.2.2.1 MX5_isSafe.2.2.2 ∈ gg_W := gg_at 605 (by decide +kernel)
abbrev MX5_bestToSell : sk_m := (yX5_bestToSell, cX5_bestToSell, 6, some .int)
theorem aX5_bestToSell : Cond.code MX5_bestToSell.1 MX5_bestToSell.2.1 MX5_bestToSell.2.2.1 MX5_bestToSell.2.2.2 ∈ gg_W := gg_at 613 (by decide +kernel)
abbrev MX5_gain : sk_m := (yX5_gain, cX5_gain, 6, some .int)
theorem aX5_gain : Cond.code MX5_gain.1 MX5_gain.2.1 MX5_gain.2.2.1 MX5_gain.2.2.2 ∈ gg_W := gg_at 616 (by decide +kernel)
abbrev MX5_agreesWithItself : sk_m := (yX5_agreesWithItself, cX5_agreesWithItself, 3, some .boolean)
theorem aX5_agreesWithItself : Cond.code MX5_agreesWithItself.1 MX5_agreesWithItself.2.1 MX5_agreesWithItself.2.2.1 MX5_agreesWithItself.2.2.2 ∈ gg_W := gg_at 629 (by decide +kernel)
abbrev MX5_howManyAgree : sk_m := (yX5_howManyAgree, cX5_howManyAgree, 4, some .int)
theorem aX5_howManyAgree : Cond.code MX5_howManyAgree.1 MX5_howManyAgree.2.1 MX5_howManyAgree.2.2.1 MX5_howManyAgree.2.2.2 ∈ gg_W := gg_at 626 (by decide +kernel)
abbrev MX5_leastThatAgrees : sk_m := (yX5_leastThatAgrees, cX5_leastThatAgrees, 3, some .int)
theorem aX5_leastThatAgrees : Cond.code MX5_leastThatAgrees.1 MX5_leastThatAgrees.2.1 MX5_leastThatAgrees.2.2.1 MX5_leastThatAgrees.2.2.2 ∈ gg_W := gg_at 632 (by decide +kernel)
abbrev MX5_fewestBoats : sk_m := (yX5_fewestBoats, cX5_fewestBoats, 4, some .int)
theorem aX5_fewestBoats : Cond.code MX5_fewestBoats.1 MX5_fewestBoats.2.1 MX5_fewestBoats.2.2.1 MX5_fewestBoats.2.2.2 ∈ gg_W := gg_at 640 (by decide +kernel)
abbrev MX5_isEnough : sk_m := (yX5_isEnough, cX5_isEnough, 5, some .boolean)
theorem aX5_isEnough : Cond.code MX5_isEnough.1 MX5_isEnough.2.1 MX5_isEnough.2.2.1 MX5_isEnough.2.2.2 ∈ gg_W := gg_at 649 (by decide +kernel)
abbrev MX5_daysUntil : sk_m := (yX5_daysUntil, cX5_daysUntil, 4, some .int)
theorem aX5_daysUntil : Cond.code MX5_daysUntil.1 MX5_daysUntil.2.1 MX5_daysUntil.2.2.1 MX5_daysUntil.2.2.2 ∈ gg_W := gg_at 658 (by decide +kernel)
abbrev MX5_seasThatDo : sk_m := (yX5_seasThatDo, cX5_seasThatDo, 5, some .int)
theorem aX5_seasThatDo : Cond.code MX5_seasThatDo.1 MX5_seasThatDo.2.1 MX5_seasThatDo.2.2.1 MX5_seasThatDo.2.2.2 ∈ gg_W := gg_at 665 (by decide +kernel)
abbrev MX5_caughtInAllSeas : sk_m := (yX5_caughtInAllSeas, cX5_caughtInAllSeas, 4, some .int)
theorem aX5_caughtInAllSeas : Cond.code MX5_caughtInAllSeas.1 MX5_caughtInAllSeas.2.1 MX5_caughtInAllSeas.2.2.1 MX5_caughtInAllSeas.2.2.2 ∈ gg_W := gg_at 675 (by decide +kernel)
abbrev MX5_seasThatFit : sk_m := (yX5_seasThatFit, cX5_seasThatFit, 4, some .int)
theorem aX5_seasThatFit : Cond.code MX5_seasThatFit.1 MX5_seasThatFit.2.1 MX5_seasThatFit.2.2.1 MX5_seasThatFit.2.2.2 ∈ gg_W := gg_at 689 (by decide +kernel)
abbrev MX5_isSoBy : sk_m := (yX5_isSoBy, cX5_isSoBy, 4, some .boolean)
theorem aX5_isSoBy : Cond.code MX5_isSoBy.1 MX5_isSoBy.2.1 MX5_isSoBy.2.2.1 MX5_isSoBy.2.2.2 ∈ gg_W := gg_at 692 (by decide +kernel)
abbrev MX5_partOfTenths : sk_m := (yX5_partOfTenths, cX5_partOfTenths, 4, some .int)
theorem aX5_partOfTenths : Cond.code MX5_partOfTenths.1 MX5_partOfTenths.2.1 MX5_partOfTenths.2.2.1 MX5_partOfTenths.2.2.2 ∈ gg_W := gg_at 668 (by decide +kernel)
abbrev MX6_init : sk_m := (yX6_init, cX6_init, 1, none)
theorem aX6_init : Cond.code MX6_init.1 MX6_init.2.1 MX6_init.2.2.1 MX6_init.2.2.2 ∈ gg_W := gg_at 259 (by decide +kernel)
abbrev MX6_hear : sk_m := (yX6_hear, cX6_hear, 5, some .int)
theorem aX6_hear : Cond.code MX6_hear.1 MX6_hear.2.1 MX6_hear.2.2.1 MX6_hear.2.2.2 ∈ gg_W := gg_at 704 (by decide +kernel)
abbrev MX6_speak : sk_m := (yX6_speak, cX6_speak, 7, some .int)
theorem aX6_speak : Cond.code MX6_speak.1 MX6_speak.2.1 MX6_speak.2.2.1 MX6_speak.2.2.2 ∈ gg_W := gg_at 708 (by decide +kernel)
abbrev MX6_say : sk_m := (yX6_say, cX6_say, 5, some .int)
theorem aX6_say : Cond.code MX6_say.1 MX6_say.2.1 MX6_say.2.2.1 MX6_say.2.2.2 ∈ gg_W := gg_at 715 (by decide +kernel)
abbrev MX6_part : sk_m := (yX6_part, cX6_part, 3, some .int)
theorem aX6_part : Cond.code MX6_part.1 MX6_part.2.1 MX6_part.2.2.1 MX6_part.2.2.2 ∈ gg_W := gg_at 719 (by decide +kernel)
abbrev MX7_init : sk_m := (yX7_init, cX7_init, 2, none)
theorem aX7_init : Cond.code MX7_init.1 MX7_init.2.1 MX7_init.2.2.1 MX7_init.2.2.2 ∈ gg_W := gg_at 104 (by decide +kernel)
abbrev MX7_boat : sk_m := (yX7_boat, cX7_boat, 3, some .int)
theorem aX7_boat : Cond.code MX7_boat.1 MX7_boat.2.1 MX7_boat.2.2.1 MX7_boat.2.2.2 ∈ gg_W := gg_at 330 (by decide +kernel)
abbrev MX7_boatIs : sk_m := (yX7_boatIs, cX7_boatIs, 5, some .int)
theorem aX7_boatIs : Cond.code MX7_boatIs.1 MX7_boatIs.2.1 MX7_boatIs.2.2.1 MX7_boatIs.2.2.2 ∈ gg_W := gg_at 348 (by decide +kernel)
abbrev MX7_become : sk_m := (yX7_become, cX7_become, 4, some .int)
theorem aX7_become : Cond.code MX7_become.1 MX7_become.2.1 MX7_become.2.2.1 MX7_become.2.2.2 ∈ gg_W := gg_at 387 (by decide +kernel)
abbrev MX7_as : sk_m := (yX7_as, cX7_as, 3, some .int)
theorem aX7_as : Cond.code MX7_as.1 MX7_as.2.1 MX7_as.2.2.1 MX7_as.2.2.2 ∈ gg_W := gg_at 391 (by decide +kernel)
abbrev MX7_lose : sk_m := (yX7_lose, cX7_lose, 4, some .int)
theorem aX7_lose : Cond.code MX7_lose.1 MX7_lose.2.1 MX7_lose.2.2.1 MX7_lose.2.2.2 ∈ gg_W := gg_at 402 (by decide +kernel)
abbrev MX7_rises : sk_m := (yX7_rises, cX7_rises, 3, some .int)
theorem aX7_rises : Cond.code MX7_rises.1 MX7_rises.2.1 MX7_rises.2.2.1 MX7_rises.2.2.2 ∈ gg_W := gg_at 406 (by decide +kernel)
abbrev MX7_price : sk_m := (yX7_price, cX7_price, 4, some .int)
theorem aX7_price : Cond.code MX7_price.1 MX7_price.2.1 MX7_price.2.2.1 MX7_price.2.2.2 ∈ gg_W := gg_at 410 (by decide +kernel)
abbrev MX7_sell : sk_m := (yX7_sell, cX7_sell, 3, some .int)
theorem aX7_sell : Cond.code MX7_sell.1 MX7_sell.2.1 MX7_sell.2.2.1 MX7_sell.2.2.2 ∈ gg_W := gg_at 417 (by decide +kernel)
abbrev MX7_feed : sk_m := (yX7_feed, cX7_feed, 5, some .int)
theorem aX7_feed : Cond.code MX7_feed.1 MX7_feed.2.1 MX7_feed.2.2.1 MX7_feed.2.2.2 ∈ gg_W := gg_at 432 (by decide +kernel)
abbrev MX7_text : sk_m := (yX7_text, cX7_text, 3, some .int)
theorem aX7_text : Cond.code MX7_text.1 MX7_text.2.1 MX7_text.2.2.1 MX7_text.2.2.2 ∈ gg_W := gg_at 436 (by decide +kernel)
abbrev MX7_untell : sk_m := (yX7_untell, cX7_untell, 3, some .int)
theorem aX7_untell : Cond.code MX7_untell.1 MX7_untell.2.1 MX7_untell.2.2.1 MX7_untell.2.2.2 ∈ gg_W := gg_at 546 (by decide +kernel)
abbrev MX7_law : sk_m := (yX7_law, cX7_law, 5, some .int)
theorem aX7_law : Cond.code MX7_law.1 MX7_law.2.1 MX7_law.2.2.1 MX7_law.2.2.2 ∈ gg_W := gg_at 550 (by decide +kernel)
abbrev MX7_tally : sk_m := (yX7_tally, cX7_tally, 1, some .int)
theorem aX7_tally : Cond.code MX7_tally.1 MX7_tally.2.1 MX7_tally.2.2.1 MX7_tally.2.2.2 ∈ gg_W := gg_at 555 (by decide +kernel)
abbrev MX7_loose : sk_m := (yX7_loose, cX7_loose, 4, some .int)
theorem aX7_loose : Cond.code MX7_loose.1 MX7_loose.2.1 MX7_loose.2.2.1 MX7_loose.2.2.2 ∈ gg_W := gg_at 572 (by decide +kernel)
abbrev MX7_seed : sk_m := (yX7_seed, cX7_seed, 3, some .int)
theorem aX7_seed : Cond.code MX7_seed.1 MX7_seed.2.1 MX7_seed.2.2.1 MX7_seed.2.2.2 ∈ gg_W := gg_at 587 (by decide +kernel)
abbrev MX7_catches : sk_m := (yX7_catches, cX7_catches, 2, some .int)
theorem aX7_catches : Cond.code MX7_catches.1 MX7_catches.2.1 MX7_catches.2.2.1 MX7_catches.2.2.2 ∈ gg_W := gg_at 591 (by decide +kernel)
abbrev MX7_safe : sk_m := (yX7_safe, cX7_safe, 2, some .int)
theorem aX7_safe : Cond.code MX7_safe.1 MX7_safe.2.1 MX7_safe.2.2.1 MX7_safe.2.2.2 ∈ gg_W := gg_at 599 (by decide +kernel)
abbrev MX7_best : sk_m := (yX7_best, cX7_best, 4, some .int)
theorem aX7_best : Cond.code MX7_best.1 MX7_best.2.1 MX7_best.2.2.1 MX7_best.2.2.2 ∈ gg_W := gg_at 610 (by decide +kernel)
abbrev MX7_agrees : sk_m := (yX7_agrees, cX7_agrees, 4, some .int)
theorem aX7_agrees : Cond.code MX7_agrees.1 MX7_agrees.2.1 MX7_agrees.2.2.1 MX7_agrees.2.2.2 ∈ gg_W := gg_at 623 (by decide +kernel)
abbrev MX7_needs : sk_m := (yX7_needs, cX7_needs, 3, some .int)
theorem aX7_needs : Cond.code MX7_needs.1 MX7_needs.2.1 MX7_needs.2.2.1 MX7_needs.2.2.2 ∈ gg_W := gg_at 637 (by decide +kernel)
abbrev MX7_soonest : sk_m := (yX7_soonest, cX7_soonest, 4, some .int)
theorem aX7_soonest : Cond.code MX7_soonest.1 MX7_soonest.2.1 MX7_soonest.2.2.1 MX7_soonest.2.2.2 ∈ gg_W := gg_at 655 (by decide +kernel)
abbrev MX7_odds : sk_m := (yX7_odds, cX7_odds, 4, some .int)
theorem aX7_odds : Cond.code MX7_odds.1 MX7_odds.2.1 MX7_odds.2.2.1 MX7_odds.2.2.2 ∈ gg_W := gg_at 662 (by decide +kernel)
abbrev MX7_mean : sk_m := (yX7_mean, cX7_mean, 3, some .int)
theorem aX7_mean : Cond.code MX7_mean.1 MX7_mean.2.1 MX7_mean.2.2.1 MX7_mean.2.2.2 ∈ gg_W := gg_at 672 (by decide +kernel)
abbrev MX7_fits : sk_m := (yX7_fits, cX7_fits, 4, some .int)
theorem aX7_fits : Cond.code MX7_fits.1 MX7_fits.2.1 MX7_fits.2.2.1 MX7_fits.2.2.2 ∈ gg_W := gg_at 679 (by decide +kernel)
abbrev MX7_voice : sk_m := (yX7_voice, cX7_voice, 5, some .int)
theorem aX7_voice : Cond.code MX7_voice.1 MX7_voice.2.1 MX7_voice.2.2.1 MX7_voice.2.2.2 ∈ gg_W := gg_at 700 (by decide +kernel)
abbrev MX7_body : sk_m := (yX7_body, cX7_body, 2, some .int)
theorem aX7_body : Cond.code MX7_body.1 MX7_body.2.1 MX7_body.2.2.1 MX7_body.2.2.2 ∈ gg_W := gg_at 724 (by decide +kernel)
abbrev MX7_sheet : sk_m := (yX7_sheet, cX7_sheet, 4, some .int)
theorem aX7_sheet : Cond.code MX7_sheet.1 MX7_sheet.2.1 MX7_sheet.2.2.1 MX7_sheet.2.2.2 ∈ gg_W := gg_at 728 (by decide +kernel)
abbrev MX7_put : sk_m := (yX7_put, cX7_put, 5, some .int)
theorem aX7_put : Cond.code MX7_put.1 MX7_put.2.1 MX7_put.2.2.1 MX7_put.2.2.2 ∈ gg_W := gg_at 737 (by decide +kernel)
abbrev MX7_move : sk_m := (yX7_move, cX7_move, 8, some .int)
theorem aX7_move : Cond.code MX7_move.1 MX7_move.2.1 MX7_move.2.2.1 MX7_move.2.2.2 ∈ gg_W := gg_at 746 (by decide +kernel)
abbrev MX7_prices : sk_m := (yX7_prices, cX7_prices, 5, some .int)
theorem aX7_prices : Cond.code MX7_prices.1 MX7_prices.2.1 MX7_prices.2.2.1 MX7_prices.2.2.2 ∈ gg_W := gg_at 755 (by decide +kernel)
abbrev MX7_judge : sk_m := (yX7_judge, cX7_judge, 5, some .int)
theorem aX7_judge : Cond.code MX7_judge.1 MX7_judge.2.1 MX7_judge.2.2.1 MX7_judge.2.2.2 ∈ gg_W := gg_at 759 (by decide +kernel)
abbrev MX7_image : sk_m := (yX7_image, cX7_image, 1, some .int)
theorem aX7_image : Cond.code MX7_image.1 MX7_image.2.1 MX7_image.2.2.1 MX7_image.2.2.2 ∈ gg_W := gg_at 763 (by decide +kernel)
abbrev MX7_restore : sk_m := (yX7_restore, cX7_restore, 1, some .int)
theorem aX7_restore : Cond.code MX7_restore.1 MX7_restore.2.1 MX7_restore.2.2.1 MX7_restore.2.2.2 ∈ gg_W := gg_at 781 (by decide +kernel)
abbrev MX7_tell : sk_m := (yX7_tell, cX7_tell, 2, some .int)
theorem aX7_tell : Cond.code MX7_tell.1 MX7_tell.2.1 MX7_tell.2.2.1 MX7_tell.2.2.2 ∈ gg_W := gg_at 785 (by decide +kernel)
abbrev MX7_check : sk_m := (yX7_check, cX7_check, 3, some .int)
theorem aX7_check : Cond.code MX7_check.1 MX7_check.2.1 MX7_check.2.2.1 MX7_check.2.2.2 ∈ gg_W := gg_at 789 (by decide +kernel)
abbrev MX7_count : sk_m := (yX7_count, cX7_count, 2, some .int)
theorem aX7_count : Cond.code MX7_count.1 MX7_count.2.1 MX7_count.2.2.1 MX7_count.2.2.2 ∈ gg_W := gg_at 793 (by decide +kernel)
abbrev MX7_told : sk_m := (yX7_told, cX7_told, 2, some .int)
theorem aX7_told : Cond.code MX7_told.1 MX7_told.2.1 MX7_told.2.2.1 MX7_told.2.2.2 ∈ gg_W := gg_at 797 (by decide +kernel)
abbrev MX7_refuse : sk_m := (yX7_refuse, cX7_refuse, 3, some .int)
theorem aX7_refuse : Cond.code MX7_refuse.1 MX7_refuse.2.1 MX7_refuse.2.2.1 MX7_refuse.2.2.2 ∈ gg_W := gg_at 338 (by decide +kernel)
abbrev MX7_isWithin : sk_m := (yX7_isWithin, cX7_isWithin, 2, some .boolean)
theorem aX7_isWithin : Cond.code MX7_isWithin.1 MX7_isWithin.2.1 MX7_isWithin.2.2.1 MX7_isWithin.2.2.2 ∈ gg_W := gg_at 355 (by decide +kernel)
abbrev MX7_isFish : sk_m := (yX7_isFish, cX7_isFish, 1, some .boolean)
theorem aX7_isFish : Cond.code MX7_isFish.1 MX7_isFish.2.1 MX7_isFish.2.2.1 MX7_isFish.2.2.2 ∈ gg_W := gg_at 413 (by decide +kernel)
abbrev MX7_isUse : sk_m := (yX7_isUse, cX7_isUse, 1, some .boolean)
theorem aX7_isUse : Cond.code MX7_isUse.1 MX7_isUse.2.1 MX7_isUse.2.2.1 MX7_isUse.2.2.2 ∈ gg_W := gg_at 439 (by decide +kernel)
abbrev MX7_isSheet : sk_m := (yX7_isSheet, cX7_isSheet, 1, some .boolean)
theorem aX7_isSheet : Cond.code MX7_isSheet.1 MX7_isSheet.2.1 MX7_isSheet.2.2.1 MX7_isSheet.2.2.2 ∈ gg_W := gg_at 682 (by decide +kernel)
abbrev MX7_isKindWithNumber : sk_m := (yX7_isKindWithNumber, cX7_isKindWithNumber, 1, some .boolean)
theorem aX7_isKindWithNumber : Cond.code MX7_isKindWithNumber.1 MX7_isKindWithNumber.2.1 MX7_isKindWithNumber.2.2.1 MX7_isKindWithNumber.2.2.2 ∈ gg_W := gg_at 333 (by decide +kernel)
abbrev MX7_isBoat : sk_m := (yX7_isBoat, cX7_isBoat, 2, some .boolean)
theorem aX7_isBoat : Cond.code MX7_isBoat.1 MX7_isBoat.2.1 MX7_isBoat.2.2.1 MX7_isBoat.2.2.2 ∈ gg_W := gg_at 352 (by decide +kernel)
abbrev MX7_held : sk_m := (yX7_held, cX7_held, 3, some .int)
theorem aX7_held : Cond.code MX7_held.1 MX7_held.2.1 MX7_held.2.2.1 MX7_held.2.2.2 ∈ gg_W := gg_at 374 (by decide +kernel)
abbrev MX8_init : sk_m := (yX8_init, cX8_init, 2, none)
theorem aX8_init : Cond.code MX8_init.1 MX8_init.2.1 MX8_init.2.2.1 MX8_init.2.2.2 ∈ gg_W := gg_at 802 (by decide +kernel)
abbrev MX8_error : sk_m := (yX8_error, cX8_error, 2, some .int)
theorem aX8_error : Cond.code MX8_error.1 MX8_error.2.1 MX8_error.2.2.1 MX8_error.2.2.2 ∈ gg_W := gg_at 879 (by decide +kernel)
abbrev MX8_in : sk_m := (yX8_in, cX8_in, 3, some .boolean)
theorem aX8_in : Cond.code MX8_in.1 MX8_in.2.1 MX8_in.2.2.1 MX8_in.2.2.2 ∈ gg_W := gg_at 874 (by decide +kernel)
abbrev MX8_held : sk_m := (yX8_held, cX8_held, 3, some .int)
theorem aX8_held : Cond.code MX8_held.1 MX8_held.2.1 MX8_held.2.2.1 MX8_held.2.2.2 ∈ gg_W := gg_at 919 (by decide +kernel)
abbrev MX8_copyAll : sk_m := (yX8_copyAll, cX8_copyAll, 3, none)
theorem aX8_copyAll : Cond.code MX8_copyAll.1 MX8_copyAll.2.1 MX8_copyAll.2.2.1 MX8_copyAll.2.2.2 ∈ gg_W := gg_at 1214 (by decide +kernel)
abbrev MX8_bits : sk_m := (yX8_bits, cX8_bits, 3, some .int)
theorem aX8_bits : Cond.code MX8_bits.1 MX8_bits.2.1 MX8_bits.2.2.1 MX8_bits.2.2.2 ∈ gg_W := gg_at 1096 (by decide +kernel)
abbrev MX8_isBoat : sk_m := (yX8_isBoat, cX8_isBoat, 2, some .boolean)
theorem aX8_isBoat : Cond.code MX8_isBoat.1 MX8_isBoat.2.1 MX8_isBoat.2.2.1 MX8_isBoat.2.2.2 ∈ gg_W := gg_at 889 (by decide +kernel)
abbrev MX8_isFish : sk_m := (yX8_isFish, cX8_isFish, 1, some .boolean)
theorem aX8_isFish : Cond.code MX8_isFish.1 MX8_isFish.2.1 MX8_isFish.2.2.1 MX8_isFish.2.2.2 ∈ gg_W := gg_at 947 (by decide +kernel)
abbrev MX8_becomes : sk_m := (yX8_becomes, cX8_becomes, 4, some .int)
theorem aX8_becomes : Cond.code MX8_becomes.1 MX8_becomes.2.1 MX8_becomes.2.2.1 MX8_becomes.2.2.2 ∈ gg_W := gg_at 927 (by decide +kernel)
abbrev MX8_of : sk_m := (yX8_of, cX8_of, 3, some .int)
theorem aX8_of : Cond.code MX8_of.1 MX8_of.2.1 MX8_of.2.2.1 MX8_of.2.2.2 ∈ gg_W := gg_at 893 (by decide +kernel)
abbrev MX8_haulsOf : sk_m := (yX8_haulsOf, cX8_haulsOf, 5, some .int)
theorem aX8_haulsOf : Cond.code MX8_haulsOf.1 MX8_haulsOf.2.1 MX8_haulsOf.2.2.1 MX8_haulsOf.2.2.2 ∈ gg_W := gg_at 905 (by decide +kernel)
abbrev MX8_eatsOf : sk_m := (yX8_eatsOf, cX8_eatsOf, 2, some .int)
theorem aX8_eatsOf : Cond.code MX8_eatsOf.1 MX8_eatsOf.2.1 MX8_eatsOf.2.2.1 MX8_eatsOf.2.2.2 ∈ gg_W := gg_at 897 (by decide +kernel)
abbrev MX8_landsOf : sk_m := (yX8_landsOf, cX8_landsOf, 4, some .int)
theorem aX8_landsOf : Cond.code MX8_landsOf.1 MX8_landsOf.2.1 MX8_landsOf.2.2.1 MX8_landsOf.2.2.2 ∈ gg_W := gg_at 901 (by decide +kernel)
abbrev MX8_catchBy : sk_m := (yX8_catchBy, cX8_catchBy, 5, some .int)
theorem aX8_catchBy : Cond.code MX8_catchBy.1 MX8_catchBy.2.1 MX8_catchBy.2.2.1 MX8_catchBy.2.2.2 ∈ gg_W := gg_at 1039 (by decide +kernel)
abbrev MX8_catchOf : sk_m := (yX8_catchOf, cX8_catchOf, 2, some .int)
theorem aX8_catchOf : Cond.code MX8_catchOf.1 MX8_catchOf.2.1 MX8_catchOf.2.2.1 MX8_catchOf.2.2.2 ∈ gg_W := gg_at 1068 (by decide +kernel)
abbrev MX8_shortBy : sk_m := (yX8_shortBy, cX8_shortBy, 4, some .int)
theorem aX8_shortBy : Cond.code MX8_shortBy.1 MX8_shortBy.2.1 MX8_shortBy.2.2.1 MX8_shortBy.2.2.2 ∈ gg_W := gg_at 1035 (by decide +kernel)
abbrev MX8_coinsFor : sk_m := (yX8_coinsFor, cX8_coinsFor, 3, some .int)
theorem aX8_coinsFor : Cond.code MX8_coinsFor.1 MX8_coinsFor.2.1 MX8_coinsFor.2.2.1 MX8_coinsFor.2.2.2 ∈ gg_W := gg_at 960 (by decide +kernel)
abbrev MX8_isKm : sk_m := (yX8_isKm, cX8_isKm, 1, some .boolean)
theorem aX8_isKm : Cond.code MX8_isKm.1 MX8_isKm.2.1 MX8_isKm.2.2.1 MX8_isKm.2.2.2 ∈ gg_W := gg_at 871 (by decide +kernel)
abbrev MX8_boat : sk_m := (yX8_boat, cX8_boat, 3, some .int)
theorem aX8_boat : Cond.code MX8_boat.1 MX8_boat.2.1 MX8_boat.2.2.1 MX8_boat.2.2.2 ∈ gg_W := gg_at 868 (by decide +kernel)
abbrev MX8_boatIs : sk_m := (yX8_boatIs, cX8_boatIs, 3, some .int)
theorem aX8_boatIs : Cond.code MX8_boatIs.1 MX8_boatIs.2.1 MX8_boatIs.2.2.1 MX8_boatIs.2.2.2 ∈ gg_W := gg_at 885 (by decide +kernel)
abbrev MX8_become : sk_m := (yX8_become, cX8_become, 3, some .int)
theorem aX8_become : Cond.code MX8_become.1 MX8_become.2.1 MX8_become.2.2.1 MX8_become.2.2.2 ∈ gg_W := gg_at 923 (by decide +kernel)
abbrev MX8_as : sk_m := (yX8_as, cX8_as, 5, some .int)
theorem aX8_as : Cond.code MX8_as.1 MX8_as.2.1 MX8_as.2.2.1 MX8_as.2.2.2 ∈ gg_W := gg_at 931 (by decide +kernel)
abbrev MX8_lose : sk_m := (yX8_lose, cX8_lose, 3, some .int)
theorem aX8_lose : Cond.code MX8_lose.1 MX8_lose.2.1 MX8_lose.2.2.1 MX8_lose.2.2.2 ∈ gg_W := gg_at 936 (by decide +kernel)
abbrev MX8_rises : sk_m := (yX8_rises, cX8_rises, 2, some .int)
theorem aX8_rises : Cond.code MX8_rises.1 MX8_rises.2.1 MX8_rises.2.2.1 MX8_rises.2.2.2 ∈ gg_W := gg_at 940 (by decide +kernel)
abbrev MX8_price : sk_m := (yX8_price, cX8_price, 3, some .int)
theorem aX8_price : Cond.code MX8_price.1 MX8_price.2.1 MX8_price.2.2.1 MX8_price.2.2.2 ∈ gg_W := gg_at 944 (by decide +kernel)
abbrev MX8_sells : sk_m := (yX8_sells, cX8_sells, 4, some .int)
theorem aX8_sells : Cond.code MX8_sells.1 MX8_sells.2.1 MX8_sells.2.2.1 MX8_sells.2.2.2 ∈ gg_W := gg_at 956 (by decide +kernel)
abbrev MX8_sell : sk_m := (yX8_sell, cX8_sell, 3, some .int)
theorem aX8_sell : Cond.code MX8_sell.1 MX8_sell.2.1 MX8_sell.2.2.1 MX8_sell.2.2.2 ∈ gg_W := gg_at 951 (by decide +kernel)
abbrev MX8_feed : sk_m := (yX8_feed, cX8_feed, 5, some .int)
theorem aX8_feed : Cond.code MX8_feed.1 MX8_feed.2.1 MX8_feed.2.2.1 MX8_feed.2.2.2 ∈ gg_W := gg_at 966 (by decide +kernel)
abbrev MX8_look : sk_m := (yX8_look, cX8_look, 1, some .int)
theorem aX8_look : Cond.code MX8_look.1 MX8_look.2.1 MX8_look.2.2.1 MX8_look.2.2.2 ∈ gg_W := gg_at 999 (by decide +kernel)
abbrev MX8_lays : sk_m := (yX8_lays, cX8_lays, 3, none)
theorem aX8_lays : Cond.code MX8_lays.1 MX8_lays.2.1 MX8_lays.2.2.1 MX8_lays.2.2.2 ∈ gg_W := gg_at 1007 (by decide +kernel)
abbrev MX8_nameOf : sk_m := (yX8_nameOf, cX8_nameOf, 2, some .int)
theorem aX8_nameOf : Cond.code MX8_nameOf.1 MX8_nameOf.2.1 MX8_nameOf.2.2.1 MX8_nameOf.2.2.2 ∈ gg_W := gg_at 1003 (by decide +kernel)
abbrev MX8_number : sk_m := (yX8_number, cX8_number, 3, none)
theorem aX8_number : Cond.code MX8_number.1 MX8_number.2.1 MX8_number.2.2.1 MX8_number.2.2.2 ∈ gg_W := gg_at 1015 (by decide +kernel)
abbrev MX8_opens : sk_m := (yX8_opens, cX8_opens, 2, none)
theorem aX8_opens : Cond.code MX8_opens.1 MX8_opens.2.1 MX8_opens.2.2.1 MX8_opens.2.2.2 ∈ gg_W := gg_at 1011 (by decide +kernel)
abbrev MX8_one : sk_m := (yX8_one, cX8_one, 3, none)
theorem aX8_one : Cond.code MX8_one.1 MX8_one.2.1 MX8_one.2.2.1 MX8_one.2.2.2 ∈ gg_W := gg_at 995 (by decide +kernel)
abbrev MX8_times : sk_m := (yX8_times, cX8_times, 2, none)
theorem aX8_times : Cond.code MX8_times.1 MX8_times.2.1 MX8_times.2.2.1 MX8_times.2.2.2 ∈ gg_W := gg_at 991 (by decide +kernel)
abbrev MX8_sum : sk_m := (yX8_sum, cX8_sum, 2, none)
theorem aX8_sum : Cond.code MX8_sum.1 MX8_sum.2.1 MX8_sum.2.2.1 MX8_sum.2.2.2 ∈ gg_W := gg_at 987 (by decide +kernel)
abbrev MX8_compares : sk_m := (yX8_compares, cX8_compares, 2, none)
theorem aX8_compares : Cond.code MX8_compares.1 MX8_compares.2.1 MX8_compares.2.2.1 MX8_compares.2.2.2 ∈ gg_W := gg_at 983 (by decide +kernel)
abbrev MX8_all : sk_m := (yX8_all, cX8_all, 1, none)
theorem aX8_all : Cond.code MX8_all.1 MX8_all.2.1 MX8_all.2.2.1 MX8_all.2.2.2 ∈ gg_W := gg_at 979 (by decide +kernel)
abbrev MX8_any : sk_m := (yX8_any, cX8_any, 1, none)
theorem aX8_any : Cond.code MX8_any.1 MX8_any.2.1 MX8_any.2.2.1 MX8_any.2.2.2 ∈ gg_W := gg_at 975 (by decide +kernel)
abbrev MX8_text : sk_m := (yX8_text, cX8_text, 4, some .int)
theorem aX8_text : Cond.code MX8_text.1 MX8_text.2.1 MX8_text.2.2.1 MX8_text.2.2.2 ∈ gg_W := gg_at 971 (by decide +kernel)
abbrev MX8_untell : sk_m := (yX8_untell, cX8_untell, 2, some .int)
theorem aX8_untell : Cond.code MX8_untell.1 MX8_untell.2.1 MX8_untell.2.2.1 MX8_untell.2.2.2 ∈ gg_W := gg_at 1019 (by decide +kernel)
abbrev MX8_twoOf : sk_m := (yX8_twoOf, cX8_twoOf, 3, some .int)
theorem aX8_twoOf : Cond.code MX8_twoOf.1 MX8_twoOf.2.1 MX8_twoOf.2.2.1 MX8_twoOf.2.2.2 ∈ gg_W := gg_at 916 (by decide +kernel)
abbrev MX8_works : sk_m := (yX8_works, cX8_works, 5, some .int)
theorem aX8_works : Cond.code MX8_works.1 MX8_works.2.1 MX8_works.2.2.1 MX8_works.2.2.2 ∈ gg_W := gg_at 913 (by decide +kernel)
abbrev MX8_gives : sk_m := (yX8_gives, cX8_gives, 6, some .int)
theorem aX8_gives : Cond.code MX8_gives.1 MX8_gives.2.1 MX8_gives.2.2.1 MX8_gives.2.2.2 ∈ gg_W := gg_at 909 (by decide +kernel)
abbrev MX8_law : sk_m := (yX8_law, cX8_law, 5, some .int)
theorem aX8_law : Cond.code MX8_law.1 MX8_law.2.1 MX8_law.2.2.1 MX8_law.2.2.2 ∈ gg_W := gg_at 1023 (by decide +kernel)
abbrev MX8_pays : sk_m := (yX8_pays, cX8_pays, 2, none)
theorem aX8_pays : Cond.code MX8_pays.1 MX8_pays.2.1 MX8_pays.2.2.1 MX8_pays.2.2.2 ∈ gg_W := gg_at 1043 (by decide +kernel)
abbrev MX8_tallies : sk_m := (yX8_tallies, cX8_tallies, 4, some .int)
theorem aX8_tallies : Cond.code MX8_tallies.1 MX8_tallies.2.1 MX8_tallies.2.2.1 MX8_tallies.2.2.2 ∈ gg_W := gg_at 1031 (by decide +kernel)
abbrev MX8_tally : sk_m := (yX8_tally, cX8_tally, 1, some .int)
theorem aX8_tally : Cond.code MX8_tally.1 MX8_tally.2.1 MX8_tally.2.2.1 MX8_tally.2.2.2 ∈ gg_W := gg_at 1027 (by decide +kernel)
abbrev MX8_draw : sk_m := (yX8_draw, cX8_draw, 1, some .int)
theorem aX8_draw : Cond.code MX8_draw.1 MX8_draw.2.1 MX8_draw.2.2.1 MX8_draw.2.2.2 ∈ gg_W := gg_at 1055 (by decide +kernel)
abbrev MX8_drawn : sk_m := (yX8_drawn, cX8_drawn, 4, some .int)
theorem aX8_drawn : Cond.code MX8_drawn.1 MX8_drawn.2.1 MX8_drawn.2.2.1 MX8_drawn.2.2.2 ∈ gg_W := gg_at 1051 (by decide +kernel)
abbrev MX8_loose : sk_m := (yX8_loose, cX8_loose, 4, some .int)
theorem aX8_loose : Cond.code MX8_loose.1 MX8_loose.2.1 MX8_loose.2.2.1 MX8_loose.2.2.2 ∈ gg_W := gg_at 1047 (by decide +kernel)
abbrev MX8_seed : sk_m := (yX8_seed, cX8_seed, 2, some .int)
theorem aX8_seed : Cond.code MX8_seed.1 MX8_seed.2.1 MX8_seed.2.2.1 MX8_seed.2.2.2 ∈ gg_W := gg_at 1060 (by decide +kernel)
abbrev MX8_catches : sk_m := (yX8_catches, cX8_catches, 2, some .int)
theorem aX8_catches : Cond.code MX8_catches.1 MX8_catches.2.1 MX8_catches.2.2.1 MX8_catches.2.2.2 ∈ gg_W := gg_at 1064 (by decide +kernel)
abbrev MX8_enough : sk_m := (yX8_enough, cX8_enough, 6, some .int)
theorem aX8_enough : Cond.code MX8_enough.1 MX8_enough.2.1 MX8_enough.2.2.1 MX8_enough.2.2.2 ∈ gg_W := gg_at 1076 (by decide +kernel)
abbrev MX8_safe : sk_m := (yX8_safe, cX8_safe, 3, some .int)
theorem aX8_safe : Cond.code MX8_safe.1 MX8_safe.2.1 MX8_safe.2.2.1 MX8_safe.2.2.2 ∈ gg_W := gg_at 1072 (by decide +kernel)
abbrev MX8_shortest : sk_m := (yX8_shortest, cX8_shortest, 6, some .int)
theorem aX8_shortest : Cond.code MX8_shortest.1 MX8_shortest.2.1 MX8_shortest.2.2.1 MX8_shortest.2.2.2 ∈ gg_W := gg_at 1084 (by decide +kernel)
abbrev MX8_best : sk_m := (yX8_best, cX8_best, 9, some .int)
theorem aX8_best : Cond.code MX8_best.1 MX8_best.2.1 MX8_best.2.2.1 MX8_best.2.2.2 ∈ gg_W := gg_at 1080 (by decide +kernel)
abbrev MX8_agrees : sk_m := (yX8_agrees, cX8_agrees, 7, some .int)
theorem aX8_agrees : Cond.code MX8_agrees.1 MX8_agrees.2.1 MX8_agrees.2.2.1 MX8_agrees.2.2.2 ∈ gg_W := gg_at 1088 (by decide +kernel)
abbrev MX8_isEnough : sk_m := (yX8_isEnough, cX8_isEnough, 6, some .boolean)
theorem aX8_isEnough : Cond.code MX8_isEnough.1 MX8_isEnough.2.1 MX8_isEnough.2.2.1 MX8_isEnough.2.2.2 ∈ gg_W := gg_at 1100 (by decide +kernel)
abbrev MX8_needs : sk_m := (yX8_needs, cX8_needs, 5, some .int)
theorem aX8_needs : Cond.code MX8_needs.1 MX8_needs.2.1 MX8_needs.2.2.1 MX8_needs.2.2.2 ∈ gg_W := gg_at 1093 (by decide +kernel)
abbrev MX8_soonest : sk_m := (yX8_soonest, cX8_soonest, 5, some .int)
theorem aX8_soonest : Cond.code MX8_soonest.1 MX8_soonest.2.1 MX8_soonest.2.2.1 MX8_soonest.2.2.2 ∈ gg_W := gg_at 1104 (by decide +kernel)
abbrev MX8_partOf : sk_m := (yX8_partOf, cX8_partOf, 6, some .int)
theorem aX8_partOf : Cond.code MX8_partOf.1 MX8_partOf.2.1 MX8_partOf.2.2.1 MX8_partOf.2.2.2 ∈ gg_W := gg_at 1111 (by decide +kernel)
abbrev MX8_odds : sk_m := (yX8_odds, cX8_odds, 4, some .int)
theorem aX8_odds : Cond.code MX8_odds.1 MX8_odds.2.1 MX8_odds.2.2.1 MX8_odds.2.2.2 ∈ gg_W := gg_at 1108 (by decide +kernel)
abbrev MX8_mean : sk_m := (yX8_mean, cX8_mean, 6, some .int)
theorem aX8_mean : Cond.code MX8_mean.1 MX8_mean.2.1 MX8_mean.2.2.1 MX8_mean.2.2.2 ∈ gg_W := gg_at 1115 (by decide +kernel)
abbrev MX8_rightOf : sk_m := (yX8_rightOf, cX8_rightOf, 3, some .int)
theorem aX8_rightOf : Cond.code MX8_rightOf.1 MX8_rightOf.2.1 MX8_rightOf.2.2.1 MX8_rightOf.2.2.2 ∈ gg_W := gg_at 1126 (by decide +kernel)
abbrev MX8_fits : sk_m := (yX8_fits, cX8_fits, 8, some .int)
theorem aX8_fits : Cond.code MX8_fits.1 MX8_fits.2.1 MX8_fits.2.2.1 MX8_fits.2.2.2 ∈ gg_W := gg_at 1119 (by decide +kernel)
abbrev MX8_begins : sk_m := (yX8_begins, cX8_begins, 2, none)
theorem aX8_begins : Cond.code MX8_begins.1 MX8_begins.2.1 MX8_begins.2.2.1 MX8_begins.2.2.2 ∈ gg_W := gg_at 1142 (by decide +kernel)
abbrev MX8_plainCalls : sk_m := (yX8_plainCalls, cX8_plainCalls, 3, some .int)
theorem aX8_plainCalls : Cond.code MX8_plainCalls.1 MX8_plainCalls.2.1 MX8_plainCalls.2.2.1 MX8_plainCalls.2.2.2 ∈ gg_W := gg_at 1146 (by decide +kernel)
abbrev MX8_smackCalls : sk_m := (yX8_smackCalls, cX8_smackCalls, 3, some .int)
theorem aX8_smackCalls : Cond.code MX8_smackCalls.1 MX8_smackCalls.2.1 MX8_smackCalls.2.2.1 MX8_smackCalls.2.2.2 ∈ gg_W := gg_at 1138 (by decide +kernel)
abbrev MX8_calls : sk_m := (yX8_calls, cX8_calls, 3, some .int)
theorem aX8_calls : Cond.code MX8_calls.1 MX8_calls.2.1 MX8_calls.2.2.1 MX8_calls.2.2.2 ∈ gg_W := gg_at 1134 (by decide +kernel)
abbrev MX8_plainHauls : sk_m := (yX8_plainHauls, cX8_plainHauls, 3, some .int)
theorem aX8_plainHauls : Cond.code MX8_plainHauls.1 MX8_plainHauls.2.1 MX8_plainHauls.2.2.1 MX8_plainHauls.2.2.2 ∈ gg_W := gg_at 1158 (by decide +kernel)
abbrev MX8_skiffHauls : sk_m := (yX8_skiffHauls, cX8_skiffHauls, 3, some .int)
theorem aX8_skiffHauls : Cond.code MX8_skiffHauls.1 MX8_skiffHauls.2.1 MX8_skiffHauls.2.2.1 MX8_skiffHauls.2.2.2 ∈ gg_W := gg_at 1154 (by decide +kernel)
abbrev MX8_hauls : sk_m := (yX8_hauls, cX8_hauls, 3, some .int)
theorem aX8_hauls : Cond.code MX8_hauls.1 MX8_hauls.2.1 MX8_hauls.2.2.1 MX8_hauls.2.2.2 ∈ gg_W := gg_at 1150 (by decide +kernel)
abbrev MX8_plainLets : sk_m := (yX8_plainLets, cX8_plainLets, 3, some .int)
theorem aX8_plainLets : Cond.code MX8_plainLets.1 MX8_plainLets.2.1 MX8_plainLets.2.2.1 MX8_plainLets.2.2.2 ∈ gg_W := gg_at 1166 (by decide +kernel)
abbrev MX8_letsBy : sk_m := (yX8_letsBy, cX8_letsBy, 3, some .int)
theorem aX8_letsBy : Cond.code MX8_letsBy.1 MX8_letsBy.2.1 MX8_letsBy.2.2.1 MX8_letsBy.2.2.2 ∈ gg_W := gg_at 1162 (by decide +kernel)
abbrev MX8_plainParts : sk_m := (yX8_plainParts, cX8_plainParts, 4, some .int)
theorem aX8_plainParts : Cond.code MX8_plainParts.1 MX8_plainParts.2.1 MX8_plainParts.2.2.1 MX8_plainParts.2.2.2 ∈ gg_W := gg_at 1174 (by decide +kernel)
abbrev MX8_partsBy : sk_m := (yX8_partsBy, cX8_partsBy, 4, some .int)
theorem aX8_partsBy : Cond.code MX8_partsBy.1 MX8_partsBy.2.1 MX8_partsBy.2.2.1 MX8_partsBy.2.2.2 ∈ gg_W := gg_at 1170 (by decide +kernel)
abbrev MX8_voice : sk_m := (yX8_voice, cX8_voice, 5, some .int)
theorem aX8_voice : Cond.code MX8_voice.1 MX8_voice.2.1 MX8_voice.2.2.1 MX8_voice.2.2.2 ∈ gg_W := gg_at 1130 (by decide +kernel)
abbrev MX8_body : sk_m := (yX8_body, cX8_body, 2, some .int)
theorem aX8_body : Cond.code MX8_body.1 MX8_body.2.1 MX8_body.2.2.1 MX8_body.2.2.2 ∈ gg_W := gg_at 1179 (by decide +kernel)
abbrev MX8_isSheet : sk_m := (yX8_isSheet, cX8_isSheet, 1, some .boolean)
theorem aX8_isSheet : Cond.code MX8_isSheet.1 MX8_isSheet.2.1 MX8_isSheet.2.2.1 MX8_isSheet.2.2.2 ∈ gg_W := gg_at 1122 (by decide +kernel)
abbrev MX8_sheet : sk_m := (yX8_sheet, cX8_sheet, 5, some .int)
theorem aX8_sheet : Cond.code MX8_sheet.1 MX8_sheet.2.1 MX8_sheet.2.2.1 MX8_sheet.2.2.2 ∈ gg_W := gg_at 1183 (by decide +kernel)
abbrev MX8_notThere : sk_m := (yX8_notThere, cX8_notThere, 2, some .int)
theorem aX8_notThere : Cond.code MX8_notThere.1 MX8_notThere.2.1 MX8_notThere.2.2.1 MX8_notThere.2.2.2 ∈ gg_W := gg_at 1191 (by decide +kernel)
abbrev MX8_put : sk_m := (yX8_put, cX8_put, 5, some .int)
theorem aX8_put : Cond.code MX8_put.1 MX8_put.2.1 MX8_put.2.2.1 MX8_put.2.2.2 ∈ gg_W := gg_at 1187 (by decide +kernel)
abbrev MX8_notMoved : sk_m := (yX8_notMoved, cX8_notMoved, 7, some .int)
theorem aX8_notMoved : Cond.code MX8_notMoved.1 MX8_notMoved.2.1 MX8_notMoved.2.2.1 MX8_notMoved.2.2.2 ∈ gg_W := gg_at 1199 (by decide +kernel)
abbrev MX8_move : sk_m := (yX8_move, cX8_move, 9, some .int)
theorem aX8_move : Cond.code MX8_move.1 MX8_move.2.1 MX8_move.2.2.1 MX8_move.2.2.2 ∈ gg_W := gg_at 1195 (by decide +kernel)
abbrev MX8_prices : sk_m := (yX8_prices, cX8_prices, 4, some .int)
theorem aX8_prices : Cond.code MX8_prices.1 MX8_prices.2.1 MX8_prices.2.2.1 MX8_prices.2.2.2 ∈ gg_W := gg_at 1203 (by decide +kernel)
abbrev MX8_judge : sk_m := (yX8_judge, cX8_judge, 3, some .int)
theorem aX8_judge : Cond.code MX8_judge.1 MX8_judge.2.1 MX8_judge.2.2.1 MX8_judge.2.2.2 ∈ gg_W := gg_at 1207 (by decide +kernel)
abbrev MX8_image : sk_m := (yX8_image, cX8_image, 1, some .int)
theorem aX8_image : Cond.code MX8_image.1 MX8_image.2.1 MX8_image.2.2.1 MX8_image.2.2.2 ∈ gg_W := gg_at 1211 (by decide +kernel)
abbrev MX8_restore : sk_m := (yX8_restore, cX8_restore, 1, some .int)
theorem aX8_restore : Cond.code MX8_restore.1 MX8_restore.2.1 MX8_restore.2.2.1 MX8_restore.2.2.2 ∈ gg_W := gg_at 1218 (by decide +kernel)
abbrev MX8_tell : sk_m := (yX8_tell, cX8_tell, 2, some .int)
theorem aX8_tell : Cond.code MX8_tell.1 MX8_tell.2.1 MX8_tell.2.2.1 MX8_tell.2.2.2 ∈ gg_W := gg_at 1222 (by decide +kernel)
abbrev MX8_check : sk_m := (yX8_check, cX8_check, 3, some .int)
theorem aX8_check : Cond.code MX8_check.1 MX8_check.2.1 MX8_check.2.2.1 MX8_check.2.2.2 ∈ gg_W := gg_at 1226 (by decide +kernel)
abbrev MX8_count : sk_m := (yX8_count, cX8_count, 2, some .int)
theorem aX8_count : Cond.code MX8_count.1 MX8_count.2.1 MX8_count.2.2.1 MX8_count.2.2.2 ∈ gg_W := gg_at 1230 (by decide +kernel)
abbrev MX8_told : sk_m := (yX8_told, cX8_told, 2, some .int)
theorem aX8_told : Cond.code MX8_told.1 MX8_told.2.1 MX8_told.2.2.1 MX8_told.2.2.2 ∈ gg_W := gg_at 1234 (by decide +kernel)
abbrev MJ6_numberOfTrailingZeros_0f7a4 : sk_m := (yJ6_numberOfTrailingZeros_0f7a4, cJ6_numberOfTrailingZeros_0f7a4, 2, some .int)
theorem aJ6_numberOfTrailingZeros_0f7a4 : Cond.code MJ6_numberOfTrailingZeros_0f7a4.1 MJ6_numberOfTrailingZeros_0f7a4.2.1 MJ6_numberOfTrailingZeros_0f7a4.2.2.1 MJ6_numberOfTrailingZeros_0f7a4.2.2.2 ∈ gg_W := gg_at 695 (by decide +kernel)
abbrev MJ6_bitCount_0f7a4 : sk_m := (yJ6_bitCount_0f7a4, cJ6_bitCount_0f7a4, 1, some .int)
theorem aJ6_bitCount_0f7a4 : Cond.code MJ6_bitCount_0f7a4.1 MJ6_bitCount_0f7a4.2.1 MJ6_bitCount_0f7a4.2.2.1 MJ6_bitCount_0f7a4.2.2.2 ∈ gg_W := gg_at 643 (by decide +kernel)
abbrev MJ9_max_7cf53 : sk_m := (yJ9_max_7cf53, cJ9_max_7cf53, 2, some .int)
theorem aJ9_max_7cf53 : Cond.code MJ9_max_7cf53.1 MJ9_max_7cf53.2.1 MJ9_max_7cf53.2.2.1 MJ9_max_7cf53.2.2.2 ∈ gg_W := gg_at 380 (by decide +kernel)
abbrev MJ9_min_7cf53 : sk_m := (yJ9_min_7cf53, cJ9_min_7cf53, 2, some .int)
theorem aJ9_min_7cf53 : Cond.code MJ9_min_7cf53.1 MJ9_min_7cf53.2.1 MJ9_min_7cf53.2.2.1 MJ9_min_7cf53.2.2.2 ∈ gg_W := gg_at 377 (by decide +kernel)
abbrev MJ0_length_8abf5 : sk_m := (yJ0_length_8abf5, cJ0_length_8abf5, 1, some .int)
theorem aJ0_length_8abf5 : Cond.code MJ0_length_8abf5.1 MJ0_length_8abf5.2.1 MJ0_length_8abf5.2.2.1 MJ0_length_8abf5.2.2.2 ∈ gg_W := gg_at 480 (by decide +kernel)
abbrev MJ0_charAt_5068e : sk_m := (yJ0_charAt_5068e, cJ0_charAt_5068e, 2, some .char)
theorem aJ0_charAt_5068e : Cond.code MJ0_charAt_5068e.1 MJ0_charAt_5068e.2.1 MJ0_charAt_5068e.2.2.1 MJ0_charAt_5068e.2.2.2 ∈ gg_W := gg_at 490 (by decide +kernel)
abbrev MJ0_coder_7d493 : sk_m := (yJ0_coder_7d493, cJ0_coder_7d493, 1, some .byte)
theorem aJ0_coder_7d493 : Cond.code MJ0_coder_7d493.1 MJ0_coder_7d493.2.1 MJ0_coder_7d493.2.2.1 MJ0_coder_7d493.2.2.2 ∈ gg_W := gg_at 484 (by decide +kernel)
abbrev MJ0_isLatin1_aae02 : sk_m := (yJ0_isLatin1_aae02, cJ0_isLatin1_aae02, 1, some .boolean)
theorem aJ0_isLatin1_aae02 : Cond.code MJ0_isLatin1_aae02.1 MJ0_isLatin1_aae02.2.1 MJ0_isLatin1_aae02.2.2.1 MJ0_isLatin1_aae02.2.2.2 ∈ gg_W := gg_at 494 (by decide +kernel)
abbrev MJ0_checkIndex_df160 : sk_m := (yJ0_checkIndex_df160, cJ0_checkIndex_df160, 2, none)
theorem aJ0_checkIndex_df160 : Cond.code MJ0_checkIndex_df160.1 MJ0_checkIndex_df160.2.1 MJ0_checkIndex_df160.2.2.1 MJ0_checkIndex_df160.2.2.2 ∈ gg_W := gg_at 500 (by decide +kernel)
abbrev MJ1_charAt_3b067 : sk_m := (yJ1_charAt_3b067, cJ1_charAt_3b067, 2, some .char)
theorem aJ1_charAt_3b067 : Cond.code MJ1_charAt_3b067.1 MJ1_charAt_3b067.2.1 MJ1_charAt_3b067.2.2.1 MJ1_charAt_3b067.2.2.2 ∈ gg_W := gg_at 497 (by decide +kernel)
abbrev MJ2_getChar_3b067 : sk_m := (yJ2_getChar_3b067, cJ2_getChar_3b067, 2, some .char)
theorem aJ2_getChar_3b067 : Cond.code MJ2_getChar_3b067.1 MJ2_getChar_3b067.2.1 MJ2_getChar_3b067.2.2.1 MJ2_getChar_3b067.2.2.2 ∈ gg_W := gg_at 518 (by decide +kernel)
abbrev MJ2_length_9d52b : sk_m := (yJ2_length_9d52b, cJ2_length_9d52b, 1, some .int)
theorem aJ2_length_9d52b : Cond.code MJ2_length_9d52b.1 MJ2_length_9d52b.2.1 MJ2_length_9d52b.2.2.1 MJ2_length_9d52b.2.2.2 ∈ gg_W := gg_at 514 (by decide +kernel)
abbrev MJ2_charAt_3b067 : sk_m := (yJ2_charAt_3b067, cJ2_charAt_3b067, 2, some .char)
theorem aJ2_charAt_3b067 : Cond.code MJ2_charAt_3b067.1 MJ2_charAt_3b067.2.1 MJ2_charAt_3b067.2.2.1 MJ2_charAt_3b067.2.2.2 ∈ gg_W := gg_at 508 (by decide +kernel)
abbrev MJ2_checkIndex_2214a : sk_m := (yJ2_checkIndex_2214a, cJ2_checkIndex_2214a, 2, none)
theorem aJ2_checkIndex_2214a : Cond.code MJ2_checkIndex_2214a.1 MJ2_checkIndex_2214a.2.1 MJ2_checkIndex_2214a.2.2.1 MJ2_checkIndex_2214a.2.2.2 ∈ gg_W := gg_at 511 (by decide +kernel)
abbrev MJ7_fill_53178 : sk_m := (yJ7_fill_53178, cJ7_fill_53178, 4, none)
theorem aJ7_fill_53178 : Cond.code MJ7_fill_53178.1 MJ7_fill_53178.2.1 MJ7_fill_53178.2.2.1 MJ7_fill_53178.2.2.2 ∈ gg_W := gg_at 120 (by decide +kernel)
abbrev MJ3_checkIndex_8e157 : sk_m := (yJ3_checkIndex_8e157, cJ3_checkIndex_8e157, 3, some .int)
theorem aJ3_checkIndex_8e157 : Cond.code MJ3_checkIndex_8e157.1 MJ3_checkIndex_8e157.2.1 MJ3_checkIndex_8e157.2.2.1 MJ3_checkIndex_8e157.2.2.2 ∈ gg_W := gg_at 505 (by decide +kernel)
theorem iniRL : Cond.initialized RL ∈ gg_W := gg_at 82 (by decide +kernel)
theorem iniRX7 : Cond.initialized RX7 ∈ gg_W := gg_at 83 (by decide +kernel)
theorem iniRX2 : Cond.initialized RX2 ∈ gg_W := gg_at 84 (by decide +kernel)
theorem iniRJ7 : Cond.initialized RJ7 ∈ gg_W := gg_at 85 (by decide +kernel)
theorem iniRX0 : Cond.initialized RX0 ∈ gg_W := gg_at 86 (by decide +kernel)
theorem iniRX1 : Cond.initialized RX1 ∈ gg_W := gg_at 87 (by decide +kernel)
theorem iniRX3 : Cond.initialized RX3 ∈ gg_W := gg_at 88 (by decide +kernel)
theorem iniRX6 : Cond.initialized RX6 ∈ gg_W := gg_at 89 (by decide +kernel)
theorem iniRX4 : Cond.initialized RX4 ∈ gg_W := gg_at 90 (by decide +kernel)
theorem iniRX8 : Cond.initialized RX8 ∈ gg_W := gg_at 91 (by decide +kernel)
theorem iniRJ9 : Cond.initialized RJ9 ∈ gg_W := gg_at 92 (by decide +kernel)
theorem iniRJ10 : Cond.initialized RJ10 ∈ gg_W := gg_at 93 (by decide +kernel)
theorem iniRJ0 : Cond.initialized RJ0 ∈ gg_W := gg_at 94 (by decide +kernel)
theorem iniRJ1 : Cond.initialized RJ1 ∈ gg_W := gg_at 95 (by decide +kernel)
theorem iniRJ3 : Cond.initialized RJ3 ∈ gg_W := gg_at 96 (by decide +kernel)
theorem iniRJ2 : Cond.initialized RJ2 ∈ gg_W := gg_at 97 (by decide +kernel)
theorem iniRX5 : Cond.initialized RX5 ∈ gg_W := gg_at 98 (by decide +kernel)
theorem iniRJ6 : Cond.initialized RJ6 ∈ gg_W := gg_at 99 (by decide +kernel)
theorem dsX0_init : MX0_init.1.cls ≠ "java/lang/invoke/MethodHandle" ∧ MX0_init.1.cls ≠ "java/lang/invoke/VarHandle" ∧ (parseMethodDescriptor MX0_init.1.desc).map (fun d => d.parameters.length) = some 0 := by decide +kernel
theorem dsX0_turnInto : MX0_turnInto.1.cls ≠ "java/lang/invoke/MethodHandle" ∧ MX0_turnInto.1.cls ≠ "java/lang/invoke/VarHandle" ∧ (parseMethodDescriptor MX0_turnInto.1.desc).map (fun d => d.parameters.length) = some 1 := by decide +kernel
theorem viX0_turnInto : Cond.instanceMethod MX0_turnInto.1 ∈ gg_W := gg_at 343 (by decide +kernel)
theorem vsX0_turnInto : Cond.selects MX0_turnInto.1.cls MX0_turnInto.1 MX0_turnInto.1 ∈ gg_W := gg_at 1 (by decide +kernel)
theorem dsX0_takeFrom : MX0_takeFrom.1.cls ≠ "java/lang/invoke/MethodHandle" ∧ MX0_takeFrom.1.cls ≠ "java/lang/invoke/VarHandle" ∧ (parseMethodDescriptor MX0_takeFrom.1.desc).map (fun d => d.parameters.length) = some 1 := by decide +kernel
theorem viX0_takeFrom : Cond.instanceMethod MX0_takeFrom.1 ∈ gg_W := gg_at 771 (by decide +kernel)
theorem vsX0_takeFrom : Cond.selects MX0_takeFrom.1.cls MX0_takeFrom.1 MX0_takeFrom.1 ∈ gg_W := gg_at 34 (by decide +kernel)
theorem dsX0_isOneOf : MX0_isOneOf.1.cls ≠ "java/lang/invoke/MethodHandle" ∧ MX0_isOneOf.1.cls ≠ "java/lang/invoke/VarHandle" ∧ (parseMethodDescriptor MX0_isOneOf.1.desc).map (fun d => d.parameters.length) = some 1 := by decide +kernel
theorem viX0_isOneOf : Cond.instanceMethod MX0_isOneOf.1 ∈ gg_W := gg_at 394 (by decide +kernel)
theorem vsX0_isOneOf : Cond.selects MX0_isOneOf.1.cls MX0_isOneOf.1 MX0_isOneOf.1 ∈ gg_W := gg_at 7 (by decide +kernel)
theorem dsX0_hauls : MX0_hauls.1.cls ≠ "java/lang/invoke/MethodHandle" ∧ MX0_hauls.1.cls ≠ "java/lang/invoke/VarHandle" ∧ (parseMethodDescriptor MX0_hauls.1.desc).map (fun d => d.parameters.length) = some 3 := by decide +kernel
theorem viX0_hauls : Cond.instanceMethod MX0_hauls.1 ∈ gg_W := gg_at 366 (by decide +kernel)
theorem vsX0_hauls : Cond.selects MX0_hauls.1.cls MX0_hauls.1 MX0_hauls.1 ∈ gg_W := gg_at 5 (by decide +kernel)
theorem dsX0_eats : MX0_eats.1.cls ≠ "java/lang/invoke/MethodHandle" ∧ MX0_eats.1.cls ≠ "java/lang/invoke/VarHandle" ∧ (parseMethodDescriptor MX0_eats.1.desc).map (fun d => d.parameters.length) = some 1 := by decide +kernel
theorem viX0_eats : Cond.instanceMethod MX0_eats.1 ∈ gg_W := gg_at 358 (by decide +kernel)
theorem vsX0_eats : Cond.selects MX0_eats.1.cls MX0_eats.1 MX0_eats.1 ∈ gg_W := gg_at 3 (by decide +kernel)
theorem dsX1_init : MX1_init.1.cls ≠ "java/lang/invoke/MethodHandle" ∧ MX1_init.1.cls ≠ "java/lang/invoke/VarHandle" ∧ (parseMethodDescriptor MX1_init.1.desc).map (fun d => d.parameters.length) = some 0 := by decide +kernel
theorem dsX1_take : MX1_take.1.cls ≠ "java/lang/invoke/MethodHandle" ∧ MX1_take.1.cls ≠ "java/lang/invoke/VarHandle" ∧ (parseMethodDescriptor MX1_take.1.desc).map (fun d => d.parameters.length) = some 2 := by decide +kernel
theorem viX1_take : Cond.instanceMethod MX1_take.1 ∈ gg_W := gg_at 538 (by decide +kernel)
theorem vsX1_take : Cond.selects MX1_take.1.cls MX1_take.1 MX1_take.1 ∈ gg_W := gg_at 19 (by decide +kernel)
theorem dsX1_takeFrom : MX1_takeFrom.1.cls ≠ "java/lang/invoke/MethodHandle" ∧ MX1_takeFrom.1.cls ≠ "java/lang/invoke/VarHandle" ∧ (parseMethodDescriptor MX1_takeFrom.1.desc).map (fun d => d.parameters.length) = some 1 := by decide +kernel
theorem viX1_takeFrom : Cond.instanceMethod MX1_takeFrom.1 ∈ gg_W := gg_at 775 (by decide +kernel)
theorem vsX1_takeFrom : Cond.selects MX1_takeFrom.1.cls MX1_takeFrom.1 MX1_takeFrom.1 ∈ gg_W := gg_at 35 (by decide +kernel)
theorem dsX1_gives : MX1_gives.1.cls ≠ "java/lang/invoke/MethodHandle" ∧ MX1_gives.1.cls ≠ "java/lang/invoke/VarHandle" ∧ (parseMethodDescriptor MX1_gives.1.desc).map (fun d => d.parameters.length) = some 3 := by decide +kernel
theorem viX1_gives : Cond.instanceMethod MX1_gives.1 ∈ gg_W := gg_at 370 (by decide +kernel)
theorem vsX1_gives : Cond.selects MX1_gives.1.cls MX1_gives.1 MX1_gives.1 ∈ gg_W := gg_at 6 (by decide +kernel)
theorem dsX1_joined : MX1_joined.1.cls ≠ "java/lang/invoke/MethodHandle" ∧ MX1_joined.1.cls ≠ "java/lang/invoke/VarHandle" ∧ (parseMethodDescriptor MX1_joined.1.desc).map (fun d => d.parameters.length) = some 3 := by decide +kernel
theorem stX1_joined : Cond.static MX1_joined.1 ∈ gg_W := gg_at 382 (by decide +kernel)
theorem dsX2_init : MX2_init.1.cls ≠ "java/lang/invoke/MethodHandle" ∧ MX2_init.1.cls ≠ "java/lang/invoke/VarHandle" ∧ (parseMethodDescriptor MX2_init.1.desc).map (fun d => d.parameters.length) = some 0 := by decide +kernel
theorem dsX2_takeFrom : MX2_takeFrom.1.cls ≠ "java/lang/invoke/MethodHandle" ∧ MX2_takeFrom.1.cls ≠ "java/lang/invoke/VarHandle" ∧ (parseMethodDescriptor MX2_takeFrom.1.desc).map (fun d => d.parameters.length) = some 1 := by decide +kernel
theorem viX2_takeFrom : Cond.instanceMethod MX2_takeFrom.1 ∈ gg_W := gg_at 766 (by decide +kernel)
theorem vsX2_takeFrom : Cond.selects MX2_takeFrom.1.cls MX2_takeFrom.1 MX2_takeFrom.1 ∈ gg_W := gg_at 33 (by decide +kernel)
theorem dsX2_landed : MX2_landed.1.cls ≠ "java/lang/invoke/MethodHandle" ∧ MX2_landed.1.cls ≠ "java/lang/invoke/VarHandle" ∧ (parseMethodDescriptor MX2_landed.1.desc).map (fun d => d.parameters.length) = some 5 := by decide +kernel
theorem viX2_landed : Cond.instanceMethod MX2_landed.1 ∈ gg_W := gg_at 362 (by decide +kernel)
theorem vsX2_landed : Cond.selects MX2_landed.1.cls MX2_landed.1 MX2_landed.1 ∈ gg_W := gg_at 4 (by decide +kernel)
theorem dsX2_caught : MX2_caught.1.cls ≠ "java/lang/invoke/MethodHandle" ∧ MX2_caught.1.cls ≠ "java/lang/invoke/VarHandle" ∧ (parseMethodDescriptor MX2_caught.1.desc).map (fun d => d.parameters.length) = some 4 := by decide +kernel
theorem viX2_caught : Cond.instanceMethod MX2_caught.1 ∈ gg_W := gg_at 562 (by decide +kernel)
theorem vsX2_caught : Cond.selects MX2_caught.1.cls MX2_caught.1 MX2_caught.1 ∈ gg_W := gg_at 21 (by decide +kernel)
theorem dsX2_caughtNow : MX2_caughtNow.1.cls ≠ "java/lang/invoke/MethodHandle" ∧ MX2_caughtNow.1.cls ≠ "java/lang/invoke/VarHandle" ∧ (parseMethodDescriptor MX2_caughtNow.1.desc).map (fun d => d.parameters.length) = some 1 := by decide +kernel
theorem viX2_caughtNow : Cond.instanceMethod MX2_caughtNow.1 ∈ gg_W := gg_at 594 (by decide +kernel)
theorem vsX2_caughtNow : Cond.selects MX2_caughtNow.1.cls MX2_caughtNow.1 MX2_caughtNow.1 ∈ gg_W := gg_at 24 (by decide +kernel)
theorem dsX2_coins : MX2_coins.1.cls ≠ "java/lang/invoke/MethodHandle" ∧ MX2_coins.1.cls ≠ "java/lang/invoke/VarHandle" ∧ (parseMethodDescriptor MX2_coins.1.desc).map (fun d => d.parameters.length) = some 2 := by decide +kernel
theorem viX2_coins : Cond.instanceMethod MX2_coins.1 ∈ gg_W := gg_at 425 (by decide +kernel)
theorem vsX2_coins : Cond.selects MX2_coins.1.cls MX2_coins.1 MX2_coins.1 ∈ gg_W := gg_at 9 (by decide +kernel)
theorem dsX2_promise : MX2_promise.1.cls ≠ "java/lang/invoke/MethodHandle" ∧ MX2_promise.1.cls ≠ "java/lang/invoke/VarHandle" ∧ (parseMethodDescriptor MX2_promise.1.desc).map (fun d => d.parameters.length) = some 2 := by decide +kernel
theorem viX2_promise : Cond.instanceMethod MX2_promise.1 ∈ gg_W := gg_at 421 (by decide +kernel)
theorem vsX2_promise : Cond.selects MX2_promise.1.cls MX2_promise.1 MX2_promise.1 ∈ gg_W := gg_at 8 (by decide +kernel)
theorem dsX2_settle : MX2_settle.1.cls ≠ "java/lang/invoke/MethodHandle" ∧ MX2_settle.1.cls ≠ "java/lang/invoke/VarHandle" ∧ (parseMethodDescriptor MX2_settle.1.desc).map (fun d => d.parameters.length) = some 0 := by decide +kernel
theorem viX2_settle : Cond.instanceMethod MX2_settle.1 ∈ gg_W := gg_at 558 (by decide +kernel)
theorem vsX2_settle : Cond.selects MX2_settle.1.cls MX2_settle.1 MX2_settle.1 ∈ gg_W := gg_at 20 (by decide +kernel)
theorem dsX2_dayByDraws : MX2_dayByDraws.1.cls ≠ "java/lang/invoke/MethodHandle" ∧ MX2_dayByDraws.1.cls ≠ "java/lang/invoke/VarHandle" ∧ (parseMethodDescriptor MX2_dayByDraws.1.desc).map (fun d => d.parameters.length) = some 0 := by decide +kernel
theorem viX2_dayByDraws : Cond.instanceMethod MX2_dayByDraws.1 ∈ gg_W := gg_at 575 (by decide +kernel)
theorem vsX2_dayByDraws : Cond.selects MX2_dayByDraws.1.cls MX2_dayByDraws.1 MX2_dayByDraws.1 ∈ gg_W := gg_at 22 (by decide +kernel)
theorem dsX2_draw : MX2_draw.1.cls ≠ "java/lang/invoke/MethodHandle" ∧ MX2_draw.1.cls ≠ "java/lang/invoke/VarHandle" ∧ (parseMethodDescriptor MX2_draw.1.desc).map (fun d => d.parameters.length) = some 0 := by decide +kernel
theorem viX2_draw : Cond.instanceMethod MX2_draw.1 ∈ gg_W := gg_at 579 (by decide +kernel)
theorem vsX2_draw : Cond.selects MX2_draw.1.cls MX2_draw.1 MX2_draw.1 ∈ gg_W := gg_at 23 (by decide +kernel)
theorem dsX3_init : MX3_init.1.cls ≠ "java/lang/invoke/MethodHandle" ∧ MX3_init.1.cls ≠ "java/lang/invoke/VarHandle" ∧ (parseMethodDescriptor MX3_init.1.desc).map (fun d => d.parameters.length) = some 0 := by decide +kernel
theorem dsX3_faultIn : MX3_faultIn.1.cls ≠ "java/lang/invoke/MethodHandle" ∧ MX3_faultIn.1.cls ≠ "java/lang/invoke/VarHandle" ∧ (parseMethodDescriptor MX3_faultIn.1.desc).map (fun d => d.parameters.length) = some 3 := by decide +kernel
theorem viX3_faultIn : Cond.instanceMethod MX3_faultIn.1 ∈ gg_W := gg_at 442 (by decide +kernel)
theorem vsX3_faultIn : Cond.selects MX3_faultIn.1.cls MX3_faultIn.1 MX3_faultIn.1 ∈ gg_W := gg_at 10 (by decide +kernel)
theorem dsX3_readLevel : MX3_readLevel.1.cls ≠ "java/lang/invoke/MethodHandle" ∧ MX3_readLevel.1.cls ≠ "java/lang/invoke/VarHandle" ∧ (parseMethodDescriptor MX3_readLevel.1.desc).map (fun d => d.parameters.length) = some 2 := by decide +kernel
theorem viX3_readLevel : Cond.instanceMethod MX3_readLevel.1 ∈ gg_W := gg_at 451 (by decide +kernel)
theorem vsX3_readLevel : Cond.selects MX3_readLevel.1.cls MX3_readLevel.1 MX3_readLevel.1 ∈ gg_W := gg_at 11 (by decide +kernel)
theorem dsX3_readItem : MX3_readItem.1.cls ≠ "java/lang/invoke/MethodHandle" ∧ MX3_readItem.1.cls ≠ "java/lang/invoke/VarHandle" ∧ (parseMethodDescriptor MX3_readItem.1.desc).map (fun d => d.parameters.length) = some 1 := by decide +kernel
theorem viX3_readItem : Cond.instanceMethod MX3_readItem.1 ∈ gg_W := gg_at 455 (by decide +kernel)
theorem vsX3_readItem : Cond.selects MX3_readItem.1.cls MX3_readItem.1 MX3_readItem.1 ∈ gg_W := gg_at 12 (by decide +kernel)
theorem dsX3_readDenied : MX3_readDenied.1.cls ≠ "java/lang/invoke/MethodHandle" ∧ MX3_readDenied.1.cls ≠ "java/lang/invoke/VarHandle" ∧ (parseMethodDescriptor MX3_readDenied.1.desc).map (fun d => d.parameters.length) = some 1 := by decide +kernel
theorem viX3_readDenied : Cond.instanceMethod MX3_readDenied.1 ∈ gg_W := gg_at 527 (by decide +kernel)
theorem vsX3_readDenied : Cond.selects MX3_readDenied.1.cls MX3_readDenied.1 MX3_readDenied.1 ∈ gg_W := gg_at 17 (by decide +kernel)
theorem dsX3_readBracketed : MX3_readBracketed.1.cls ≠ "java/lang/invoke/MethodHandle" ∧ MX3_readBracketed.1.cls ≠ "java/lang/invoke/VarHandle" ∧ (parseMethodDescriptor MX3_readBracketed.1.desc).map (fun d => d.parameters.length) = some 1 := by decide +kernel
theorem viX3_readBracketed : Cond.instanceMethod MX3_readBracketed.1 ∈ gg_W := gg_at 531 (by decide +kernel)
theorem vsX3_readBracketed : Cond.selects MX3_readBracketed.1.cls MX3_readBracketed.1 MX3_readBracketed.1 ∈ gg_W := gg_at 18 (by decide +kernel)
theorem dsX3_readNumber : MX3_readNumber.1.cls ≠ "java/lang/invoke/MethodHandle" ∧ MX3_readNumber.1.cls ≠ "java/lang/invoke/VarHandle" ∧ (parseMethodDescriptor MX3_readNumber.1.desc).map (fun d => d.parameters.length) = some 0 := by decide +kernel
theorem viX3_readNumber : Cond.instanceMethod MX3_readNumber.1 ∈ gg_W := gg_at 466 (by decide +kernel)
theorem vsX3_readNumber : Cond.selects MX3_readNumber.1.cls MX3_readNumber.1 MX3_readNumber.1 ∈ gg_W := gg_at 14 (by decide +kernel)
theorem dsX3_next : MX3_next.1.cls ≠ "java/lang/invoke/MethodHandle" ∧ MX3_next.1.cls ≠ "java/lang/invoke/VarHandle" ∧ (parseMethodDescriptor MX3_next.1.desc).map (fun d => d.parameters.length) = some 0 := by decide +kernel
theorem viX3_next : Cond.instanceMethod MX3_next.1 ∈ gg_W := gg_at 459 (by decide +kernel)
theorem vsX3_next : Cond.selects MX3_next.1.cls MX3_next.1 MX3_next.1 ∈ gg_W := gg_at 13 (by decide +kernel)
theorem dsX3_write : MX3_write.1.cls ≠ "java/lang/invoke/MethodHandle" ∧ MX3_write.1.cls ≠ "java/lang/invoke/VarHandle" ∧ (parseMethodDescriptor MX3_write.1.desc).map (fun d => d.parameters.length) = some 1 := by decide +kernel
theorem viX3_write : Cond.instanceMethod MX3_write.1 ∈ gg_W := gg_at 470 (by decide +kernel)
theorem vsX3_write : Cond.selects MX3_write.1.cls MX3_write.1 MX3_write.1 ∈ gg_W := gg_at 15 (by decide +kernel)
theorem dsX3_isDigit : MX3_isDigit.1.cls ≠ "java/lang/invoke/MethodHandle" ∧ MX3_isDigit.1.cls ≠ "java/lang/invoke/VarHandle" ∧ (parseMethodDescriptor MX3_isDigit.1.desc).map (fun d => d.parameters.length) = some 1 := by decide +kernel
theorem stX3_isDigit : Cond.static MX3_isDigit.1 ∈ gg_W := gg_at 462 (by decide +kernel)
theorem dsX3_nameOf : MX3_nameOf.1.cls ≠ "java/lang/invoke/MethodHandle" ∧ MX3_nameOf.1.cls ≠ "java/lang/invoke/VarHandle" ∧ (parseMethodDescriptor MX3_nameOf.1.desc).map (fun d => d.parameters.length) = some 1 := by decide +kernel
theorem viX3_nameOf : Cond.instanceMethod MX3_nameOf.1 ∈ gg_W := gg_at 474 (by decide +kernel)
theorem vsX3_nameOf : Cond.selects MX3_nameOf.1.cls MX3_nameOf.1 MX3_nameOf.1 ∈ gg_W := gg_at 16 (by decide +kernel)
theorem dsX3_levelOf : MX3_levelOf.1.cls ≠ "java/lang/invoke/MethodHandle" ∧ MX3_levelOf.1.cls ≠ "java/lang/invoke/VarHandle" ∧ (parseMethodDescriptor MX3_levelOf.1.desc).map (fun d => d.parameters.length) = some 1 := by decide +kernel
theorem stX3_levelOf : Cond.static MX3_levelOf.1 ∈ gg_W := gg_at 534 (by decide +kernel)
theorem dsX4_init : MX4_init.1.cls ≠ "java/lang/invoke/MethodHandle" ∧ MX4_init.1.cls ≠ "java/lang/invoke/VarHandle" ∧ (parseMethodDescriptor MX4_init.1.desc).map (fun d => d.parameters.length) = some 0 := by decide +kernel
theorem dsX4_lay : MX4_lay.1.cls ≠ "java/lang/invoke/MethodHandle" ∧ MX4_lay.1.cls ≠ "java/lang/invoke/VarHandle" ∧ (parseMethodDescriptor MX4_lay.1.desc).map (fun d => d.parameters.length) = some 2 := by decide +kernel
theorem viX4_lay : Cond.instanceMethod MX4_lay.1 ∈ gg_W := gg_at 731 (by decide +kernel)
theorem vsX4_lay : Cond.selects MX4_lay.1.cls MX4_lay.1 MX4_lay.1 ∈ gg_W := gg_at 30 (by decide +kernel)
theorem dsX4_isMissing : MX4_isMissing.1.cls ≠ "java/lang/invoke/MethodHandle" ∧ MX4_isMissing.1.cls ≠ "java/lang/invoke/VarHandle" ∧ (parseMethodDescriptor MX4_isMissing.1.desc).map (fun d => d.parameters.length) = some 0 := by decide +kernel
theorem viX4_isMissing : Cond.instanceMethod MX4_isMissing.1 ∈ gg_W := gg_at 685 (by decide +kernel)
theorem vsX4_isMissing : Cond.selects MX4_isMissing.1.cls MX4_isMissing.1 MX4_isMissing.1 ∈ gg_W := gg_at 25 (by decide +kernel)
theorem dsX4_has : MX4_has.1.cls ≠ "java/lang/invoke/MethodHandle" ∧ MX4_has.1.cls ≠ "java/lang/invoke/VarHandle" ∧ (parseMethodDescriptor MX4_has.1.desc).map (fun d => d.parameters.length) = some 2 := by decide +kernel
theorem viX4_has : Cond.instanceMethod MX4_has.1 ∈ gg_W := gg_at 749 (by decide +kernel)
theorem vsX4_has : Cond.selects MX4_has.1.cls MX4_has.1 MX4_has.1 ∈ gg_W := gg_at 32 (by decide +kernel)
theorem dsX4_lowestBits : MX4_lowestBits.1.cls ≠ "java/lang/invoke/MethodHandle" ∧ MX4_lowestBits.1.cls ≠ "java/lang/invoke/VarHandle" ∧ (parseMethodDescriptor MX4_lowestBits.1.desc).map (fun d => d.parameters.length) = some 1 := by decide +kernel
theorem viX4_lowestBits : Cond.instanceMethod MX4_lowestBits.1 ∈ gg_W := gg_at 740 (by decide +kernel)
theorem vsX4_lowestBits : Cond.selects MX4_lowestBits.1.cls MX4_lowestBits.1 MX4_lowestBits.1 ∈ gg_W := gg_at 31 (by decide +kernel)
theorem dsX5_safest : MX5_safest.1.cls ≠ "java/lang/invoke/MethodHandle" ∧ MX5_safest.1.cls ≠ "java/lang/invoke/VarHandle" ∧ (parseMethodDescriptor MX5_safest.1.desc).map (fun d => d.parameters.length) = some 2 := by decide +kernel
theorem stX5_safest : Cond.static MX5_safest.1 ∈ gg_W := gg_at 601 (by decide +kernel)
theorem dsX5_isSafe : MX5_isSafe.1.cls ≠ "java/lang/invoke/MethodHandle" ∧ MX5_isSafe.1.cls ≠ "java/lang/invoke/VarHandle" ∧ (parseMethodDescriptor MX5_isSafe.1.desc).map (fun d => d.parameters.length) = some 3 := by decide +kernel
theorem stX5_isSafe : Cond.static MX5_isSafe.1 ∈ gg_W := gg_at 604 (by decide +kernel)
theorem dsX5_bestToSell : MX5_bestToSell.1.cls ≠ "java/lang/invoke/MethodHandle" ∧ MX5_bestToSell.1.cls ≠ "java/lang/invoke/VarHandle" ∧ (parseMethodDescriptor MX5_bestToSell.1.desc).map (fun d => d.parameters.length) = some 2 := by decide +kernel
theorem stX5_bestToSell : Cond.static MX5_bestToSell.1 ∈ gg_W := gg_at 612 (by decide +kernel)
theorem dsX5_gain : MX5_gain.1.cls ≠ "java/lang/invoke/MethodHandle" ∧ MX5_gain.1.cls ≠ "java/lang/invoke/VarHandle" ∧ (parseMethodDescriptor MX5_gain.1.desc).map (fun d => d.parameters.length) = some 3 := by decide +kernel
theorem stX5_gain : Cond.static MX5_gain.1 ∈ gg_W := gg_at 615 (by decide +kernel)
theorem dsX5_agreesWithItself : MX5_agreesWithItself.1.cls ≠ "java/lang/invoke/MethodHandle" ∧ MX5_agreesWithItself.1.cls ≠ "java/lang/invoke/VarHandle" ∧ (parseMethodDescriptor MX5_agreesWithItself.1.desc).map (fun d => d.parameters.length) = some 3 := by decide +kernel
theorem stX5_agreesWithItself : Cond.static MX5_agreesWithItself.1 ∈ gg_W := gg_at 628 (by decide +kernel)
theorem dsX5_howManyAgree : MX5_howManyAgree.1.cls ≠ "java/lang/invoke/MethodHandle" ∧ MX5_howManyAgree.1.cls ≠ "java/lang/invoke/VarHandle" ∧ (parseMethodDescriptor MX5_howManyAgree.1.desc).map (fun d => d.parameters.length) = some 2 := by decide +kernel
theorem stX5_howManyAgree : Cond.static MX5_howManyAgree.1 ∈ gg_W := gg_at 625 (by decide +kernel)
theorem dsX5_leastThatAgrees : MX5_leastThatAgrees.1.cls ≠ "java/lang/invoke/MethodHandle" ∧ MX5_leastThatAgrees.1.cls ≠ "java/lang/invoke/VarHandle" ∧ (parseMethodDescriptor MX5_leastThatAgrees.1.desc).map (fun d => d.parameters.length) = some 2 := by decide +kernel
theorem stX5_leastThatAgrees : Cond.static MX5_leastThatAgrees.1 ∈ gg_W := gg_at 631 (by decide +kernel)
theorem dsX5_fewestBoats : MX5_fewestBoats.1.cls ≠ "java/lang/invoke/MethodHandle" ∧ MX5_fewestBoats.1.cls ≠ "java/lang/invoke/VarHandle" ∧ (parseMethodDescriptor MX5_fewestBoats.1.desc).map (fun d => d.parameters.length) = some 1 := by decide +kernel
theorem stX5_fewestBoats : Cond.static MX5_fewestBoats.1 ∈ gg_W := gg_at 639 (by decide +kernel)
theorem dsX5_isEnough : MX5_isEnough.1.cls ≠ "java/lang/invoke/MethodHandle" ∧ MX5_isEnough.1.cls ≠ "java/lang/invoke/VarHandle" ∧ (parseMethodDescriptor MX5_isEnough.1.desc).map (fun d => d.parameters.length) = some 2 := by decide +kernel
theorem stX5_isEnough : Cond.static MX5_isEnough.1 ∈ gg_W := gg_at 648 (by decide +kernel)
theorem dsX5_daysUntil : MX5_daysUntil.1.cls ≠ "java/lang/invoke/MethodHandle" ∧ MX5_daysUntil.1.cls ≠ "java/lang/invoke/VarHandle" ∧ (parseMethodDescriptor MX5_daysUntil.1.desc).map (fun d => d.parameters.length) = some 3 := by decide +kernel
theorem stX5_daysUntil : Cond.static MX5_daysUntil.1 ∈ gg_W := gg_at 657 (by decide +kernel)
theorem dsX5_seasThatDo : MX5_seasThatDo.1.cls ≠ "java/lang/invoke/MethodHandle" ∧ MX5_seasThatDo.1.cls ≠ "java/lang/invoke/VarHandle" ∧ (parseMethodDescriptor MX5_seasThatDo.1.desc).map (fun d => d.parameters.length) = some 3 := by decide +kernel
theorem stX5_seasThatDo : Cond.static MX5_seasThatDo.1 ∈ gg_W := gg_at 664 (by decide +kernel)
theorem dsX5_caughtInAllSeas : MX5_caughtInAllSeas.1.cls ≠ "java/lang/invoke/MethodHandle" ∧ MX5_caughtInAllSeas.1.cls ≠ "java/lang/invoke/VarHandle" ∧ (parseMethodDescriptor MX5_caughtInAllSeas.1.desc).map (fun d => d.parameters.length) = some 2 := by decide +kernel
theorem stX5_caughtInAllSeas : Cond.static MX5_caughtInAllSeas.1 ∈ gg_W := gg_at 674 (by decide +kernel)
theorem dsX5_seasThatFit : MX5_seasThatFit.1.cls ≠ "java/lang/invoke/MethodHandle" ∧ MX5_seasThatFit.1.cls ≠ "java/lang/invoke/VarHandle" ∧ (parseMethodDescriptor MX5_seasThatFit.1.desc).map (fun d => d.parameters.length) = some 2 := by decide +kernel
theorem stX5_seasThatFit : Cond.static MX5_seasThatFit.1 ∈ gg_W := gg_at 688 (by decide +kernel)
theorem dsX5_isSoBy : MX5_isSoBy.1.cls ≠ "java/lang/invoke/MethodHandle" ∧ MX5_isSoBy.1.cls ≠ "java/lang/invoke/VarHandle" ∧ (parseMethodDescriptor MX5_isSoBy.1.desc).map (fun d => d.parameters.length) = some 3 := by decide +kernel
theorem stX5_isSoBy : Cond.static MX5_isSoBy.1 ∈ gg_W := gg_at 691 (by decide +kernel)
theorem dsX5_partOfTenths : MX5_partOfTenths.1.cls ≠ "java/lang/invoke/MethodHandle" ∧ MX5_partOfTenths.1.cls ≠ "java/lang/invoke/VarHandle" ∧ (parseMethodDescriptor MX5_partOfTenths.1.desc).map (fun d => d.parameters.length) = some 2 := by decide +kernel
theorem stX5_partOfTenths : Cond.static MX5_partOfTenths.1 ∈ gg_W := gg_at 667 (by decide +kernel)
theorem dsX6_init : MX6_init.1.cls ≠ "java/lang/invoke/MethodHandle" ∧ MX6_init.1.cls ≠ "java/lang/invoke/VarHandle" ∧ (parseMethodDescriptor MX6_init.1.desc).map (fun d => d.parameters.length) = some 0 := by decide +kernel
theorem dsX6_hear : MX6_hear.1.cls ≠ "java/lang/invoke/MethodHandle" ∧ MX6_hear.1.cls ≠ "java/lang/invoke/VarHandle" ∧ (parseMethodDescriptor MX6_hear.1.desc).map (fun d => d.parameters.length) = some 4 := by decide +kernel
theorem viX6_hear : Cond.instanceMethod MX6_hear.1 ∈ gg_W := gg_at 703 (by decide +kernel)
theorem vsX6_hear : Cond.selects MX6_hear.1.cls MX6_hear.1 MX6_hear.1 ∈ gg_W := gg_at 26 (by decide +kernel)
theorem dsX6_speak : MX6_speak.1.cls ≠ "java/lang/invoke/MethodHandle" ∧ MX6_speak.1.cls ≠ "java/lang/invoke/VarHandle" ∧ (parseMethodDescriptor MX6_speak.1.desc).map (fun d => d.parameters.length) = some 4 := by decide +kernel
theorem viX6_speak : Cond.instanceMethod MX6_speak.1 ∈ gg_W := gg_at 707 (by decide +kernel)
theorem vsX6_speak : Cond.selects MX6_speak.1.cls MX6_speak.1 MX6_speak.1 ∈ gg_W := gg_at 27 (by decide +kernel)
theorem dsX6_say : MX6_say.1.cls ≠ "java/lang/invoke/MethodHandle" ∧ MX6_say.1.cls ≠ "java/lang/invoke/VarHandle" ∧ (parseMethodDescriptor MX6_say.1.desc).map (fun d => d.parameters.length) = some 4 := by decide +kernel
theorem viX6_say : Cond.instanceMethod MX6_say.1 ∈ gg_W := gg_at 714 (by decide +kernel)
theorem vsX6_say : Cond.selects MX6_say.1.cls MX6_say.1 MX6_say.1 ∈ gg_W := gg_at 28 (by decide +kernel)
theorem dsX6_part : MX6_part.1.cls ≠ "java/lang/invoke/MethodHandle" ∧ MX6_part.1.cls ≠ "java/lang/invoke/VarHandle" ∧ (parseMethodDescriptor MX6_part.1.desc).map (fun d => d.parameters.length) = some 1 := by decide +kernel
theorem viX6_part : Cond.instanceMethod MX6_part.1 ∈ gg_W := gg_at 718 (by decide +kernel)
theorem vsX6_part : Cond.selects MX6_part.1.cls MX6_part.1 MX6_part.1 ∈ gg_W := gg_at 29 (by decide +kernel)
theorem dsX7_init : MX7_init.1.cls ≠ "java/lang/invoke/MethodHandle" ∧ MX7_init.1.cls ≠ "java/lang/invoke/VarHandle" ∧ (parseMethodDescriptor MX7_init.1.desc).map (fun d => d.parameters.length) = some 0 := by decide +kernel
theorem dsX7_boat : MX7_boat.1.cls ≠ "java/lang/invoke/MethodHandle" ∧ MX7_boat.1.cls ≠ "java/lang/invoke/VarHandle" ∧ (parseMethodDescriptor MX7_boat.1.desc).map (fun d => d.parameters.length) = some 1 := by decide +kernel
theorem viX7_boat : Cond.instanceMethod MX7_boat.1 ∈ gg_W := gg_at 328 (by decide +kernel)
theorem vsX7_boat : Cond.selects MX7_boat.1.cls MX7_boat.1 MX7_boat.1 ∈ gg_W := gg_at 329 (by decide +kernel)
theorem dsX7_boatIs : MX7_boatIs.1.cls ≠ "java/lang/invoke/MethodHandle" ∧ MX7_boatIs.1.cls ≠ "java/lang/invoke/VarHandle" ∧ (parseMethodDescriptor MX7_boatIs.1.desc).map (fun d => d.parameters.length) = some 2 := by decide +kernel
theorem viX7_boatIs : Cond.instanceMethod MX7_boatIs.1 ∈ gg_W := gg_at 346 (by decide +kernel)
theorem vsX7_boatIs : Cond.selects MX7_boatIs.1.cls MX7_boatIs.1 MX7_boatIs.1 ∈ gg_W := gg_at 347 (by decide +kernel)
theorem dsX7_become : MX7_become.1.cls ≠ "java/lang/invoke/MethodHandle" ∧ MX7_become.1.cls ≠ "java/lang/invoke/VarHandle" ∧ (parseMethodDescriptor MX7_become.1.desc).map (fun d => d.parameters.length) = some 2 := by decide +kernel
theorem viX7_become : Cond.instanceMethod MX7_become.1 ∈ gg_W := gg_at 385 (by decide +kernel)
theorem vsX7_become : Cond.selects MX7_become.1.cls MX7_become.1 MX7_become.1 ∈ gg_W := gg_at 386 (by decide +kernel)
theorem dsX7_as : MX7_as.1.cls ≠ "java/lang/invoke/MethodHandle" ∧ MX7_as.1.cls ≠ "java/lang/invoke/VarHandle" ∧ (parseMethodDescriptor MX7_as.1.desc).map (fun d => d.parameters.length) = some 2 := by decide +kernel
theorem viX7_as : Cond.instanceMethod MX7_as.1 ∈ gg_W := gg_at 389 (by decide +kernel)
theorem vsX7_as : Cond.selects MX7_as.1.cls MX7_as.1 MX7_as.1 ∈ gg_W := gg_at 390 (by decide +kernel)
theorem dsX7_lose : MX7_lose.1.cls ≠ "java/lang/invoke/MethodHandle" ∧ MX7_lose.1.cls ≠ "java/lang/invoke/VarHandle" ∧ (parseMethodDescriptor MX7_lose.1.desc).map (fun d => d.parameters.length) = some 2 := by decide +kernel
theorem viX7_lose : Cond.instanceMethod MX7_lose.1 ∈ gg_W := gg_at 400 (by decide +kernel)
theorem vsX7_lose : Cond.selects MX7_lose.1.cls MX7_lose.1 MX7_lose.1 ∈ gg_W := gg_at 401 (by decide +kernel)
theorem dsX7_rises : MX7_rises.1.cls ≠ "java/lang/invoke/MethodHandle" ∧ MX7_rises.1.cls ≠ "java/lang/invoke/VarHandle" ∧ (parseMethodDescriptor MX7_rises.1.desc).map (fun d => d.parameters.length) = some 1 := by decide +kernel
theorem viX7_rises : Cond.instanceMethod MX7_rises.1 ∈ gg_W := gg_at 404 (by decide +kernel)
theorem vsX7_rises : Cond.selects MX7_rises.1.cls MX7_rises.1 MX7_rises.1 ∈ gg_W := gg_at 405 (by decide +kernel)
theorem dsX7_price : MX7_price.1.cls ≠ "java/lang/invoke/MethodHandle" ∧ MX7_price.1.cls ≠ "java/lang/invoke/VarHandle" ∧ (parseMethodDescriptor MX7_price.1.desc).map (fun d => d.parameters.length) = some 2 := by decide +kernel
theorem viX7_price : Cond.instanceMethod MX7_price.1 ∈ gg_W := gg_at 408 (by decide +kernel)
theorem vsX7_price : Cond.selects MX7_price.1.cls MX7_price.1 MX7_price.1 ∈ gg_W := gg_at 409 (by decide +kernel)
theorem dsX7_sell : MX7_sell.1.cls ≠ "java/lang/invoke/MethodHandle" ∧ MX7_sell.1.cls ≠ "java/lang/invoke/VarHandle" ∧ (parseMethodDescriptor MX7_sell.1.desc).map (fun d => d.parameters.length) = some 2 := by decide +kernel
theorem viX7_sell : Cond.instanceMethod MX7_sell.1 ∈ gg_W := gg_at 415 (by decide +kernel)
theorem vsX7_sell : Cond.selects MX7_sell.1.cls MX7_sell.1 MX7_sell.1 ∈ gg_W := gg_at 416 (by decide +kernel)
theorem dsX7_feed : MX7_feed.1.cls ≠ "java/lang/invoke/MethodHandle" ∧ MX7_feed.1.cls ≠ "java/lang/invoke/VarHandle" ∧ (parseMethodDescriptor MX7_feed.1.desc).map (fun d => d.parameters.length) = some 2 := by decide +kernel
theorem viX7_feed : Cond.instanceMethod MX7_feed.1 ∈ gg_W := gg_at 430 (by decide +kernel)
theorem vsX7_feed : Cond.selects MX7_feed.1.cls MX7_feed.1 MX7_feed.1 ∈ gg_W := gg_at 431 (by decide +kernel)
theorem dsX7_text : MX7_text.1.cls ≠ "java/lang/invoke/MethodHandle" ∧ MX7_text.1.cls ≠ "java/lang/invoke/VarHandle" ∧ (parseMethodDescriptor MX7_text.1.desc).map (fun d => d.parameters.length) = some 1 := by decide +kernel
theorem viX7_text : Cond.instanceMethod MX7_text.1 ∈ gg_W := gg_at 434 (by decide +kernel)
theorem vsX7_text : Cond.selects MX7_text.1.cls MX7_text.1 MX7_text.1 ∈ gg_W := gg_at 435 (by decide +kernel)
theorem dsX7_untell : MX7_untell.1.cls ≠ "java/lang/invoke/MethodHandle" ∧ MX7_untell.1.cls ≠ "java/lang/invoke/VarHandle" ∧ (parseMethodDescriptor MX7_untell.1.desc).map (fun d => d.parameters.length) = some 1 := by decide +kernel
theorem viX7_untell : Cond.instanceMethod MX7_untell.1 ∈ gg_W := gg_at 544 (by decide +kernel)
theorem vsX7_untell : Cond.selects MX7_untell.1.cls MX7_untell.1 MX7_untell.1 ∈ gg_W := gg_at 545 (by decide +kernel)
theorem dsX7_law : MX7_law.1.cls ≠ "java/lang/invoke/MethodHandle" ∧ MX7_law.1.cls ≠ "java/lang/invoke/VarHandle" ∧ (parseMethodDescriptor MX7_law.1.desc).map (fun d => d.parameters.length) = some 4 := by decide +kernel
theorem viX7_law : Cond.instanceMethod MX7_law.1 ∈ gg_W := gg_at 548 (by decide +kernel)
theorem vsX7_law : Cond.selects MX7_law.1.cls MX7_law.1 MX7_law.1 ∈ gg_W := gg_at 549 (by decide +kernel)
theorem dsX7_tally : MX7_tally.1.cls ≠ "java/lang/invoke/MethodHandle" ∧ MX7_tally.1.cls ≠ "java/lang/invoke/VarHandle" ∧ (parseMethodDescriptor MX7_tally.1.desc).map (fun d => d.parameters.length) = some 0 := by decide +kernel
theorem viX7_tally : Cond.instanceMethod MX7_tally.1 ∈ gg_W := gg_at 553 (by decide +kernel)
theorem vsX7_tally : Cond.selects MX7_tally.1.cls MX7_tally.1 MX7_tally.1 ∈ gg_W := gg_at 554 (by decide +kernel)
theorem dsX7_loose : MX7_loose.1.cls ≠ "java/lang/invoke/MethodHandle" ∧ MX7_loose.1.cls ≠ "java/lang/invoke/VarHandle" ∧ (parseMethodDescriptor MX7_loose.1.desc).map (fun d => d.parameters.length) = some 1 := by decide +kernel
theorem viX7_loose : Cond.instanceMethod MX7_loose.1 ∈ gg_W := gg_at 570 (by decide +kernel)
theorem vsX7_loose : Cond.selects MX7_loose.1.cls MX7_loose.1 MX7_loose.1 ∈ gg_W := gg_at 571 (by decide +kernel)
theorem dsX7_seed : MX7_seed.1.cls ≠ "java/lang/invoke/MethodHandle" ∧ MX7_seed.1.cls ≠ "java/lang/invoke/VarHandle" ∧ (parseMethodDescriptor MX7_seed.1.desc).map (fun d => d.parameters.length) = some 1 := by decide +kernel
theorem viX7_seed : Cond.instanceMethod MX7_seed.1 ∈ gg_W := gg_at 585 (by decide +kernel)
theorem vsX7_seed : Cond.selects MX7_seed.1.cls MX7_seed.1 MX7_seed.1 ∈ gg_W := gg_at 586 (by decide +kernel)
theorem dsX7_catches : MX7_catches.1.cls ≠ "java/lang/invoke/MethodHandle" ∧ MX7_catches.1.cls ≠ "java/lang/invoke/VarHandle" ∧ (parseMethodDescriptor MX7_catches.1.desc).map (fun d => d.parameters.length) = some 1 := by decide +kernel
theorem viX7_catches : Cond.instanceMethod MX7_catches.1 ∈ gg_W := gg_at 589 (by decide +kernel)
theorem vsX7_catches : Cond.selects MX7_catches.1.cls MX7_catches.1 MX7_catches.1 ∈ gg_W := gg_at 590 (by decide +kernel)
theorem dsX7_safe : MX7_safe.1.cls ≠ "java/lang/invoke/MethodHandle" ∧ MX7_safe.1.cls ≠ "java/lang/invoke/VarHandle" ∧ (parseMethodDescriptor MX7_safe.1.desc).map (fun d => d.parameters.length) = some 1 := by decide +kernel
theorem viX7_safe : Cond.instanceMethod MX7_safe.1 ∈ gg_W := gg_at 597 (by decide +kernel)
theorem vsX7_safe : Cond.selects MX7_safe.1.cls MX7_safe.1 MX7_safe.1 ∈ gg_W := gg_at 598 (by decide +kernel)
theorem dsX7_best : MX7_best.1.cls ≠ "java/lang/invoke/MethodHandle" ∧ MX7_best.1.cls ≠ "java/lang/invoke/VarHandle" ∧ (parseMethodDescriptor MX7_best.1.desc).map (fun d => d.parameters.length) = some 2 := by decide +kernel
theorem viX7_best : Cond.instanceMethod MX7_best.1 ∈ gg_W := gg_at 608 (by decide +kernel)
theorem vsX7_best : Cond.selects MX7_best.1.cls MX7_best.1 MX7_best.1 ∈ gg_W := gg_at 609 (by decide +kernel)
theorem dsX7_agrees : MX7_agrees.1.cls ≠ "java/lang/invoke/MethodHandle" ∧ MX7_agrees.1.cls ≠ "java/lang/invoke/VarHandle" ∧ (parseMethodDescriptor MX7_agrees.1.desc).map (fun d => d.parameters.length) = some 2 := by decide +kernel
theorem viX7_agrees : Cond.instanceMethod MX7_agrees.1 ∈ gg_W := gg_at 621 (by decide +kernel)
theorem vsX7_agrees : Cond.selects MX7_agrees.1.cls MX7_agrees.1 MX7_agrees.1 ∈ gg_W := gg_at 622 (by decide +kernel)
theorem dsX7_needs : MX7_needs.1.cls ≠ "java/lang/invoke/MethodHandle" ∧ MX7_needs.1.cls ≠ "java/lang/invoke/VarHandle" ∧ (parseMethodDescriptor MX7_needs.1.desc).map (fun d => d.parameters.length) = some 1 := by decide +kernel
theorem viX7_needs : Cond.instanceMethod MX7_needs.1 ∈ gg_W := gg_at 635 (by decide +kernel)
theorem vsX7_needs : Cond.selects MX7_needs.1.cls MX7_needs.1 MX7_needs.1 ∈ gg_W := gg_at 636 (by decide +kernel)
theorem dsX7_soonest : MX7_soonest.1.cls ≠ "java/lang/invoke/MethodHandle" ∧ MX7_soonest.1.cls ≠ "java/lang/invoke/VarHandle" ∧ (parseMethodDescriptor MX7_soonest.1.desc).map (fun d => d.parameters.length) = some 2 := by decide +kernel
theorem viX7_soonest : Cond.instanceMethod MX7_soonest.1 ∈ gg_W := gg_at 653 (by decide +kernel)
theorem vsX7_soonest : Cond.selects MX7_soonest.1.cls MX7_soonest.1 MX7_soonest.1 ∈ gg_W := gg_at 654 (by decide +kernel)
theorem dsX7_odds : MX7_odds.1.cls ≠ "java/lang/invoke/MethodHandle" ∧ MX7_odds.1.cls ≠ "java/lang/invoke/VarHandle" ∧ (parseMethodDescriptor MX7_odds.1.desc).map (fun d => d.parameters.length) = some 3 := by decide +kernel
theorem viX7_odds : Cond.instanceMethod MX7_odds.1 ∈ gg_W := gg_at 660 (by decide +kernel)
theorem vsX7_odds : Cond.selects MX7_odds.1.cls MX7_odds.1 MX7_odds.1 ∈ gg_W := gg_at 661 (by decide +kernel)
theorem dsX7_mean : MX7_mean.1.cls ≠ "java/lang/invoke/MethodHandle" ∧ MX7_mean.1.cls ≠ "java/lang/invoke/VarHandle" ∧ (parseMethodDescriptor MX7_mean.1.desc).map (fun d => d.parameters.length) = some 2 := by decide +kernel
theorem viX7_mean : Cond.instanceMethod MX7_mean.1 ∈ gg_W := gg_at 670 (by decide +kernel)
theorem vsX7_mean : Cond.selects MX7_mean.1.cls MX7_mean.1 MX7_mean.1 ∈ gg_W := gg_at 671 (by decide +kernel)
theorem dsX7_fits : MX7_fits.1.cls ≠ "java/lang/invoke/MethodHandle" ∧ MX7_fits.1.cls ≠ "java/lang/invoke/VarHandle" ∧ (parseMethodDescriptor MX7_fits.1.desc).map (fun d => d.parameters.length) = some 2 := by decide +kernel
theorem viX7_fits : Cond.instanceMethod MX7_fits.1 ∈ gg_W := gg_at 677 (by decide +kernel)
theorem vsX7_fits : Cond.selects MX7_fits.1.cls MX7_fits.1 MX7_fits.1 ∈ gg_W := gg_at 678 (by decide +kernel)
theorem dsX7_voice : MX7_voice.1.cls ≠ "java/lang/invoke/MethodHandle" ∧ MX7_voice.1.cls ≠ "java/lang/invoke/VarHandle" ∧ (parseMethodDescriptor MX7_voice.1.desc).map (fun d => d.parameters.length) = some 3 := by decide +kernel
theorem viX7_voice : Cond.instanceMethod MX7_voice.1 ∈ gg_W := gg_at 698 (by decide +kernel)
theorem vsX7_voice : Cond.selects MX7_voice.1.cls MX7_voice.1 MX7_voice.1 ∈ gg_W := gg_at 699 (by decide +kernel)
theorem dsX7_body : MX7_body.1.cls ≠ "java/lang/invoke/MethodHandle" ∧ MX7_body.1.cls ≠ "java/lang/invoke/VarHandle" ∧ (parseMethodDescriptor MX7_body.1.desc).map (fun d => d.parameters.length) = some 1 := by decide +kernel
theorem viX7_body : Cond.instanceMethod MX7_body.1 ∈ gg_W := gg_at 722 (by decide +kernel)
theorem vsX7_body : Cond.selects MX7_body.1.cls MX7_body.1 MX7_body.1 ∈ gg_W := gg_at 723 (by decide +kernel)
theorem dsX7_sheet : MX7_sheet.1.cls ≠ "java/lang/invoke/MethodHandle" ∧ MX7_sheet.1.cls ≠ "java/lang/invoke/VarHandle" ∧ (parseMethodDescriptor MX7_sheet.1.desc).map (fun d => d.parameters.length) = some 3 := by decide +kernel
theorem viX7_sheet : Cond.instanceMethod MX7_sheet.1 ∈ gg_W := gg_at 726 (by decide +kernel)
theorem vsX7_sheet : Cond.selects MX7_sheet.1.cls MX7_sheet.1 MX7_sheet.1 ∈ gg_W := gg_at 727 (by decide +kernel)
theorem dsX7_put : MX7_put.1.cls ≠ "java/lang/invoke/MethodHandle" ∧ MX7_put.1.cls ≠ "java/lang/invoke/VarHandle" ∧ (parseMethodDescriptor MX7_put.1.desc).map (fun d => d.parameters.length) = some 3 := by decide +kernel
theorem viX7_put : Cond.instanceMethod MX7_put.1 ∈ gg_W := gg_at 735 (by decide +kernel)
theorem vsX7_put : Cond.selects MX7_put.1.cls MX7_put.1 MX7_put.1 ∈ gg_W := gg_at 736 (by decide +kernel)
theorem dsX7_move : MX7_move.1.cls ≠ "java/lang/invoke/MethodHandle" ∧ MX7_move.1.cls ≠ "java/lang/invoke/VarHandle" ∧ (parseMethodDescriptor MX7_move.1.desc).map (fun d => d.parameters.length) = some 5 := by decide +kernel
theorem viX7_move : Cond.instanceMethod MX7_move.1 ∈ gg_W := gg_at 744 (by decide +kernel)
theorem vsX7_move : Cond.selects MX7_move.1.cls MX7_move.1 MX7_move.1 ∈ gg_W := gg_at 745 (by decide +kernel)
theorem dsX7_prices : MX7_prices.1.cls ≠ "java/lang/invoke/MethodHandle" ∧ MX7_prices.1.cls ≠ "java/lang/invoke/VarHandle" ∧ (parseMethodDescriptor MX7_prices.1.desc).map (fun d => d.parameters.length) = some 1 := by decide +kernel
theorem viX7_prices : Cond.instanceMethod MX7_prices.1 ∈ gg_W := gg_at 753 (by decide +kernel)
theorem vsX7_prices : Cond.selects MX7_prices.1.cls MX7_prices.1 MX7_prices.1 ∈ gg_W := gg_at 754 (by decide +kernel)
theorem dsX7_judge : MX7_judge.1.cls ≠ "java/lang/invoke/MethodHandle" ∧ MX7_judge.1.cls ≠ "java/lang/invoke/VarHandle" ∧ (parseMethodDescriptor MX7_judge.1.desc).map (fun d => d.parameters.length) = some 1 := by decide +kernel
theorem viX7_judge : Cond.instanceMethod MX7_judge.1 ∈ gg_W := gg_at 757 (by decide +kernel)
theorem vsX7_judge : Cond.selects MX7_judge.1.cls MX7_judge.1 MX7_judge.1 ∈ gg_W := gg_at 758 (by decide +kernel)
theorem dsX7_image : MX7_image.1.cls ≠ "java/lang/invoke/MethodHandle" ∧ MX7_image.1.cls ≠ "java/lang/invoke/VarHandle" ∧ (parseMethodDescriptor MX7_image.1.desc).map (fun d => d.parameters.length) = some 0 := by decide +kernel
theorem viX7_image : Cond.instanceMethod MX7_image.1 ∈ gg_W := gg_at 761 (by decide +kernel)
theorem vsX7_image : Cond.selects MX7_image.1.cls MX7_image.1 MX7_image.1 ∈ gg_W := gg_at 762 (by decide +kernel)
theorem dsX7_restore : MX7_restore.1.cls ≠ "java/lang/invoke/MethodHandle" ∧ MX7_restore.1.cls ≠ "java/lang/invoke/VarHandle" ∧ (parseMethodDescriptor MX7_restore.1.desc).map (fun d => d.parameters.length) = some 0 := by decide +kernel
theorem viX7_restore : Cond.instanceMethod MX7_restore.1 ∈ gg_W := gg_at 779 (by decide +kernel)
theorem vsX7_restore : Cond.selects MX7_restore.1.cls MX7_restore.1 MX7_restore.1 ∈ gg_W := gg_at 780 (by decide +kernel)
theorem dsX7_tell : MX7_tell.1.cls ≠ "java/lang/invoke/MethodHandle" ∧ MX7_tell.1.cls ≠ "java/lang/invoke/VarHandle" ∧ (parseMethodDescriptor MX7_tell.1.desc).map (fun d => d.parameters.length) = some 1 := by decide +kernel
theorem viX7_tell : Cond.instanceMethod MX7_tell.1 ∈ gg_W := gg_at 783 (by decide +kernel)
theorem vsX7_tell : Cond.selects MX7_tell.1.cls MX7_tell.1 MX7_tell.1 ∈ gg_W := gg_at 784 (by decide +kernel)
theorem dsX7_check : MX7_check.1.cls ≠ "java/lang/invoke/MethodHandle" ∧ MX7_check.1.cls ≠ "java/lang/invoke/VarHandle" ∧ (parseMethodDescriptor MX7_check.1.desc).map (fun d => d.parameters.length) = some 0 := by decide +kernel
theorem viX7_check : Cond.instanceMethod MX7_check.1 ∈ gg_W := gg_at 787 (by decide +kernel)
theorem vsX7_check : Cond.selects MX7_check.1.cls MX7_check.1 MX7_check.1 ∈ gg_W := gg_at 788 (by decide +kernel)
theorem dsX7_count : MX7_count.1.cls ≠ "java/lang/invoke/MethodHandle" ∧ MX7_count.1.cls ≠ "java/lang/invoke/VarHandle" ∧ (parseMethodDescriptor MX7_count.1.desc).map (fun d => d.parameters.length) = some 1 := by decide +kernel
theorem viX7_count : Cond.instanceMethod MX7_count.1 ∈ gg_W := gg_at 791 (by decide +kernel)
theorem vsX7_count : Cond.selects MX7_count.1.cls MX7_count.1 MX7_count.1 ∈ gg_W := gg_at 792 (by decide +kernel)
theorem dsX7_told : MX7_told.1.cls ≠ "java/lang/invoke/MethodHandle" ∧ MX7_told.1.cls ≠ "java/lang/invoke/VarHandle" ∧ (parseMethodDescriptor MX7_told.1.desc).map (fun d => d.parameters.length) = some 1 := by decide +kernel
theorem viX7_told : Cond.instanceMethod MX7_told.1 ∈ gg_W := gg_at 795 (by decide +kernel)
theorem vsX7_told : Cond.selects MX7_told.1.cls MX7_told.1 MX7_told.1 ∈ gg_W := gg_at 796 (by decide +kernel)
theorem dsX7_refuse : MX7_refuse.1.cls ≠ "java/lang/invoke/MethodHandle" ∧ MX7_refuse.1.cls ≠ "java/lang/invoke/VarHandle" ∧ (parseMethodDescriptor MX7_refuse.1.desc).map (fun d => d.parameters.length) = some 1 := by decide +kernel
theorem viX7_refuse : Cond.instanceMethod MX7_refuse.1 ∈ gg_W := gg_at 337 (by decide +kernel)
theorem vsX7_refuse : Cond.selects MX7_refuse.1.cls MX7_refuse.1 MX7_refuse.1 ∈ gg_W := gg_at 0 (by decide +kernel)
theorem dsX7_isWithin : MX7_isWithin.1.cls ≠ "java/lang/invoke/MethodHandle" ∧ MX7_isWithin.1.cls ≠ "java/lang/invoke/VarHandle" ∧ (parseMethodDescriptor MX7_isWithin.1.desc).map (fun d => d.parameters.length) = some 2 := by decide +kernel
theorem stX7_isWithin : Cond.static MX7_isWithin.1 ∈ gg_W := gg_at 354 (by decide +kernel)
theorem dsX7_isFish : MX7_isFish.1.cls ≠ "java/lang/invoke/MethodHandle" ∧ MX7_isFish.1.cls ≠ "java/lang/invoke/VarHandle" ∧ (parseMethodDescriptor MX7_isFish.1.desc).map (fun d => d.parameters.length) = some 1 := by decide +kernel
theorem stX7_isFish : Cond.static MX7_isFish.1 ∈ gg_W := gg_at 412 (by decide +kernel)
theorem dsX7_isUse : MX7_isUse.1.cls ≠ "java/lang/invoke/MethodHandle" ∧ MX7_isUse.1.cls ≠ "java/lang/invoke/VarHandle" ∧ (parseMethodDescriptor MX7_isUse.1.desc).map (fun d => d.parameters.length) = some 1 := by decide +kernel
theorem stX7_isUse : Cond.static MX7_isUse.1 ∈ gg_W := gg_at 438 (by decide +kernel)
theorem dsX7_isSheet : MX7_isSheet.1.cls ≠ "java/lang/invoke/MethodHandle" ∧ MX7_isSheet.1.cls ≠ "java/lang/invoke/VarHandle" ∧ (parseMethodDescriptor MX7_isSheet.1.desc).map (fun d => d.parameters.length) = some 1 := by decide +kernel
theorem stX7_isSheet : Cond.static MX7_isSheet.1 ∈ gg_W := gg_at 681 (by decide +kernel)
theorem dsX7_isKindWithNumber : MX7_isKindWithNumber.1.cls ≠ "java/lang/invoke/MethodHandle" ∧ MX7_isKindWithNumber.1.cls ≠ "java/lang/invoke/VarHandle" ∧ (parseMethodDescriptor MX7_isKindWithNumber.1.desc).map (fun d => d.parameters.length) = some 1 := by decide +kernel
theorem stX7_isKindWithNumber : Cond.static MX7_isKindWithNumber.1 ∈ gg_W := gg_at 332 (by decide +kernel)
theorem dsX7_isBoat : MX7_isBoat.1.cls ≠ "java/lang/invoke/MethodHandle" ∧ MX7_isBoat.1.cls ≠ "java/lang/invoke/VarHandle" ∧ (parseMethodDescriptor MX7_isBoat.1.desc).map (fun d => d.parameters.length) = some 1 := by decide +kernel
theorem viX7_isBoat : Cond.instanceMethod MX7_isBoat.1 ∈ gg_W := gg_at 351 (by decide +kernel)
theorem vsX7_isBoat : Cond.selects MX7_isBoat.1.cls MX7_isBoat.1 MX7_isBoat.1 ∈ gg_W := gg_at 2 (by decide +kernel)
theorem dsX7_held : MX7_held.1.cls ≠ "java/lang/invoke/MethodHandle" ∧ MX7_held.1.cls ≠ "java/lang/invoke/VarHandle" ∧ (parseMethodDescriptor MX7_held.1.desc).map (fun d => d.parameters.length) = some 3 := by decide +kernel
theorem stX7_held : Cond.static MX7_held.1 ∈ gg_W := gg_at 373 (by decide +kernel)
theorem dsX8_init : MX8_init.1.cls ≠ "java/lang/invoke/MethodHandle" ∧ MX8_init.1.cls ≠ "java/lang/invoke/VarHandle" ∧ (parseMethodDescriptor MX8_init.1.desc).map (fun d => d.parameters.length) = some 0 := by decide +kernel
theorem dsX8_error : MX8_error.1.cls ≠ "java/lang/invoke/MethodHandle" ∧ MX8_error.1.cls ≠ "java/lang/invoke/VarHandle" ∧ (parseMethodDescriptor MX8_error.1.desc).map (fun d => d.parameters.length) = some 1 := by decide +kernel
theorem viX8_error : Cond.instanceMethod MX8_error.1 ∈ gg_W := gg_at 878 (by decide +kernel)
theorem vsX8_error : Cond.selects MX8_error.1.cls MX8_error.1 MX8_error.1 ∈ gg_W := gg_at 36 (by decide +kernel)
theorem dsX8_in : MX8_in.1.cls ≠ "java/lang/invoke/MethodHandle" ∧ MX8_in.1.cls ≠ "java/lang/invoke/VarHandle" ∧ (parseMethodDescriptor MX8_in.1.desc).map (fun d => d.parameters.length) = some 3 := by decide +kernel
theorem stX8_in : Cond.static MX8_in.1 ∈ gg_W := gg_at 873 (by decide +kernel)
theorem dsX8_held : MX8_held.1.cls ≠ "java/lang/invoke/MethodHandle" ∧ MX8_held.1.cls ≠ "java/lang/invoke/VarHandle" ∧ (parseMethodDescriptor MX8_held.1.desc).map (fun d => d.parameters.length) = some 3 := by decide +kernel
theorem stX8_held : Cond.static MX8_held.1 ∈ gg_W := gg_at 918 (by decide +kernel)
theorem dsX8_copyAll : MX8_copyAll.1.cls ≠ "java/lang/invoke/MethodHandle" ∧ MX8_copyAll.1.cls ≠ "java/lang/invoke/VarHandle" ∧ (parseMethodDescriptor MX8_copyAll.1.desc).map (fun d => d.parameters.length) = some 2 := by decide +kernel
theorem stX8_copyAll : Cond.static MX8_copyAll.1 ∈ gg_W := gg_at 1213 (by decide +kernel)
theorem dsX8_bits : MX8_bits.1.cls ≠ "java/lang/invoke/MethodHandle" ∧ MX8_bits.1.cls ≠ "java/lang/invoke/VarHandle" ∧ (parseMethodDescriptor MX8_bits.1.desc).map (fun d => d.parameters.length) = some 1 := by decide +kernel
theorem stX8_bits : Cond.static MX8_bits.1 ∈ gg_W := gg_at 1095 (by decide +kernel)
theorem dsX8_isBoat : MX8_isBoat.1.cls ≠ "java/lang/invoke/MethodHandle" ∧ MX8_isBoat.1.cls ≠ "java/lang/invoke/VarHandle" ∧ (parseMethodDescriptor MX8_isBoat.1.desc).map (fun d => d.parameters.length) = some 1 := by decide +kernel
theorem viX8_isBoat : Cond.instanceMethod MX8_isBoat.1 ∈ gg_W := gg_at 888 (by decide +kernel)
theorem vsX8_isBoat : Cond.selects MX8_isBoat.1.cls MX8_isBoat.1 MX8_isBoat.1 ∈ gg_W := gg_at 37 (by decide +kernel)
theorem dsX8_isFish : MX8_isFish.1.cls ≠ "java/lang/invoke/MethodHandle" ∧ MX8_isFish.1.cls ≠ "java/lang/invoke/VarHandle" ∧ (parseMethodDescriptor MX8_isFish.1.desc).map (fun d => d.parameters.length) = some 1 := by decide +kernel
theorem stX8_isFish : Cond.static MX8_isFish.1 ∈ gg_W := gg_at 946 (by decide +kernel)
theorem dsX8_becomes : MX8_becomes.1.cls ≠ "java/lang/invoke/MethodHandle" ∧ MX8_becomes.1.cls ≠ "java/lang/invoke/VarHandle" ∧ (parseMethodDescriptor MX8_becomes.1.desc).map (fun d => d.parameters.length) = some 2 := by decide +kernel
theorem viX8_becomes : Cond.instanceMethod MX8_becomes.1 ∈ gg_W := gg_at 926 (by decide +kernel)
theorem vsX8_becomes : Cond.selects MX8_becomes.1.cls MX8_becomes.1 MX8_becomes.1 ∈ gg_W := gg_at 44 (by decide +kernel)
theorem dsX8_of : MX8_of.1.cls ≠ "java/lang/invoke/MethodHandle" ∧ MX8_of.1.cls ≠ "java/lang/invoke/VarHandle" ∧ (parseMethodDescriptor MX8_of.1.desc).map (fun d => d.parameters.length) = some 2 := by decide +kernel
theorem viX8_of : Cond.instanceMethod MX8_of.1 ∈ gg_W := gg_at 892 (by decide +kernel)
theorem vsX8_of : Cond.selects MX8_of.1.cls MX8_of.1 MX8_of.1 ∈ gg_W := gg_at 38 (by decide +kernel)
theorem dsX8_haulsOf : MX8_haulsOf.1.cls ≠ "java/lang/invoke/MethodHandle" ∧ MX8_haulsOf.1.cls ≠ "java/lang/invoke/VarHandle" ∧ (parseMethodDescriptor MX8_haulsOf.1.desc).map (fun d => d.parameters.length) = some 2 := by decide +kernel
theorem viX8_haulsOf : Cond.instanceMethod MX8_haulsOf.1 ∈ gg_W := gg_at 904 (by decide +kernel)
theorem vsX8_haulsOf : Cond.selects MX8_haulsOf.1.cls MX8_haulsOf.1 MX8_haulsOf.1 ∈ gg_W := gg_at 41 (by decide +kernel)
theorem dsX8_eatsOf : MX8_eatsOf.1.cls ≠ "java/lang/invoke/MethodHandle" ∧ MX8_eatsOf.1.cls ≠ "java/lang/invoke/VarHandle" ∧ (parseMethodDescriptor MX8_eatsOf.1.desc).map (fun d => d.parameters.length) = some 1 := by decide +kernel
theorem viX8_eatsOf : Cond.instanceMethod MX8_eatsOf.1 ∈ gg_W := gg_at 896 (by decide +kernel)
theorem vsX8_eatsOf : Cond.selects MX8_eatsOf.1.cls MX8_eatsOf.1 MX8_eatsOf.1 ∈ gg_W := gg_at 39 (by decide +kernel)
theorem dsX8_landsOf : MX8_landsOf.1.cls ≠ "java/lang/invoke/MethodHandle" ∧ MX8_landsOf.1.cls ≠ "java/lang/invoke/VarHandle" ∧ (parseMethodDescriptor MX8_landsOf.1.desc).map (fun d => d.parameters.length) = some 3 := by decide +kernel
theorem viX8_landsOf : Cond.instanceMethod MX8_landsOf.1 ∈ gg_W := gg_at 900 (by decide +kernel)
theorem vsX8_landsOf : Cond.selects MX8_landsOf.1.cls MX8_landsOf.1 MX8_landsOf.1 ∈ gg_W := gg_at 40 (by decide +kernel)
theorem dsX8_catchBy : MX8_catchBy.1.cls ≠ "java/lang/invoke/MethodHandle" ∧ MX8_catchBy.1.cls ≠ "java/lang/invoke/VarHandle" ∧ (parseMethodDescriptor MX8_catchBy.1.desc).map (fun d => d.parameters.length) = some 2 := by decide +kernel
theorem viX8_catchBy : Cond.instanceMethod MX8_catchBy.1 ∈ gg_W := gg_at 1038 (by decide +kernel)
theorem vsX8_catchBy : Cond.selects MX8_catchBy.1.cls MX8_catchBy.1 MX8_catchBy.1 ∈ gg_W := gg_at 60 (by decide +kernel)
theorem dsX8_catchOf : MX8_catchOf.1.cls ≠ "java/lang/invoke/MethodHandle" ∧ MX8_catchOf.1.cls ≠ "java/lang/invoke/VarHandle" ∧ (parseMethodDescriptor MX8_catchOf.1.desc).map (fun d => d.parameters.length) = some 1 := by decide +kernel
theorem viX8_catchOf : Cond.instanceMethod MX8_catchOf.1 ∈ gg_W := gg_at 1067 (by decide +kernel)
theorem vsX8_catchOf : Cond.selects MX8_catchOf.1.cls MX8_catchOf.1 MX8_catchOf.1 ∈ gg_W := gg_at 64 (by decide +kernel)
theorem dsX8_shortBy : MX8_shortBy.1.cls ≠ "java/lang/invoke/MethodHandle" ∧ MX8_shortBy.1.cls ≠ "java/lang/invoke/VarHandle" ∧ (parseMethodDescriptor MX8_shortBy.1.desc).map (fun d => d.parameters.length) = some 2 := by decide +kernel
theorem viX8_shortBy : Cond.instanceMethod MX8_shortBy.1 ∈ gg_W := gg_at 1034 (by decide +kernel)
theorem vsX8_shortBy : Cond.selects MX8_shortBy.1.cls MX8_shortBy.1 MX8_shortBy.1 ∈ gg_W := gg_at 59 (by decide +kernel)
theorem dsX8_coinsFor : MX8_coinsFor.1.cls ≠ "java/lang/invoke/MethodHandle" ∧ MX8_coinsFor.1.cls ≠ "java/lang/invoke/VarHandle" ∧ (parseMethodDescriptor MX8_coinsFor.1.desc).map (fun d => d.parameters.length) = some 2 := by decide +kernel
theorem viX8_coinsFor : Cond.instanceMethod MX8_coinsFor.1 ∈ gg_W := gg_at 959 (by decide +kernel)
theorem vsX8_coinsFor : Cond.selects MX8_coinsFor.1.cls MX8_coinsFor.1 MX8_coinsFor.1 ∈ gg_W := gg_at 46 (by decide +kernel)
theorem dsX8_isKm : MX8_isKm.1.cls ≠ "java/lang/invoke/MethodHandle" ∧ MX8_isKm.1.cls ≠ "java/lang/invoke/VarHandle" ∧ (parseMethodDescriptor MX8_isKm.1.desc).map (fun d => d.parameters.length) = some 1 := by decide +kernel
theorem stX8_isKm : Cond.static MX8_isKm.1 ∈ gg_W := gg_at 870 (by decide +kernel)
theorem dsX8_boat : MX8_boat.1.cls ≠ "java/lang/invoke/MethodHandle" ∧ MX8_boat.1.cls ≠ "java/lang/invoke/VarHandle" ∧ (parseMethodDescriptor MX8_boat.1.desc).map (fun d => d.parameters.length) = some 1 := by decide +kernel
theorem viX8_boat : Cond.instanceMethod MX8_boat.1 ∈ gg_W := gg_at 866 (by decide +kernel)
theorem vsX8_boat : Cond.selects MX8_boat.1.cls MX8_boat.1 MX8_boat.1 ∈ gg_W := gg_at 867 (by decide +kernel)
theorem dsX8_boatIs : MX8_boatIs.1.cls ≠ "java/lang/invoke/MethodHandle" ∧ MX8_boatIs.1.cls ≠ "java/lang/invoke/VarHandle" ∧ (parseMethodDescriptor MX8_boatIs.1.desc).map (fun d => d.parameters.length) = some 2 := by decide +kernel
theorem viX8_boatIs : Cond.instanceMethod MX8_boatIs.1 ∈ gg_W := gg_at 883 (by decide +kernel)
theorem vsX8_boatIs : Cond.selects MX8_boatIs.1.cls MX8_boatIs.1 MX8_boatIs.1 ∈ gg_W := gg_at 884 (by decide +kernel)
theorem dsX8_become : MX8_become.1.cls ≠ "java/lang/invoke/MethodHandle" ∧ MX8_become.1.cls ≠ "java/lang/invoke/VarHandle" ∧ (parseMethodDescriptor MX8_become.1.desc).map (fun d => d.parameters.length) = some 2 := by decide +kernel
theorem viX8_become : Cond.instanceMethod MX8_become.1 ∈ gg_W := gg_at 921 (by decide +kernel)
theorem vsX8_become : Cond.selects MX8_become.1.cls MX8_become.1 MX8_become.1 ∈ gg_W := gg_at 922 (by decide +kernel)
theorem dsX8_as : MX8_as.1.cls ≠ "java/lang/invoke/MethodHandle" ∧ MX8_as.1.cls ≠ "java/lang/invoke/VarHandle" ∧ (parseMethodDescriptor MX8_as.1.desc).map (fun d => d.parameters.length) = some 2 := by decide +kernel
theorem viX8_as : Cond.instanceMethod MX8_as.1 ∈ gg_W := gg_at 929 (by decide +kernel)
theorem vsX8_as : Cond.selects MX8_as.1.cls MX8_as.1 MX8_as.1 ∈ gg_W := gg_at 930 (by decide +kernel)
theorem dsX8_lose : MX8_lose.1.cls ≠ "java/lang/invoke/MethodHandle" ∧ MX8_lose.1.cls ≠ "java/lang/invoke/VarHandle" ∧ (parseMethodDescriptor MX8_lose.1.desc).map (fun d => d.parameters.length) = some 2 := by decide +kernel
theorem viX8_lose : Cond.instanceMethod MX8_lose.1 ∈ gg_W := gg_at 934 (by decide +kernel)
theorem vsX8_lose : Cond.selects MX8_lose.1.cls MX8_lose.1 MX8_lose.1 ∈ gg_W := gg_at 935 (by decide +kernel)
theorem dsX8_rises : MX8_rises.1.cls ≠ "java/lang/invoke/MethodHandle" ∧ MX8_rises.1.cls ≠ "java/lang/invoke/VarHandle" ∧ (parseMethodDescriptor MX8_rises.1.desc).map (fun d => d.parameters.length) = some 1 := by decide +kernel
theorem viX8_rises : Cond.instanceMethod MX8_rises.1 ∈ gg_W := gg_at 938 (by decide +kernel)
theorem vsX8_rises : Cond.selects MX8_rises.1.cls MX8_rises.1 MX8_rises.1 ∈ gg_W := gg_at 939 (by decide +kernel)
theorem dsX8_price : MX8_price.1.cls ≠ "java/lang/invoke/MethodHandle" ∧ MX8_price.1.cls ≠ "java/lang/invoke/VarHandle" ∧ (parseMethodDescriptor MX8_price.1.desc).map (fun d => d.parameters.length) = some 2 := by decide +kernel
theorem viX8_price : Cond.instanceMethod MX8_price.1 ∈ gg_W := gg_at 942 (by decide +kernel)
theorem vsX8_price : Cond.selects MX8_price.1.cls MX8_price.1 MX8_price.1 ∈ gg_W := gg_at 943 (by decide +kernel)
theorem dsX8_sells : MX8_sells.1.cls ≠ "java/lang/invoke/MethodHandle" ∧ MX8_sells.1.cls ≠ "java/lang/invoke/VarHandle" ∧ (parseMethodDescriptor MX8_sells.1.desc).map (fun d => d.parameters.length) = some 2 := by decide +kernel
theorem viX8_sells : Cond.instanceMethod MX8_sells.1 ∈ gg_W := gg_at 955 (by decide +kernel)
theorem vsX8_sells : Cond.selects MX8_sells.1.cls MX8_sells.1 MX8_sells.1 ∈ gg_W := gg_at 45 (by decide +kernel)
theorem dsX8_sell : MX8_sell.1.cls ≠ "java/lang/invoke/MethodHandle" ∧ MX8_sell.1.cls ≠ "java/lang/invoke/VarHandle" ∧ (parseMethodDescriptor MX8_sell.1.desc).map (fun d => d.parameters.length) = some 2 := by decide +kernel
theorem viX8_sell : Cond.instanceMethod MX8_sell.1 ∈ gg_W := gg_at 949 (by decide +kernel)
theorem vsX8_sell : Cond.selects MX8_sell.1.cls MX8_sell.1 MX8_sell.1 ∈ gg_W := gg_at 950 (by decide +kernel)
theorem dsX8_feed : MX8_feed.1.cls ≠ "java/lang/invoke/MethodHandle" ∧ MX8_feed.1.cls ≠ "java/lang/invoke/VarHandle" ∧ (parseMethodDescriptor MX8_feed.1.desc).map (fun d => d.parameters.length) = some 2 := by decide +kernel
theorem viX8_feed : Cond.instanceMethod MX8_feed.1 ∈ gg_W := gg_at 964 (by decide +kernel)
theorem vsX8_feed : Cond.selects MX8_feed.1.cls MX8_feed.1 MX8_feed.1 ∈ gg_W := gg_at 965 (by decide +kernel)
theorem dsX8_look : MX8_look.1.cls ≠ "java/lang/invoke/MethodHandle" ∧ MX8_look.1.cls ≠ "java/lang/invoke/VarHandle" ∧ (parseMethodDescriptor MX8_look.1.desc).map (fun d => d.parameters.length) = some 0 := by decide +kernel
theorem viX8_look : Cond.instanceMethod MX8_look.1 ∈ gg_W := gg_at 998 (by decide +kernel)
theorem vsX8_look : Cond.selects MX8_look.1.cls MX8_look.1 MX8_look.1 ∈ gg_W := gg_at 53 (by decide +kernel)
theorem dsX8_lays : MX8_lays.1.cls ≠ "java/lang/invoke/MethodHandle" ∧ MX8_lays.1.cls ≠ "java/lang/invoke/VarHandle" ∧ (parseMethodDescriptor MX8_lays.1.desc).map (fun d => d.parameters.length) = some 2 := by decide +kernel
theorem viX8_lays : Cond.instanceMethod MX8_lays.1 ∈ gg_W := gg_at 1006 (by decide +kernel)
theorem vsX8_lays : Cond.selects MX8_lays.1.cls MX8_lays.1 MX8_lays.1 ∈ gg_W := gg_at 55 (by decide +kernel)
theorem dsX8_nameOf : MX8_nameOf.1.cls ≠ "java/lang/invoke/MethodHandle" ∧ MX8_nameOf.1.cls ≠ "java/lang/invoke/VarHandle" ∧ (parseMethodDescriptor MX8_nameOf.1.desc).map (fun d => d.parameters.length) = some 1 := by decide +kernel
theorem viX8_nameOf : Cond.instanceMethod MX8_nameOf.1 ∈ gg_W := gg_at 1002 (by decide +kernel)
theorem vsX8_nameOf : Cond.selects MX8_nameOf.1.cls MX8_nameOf.1 MX8_nameOf.1 ∈ gg_W := gg_at 54 (by decide +kernel)
theorem dsX8_number : MX8_number.1.cls ≠ "java/lang/invoke/MethodHandle" ∧ MX8_number.1.cls ≠ "java/lang/invoke/VarHandle" ∧ (parseMethodDescriptor MX8_number.1.desc).map (fun d => d.parameters.length) = some 0 := by decide +kernel
theorem viX8_number : Cond.instanceMethod MX8_number.1 ∈ gg_W := gg_at 1014 (by decide +kernel)
theorem vsX8_number : Cond.selects MX8_number.1.cls MX8_number.1 MX8_number.1 ∈ gg_W := gg_at 57 (by decide +kernel)
theorem dsX8_opens : MX8_opens.1.cls ≠ "java/lang/invoke/MethodHandle" ∧ MX8_opens.1.cls ≠ "java/lang/invoke/VarHandle" ∧ (parseMethodDescriptor MX8_opens.1.desc).map (fun d => d.parameters.length) = some 1 := by decide +kernel
theorem viX8_opens : Cond.instanceMethod MX8_opens.1 ∈ gg_W := gg_at 1010 (by decide +kernel)
theorem vsX8_opens : Cond.selects MX8_opens.1.cls MX8_opens.1 MX8_opens.1 ∈ gg_W := gg_at 56 (by decide +kernel)
theorem dsX8_one : MX8_one.1.cls ≠ "java/lang/invoke/MethodHandle" ∧ MX8_one.1.cls ≠ "java/lang/invoke/VarHandle" ∧ (parseMethodDescriptor MX8_one.1.desc).map (fun d => d.parameters.length) = some 0 := by decide +kernel
theorem viX8_one : Cond.instanceMethod MX8_one.1 ∈ gg_W := gg_at 994 (by decide +kernel)
theorem vsX8_one : Cond.selects MX8_one.1.cls MX8_one.1 MX8_one.1 ∈ gg_W := gg_at 52 (by decide +kernel)
theorem dsX8_times : MX8_times.1.cls ≠ "java/lang/invoke/MethodHandle" ∧ MX8_times.1.cls ≠ "java/lang/invoke/VarHandle" ∧ (parseMethodDescriptor MX8_times.1.desc).map (fun d => d.parameters.length) = some 0 := by decide +kernel
theorem viX8_times : Cond.instanceMethod MX8_times.1 ∈ gg_W := gg_at 990 (by decide +kernel)
theorem vsX8_times : Cond.selects MX8_times.1.cls MX8_times.1 MX8_times.1 ∈ gg_W := gg_at 51 (by decide +kernel)
theorem dsX8_sum : MX8_sum.1.cls ≠ "java/lang/invoke/MethodHandle" ∧ MX8_sum.1.cls ≠ "java/lang/invoke/VarHandle" ∧ (parseMethodDescriptor MX8_sum.1.desc).map (fun d => d.parameters.length) = some 0 := by decide +kernel
theorem viX8_sum : Cond.instanceMethod MX8_sum.1 ∈ gg_W := gg_at 986 (by decide +kernel)
theorem vsX8_sum : Cond.selects MX8_sum.1.cls MX8_sum.1 MX8_sum.1 ∈ gg_W := gg_at 50 (by decide +kernel)
theorem dsX8_compares : MX8_compares.1.cls ≠ "java/lang/invoke/MethodHandle" ∧ MX8_compares.1.cls ≠ "java/lang/invoke/VarHandle" ∧ (parseMethodDescriptor MX8_compares.1.desc).map (fun d => d.parameters.length) = some 0 := by decide +kernel
theorem viX8_compares : Cond.instanceMethod MX8_compares.1 ∈ gg_W := gg_at 982 (by decide +kernel)
theorem vsX8_compares : Cond.selects MX8_compares.1.cls MX8_compares.1 MX8_compares.1 ∈ gg_W := gg_at 49 (by decide +kernel)
theorem dsX8_all : MX8_all.1.cls ≠ "java/lang/invoke/MethodHandle" ∧ MX8_all.1.cls ≠ "java/lang/invoke/VarHandle" ∧ (parseMethodDescriptor MX8_all.1.desc).map (fun d => d.parameters.length) = some 0 := by decide +kernel
theorem viX8_all : Cond.instanceMethod MX8_all.1 ∈ gg_W := gg_at 978 (by decide +kernel)
theorem vsX8_all : Cond.selects MX8_all.1.cls MX8_all.1 MX8_all.1 ∈ gg_W := gg_at 48 (by decide +kernel)
theorem dsX8_any : MX8_any.1.cls ≠ "java/lang/invoke/MethodHandle" ∧ MX8_any.1.cls ≠ "java/lang/invoke/VarHandle" ∧ (parseMethodDescriptor MX8_any.1.desc).map (fun d => d.parameters.length) = some 0 := by decide +kernel
theorem viX8_any : Cond.instanceMethod MX8_any.1 ∈ gg_W := gg_at 974 (by decide +kernel)
theorem vsX8_any : Cond.selects MX8_any.1.cls MX8_any.1 MX8_any.1 ∈ gg_W := gg_at 47 (by decide +kernel)
theorem dsX8_text : MX8_text.1.cls ≠ "java/lang/invoke/MethodHandle" ∧ MX8_text.1.cls ≠ "java/lang/invoke/VarHandle" ∧ (parseMethodDescriptor MX8_text.1.desc).map (fun d => d.parameters.length) = some 1 := by decide +kernel
theorem viX8_text : Cond.instanceMethod MX8_text.1 ∈ gg_W := gg_at 969 (by decide +kernel)
theorem vsX8_text : Cond.selects MX8_text.1.cls MX8_text.1 MX8_text.1 ∈ gg_W := gg_at 970 (by decide +kernel)
theorem dsX8_untell : MX8_untell.1.cls ≠ "java/lang/invoke/MethodHandle" ∧ MX8_untell.1.cls ≠ "java/lang/invoke/VarHandle" ∧ (parseMethodDescriptor MX8_untell.1.desc).map (fun d => d.parameters.length) = some 1 := by decide +kernel
theorem viX8_untell : Cond.instanceMethod MX8_untell.1 ∈ gg_W := gg_at 1017 (by decide +kernel)
theorem vsX8_untell : Cond.selects MX8_untell.1.cls MX8_untell.1 MX8_untell.1 ∈ gg_W := gg_at 1018 (by decide +kernel)
theorem dsX8_twoOf : MX8_twoOf.1.cls ≠ "java/lang/invoke/MethodHandle" ∧ MX8_twoOf.1.cls ≠ "java/lang/invoke/VarHandle" ∧ (parseMethodDescriptor MX8_twoOf.1.desc).map (fun d => d.parameters.length) = some 3 := by decide +kernel
theorem stX8_twoOf : Cond.static MX8_twoOf.1 ∈ gg_W := gg_at 915 (by decide +kernel)
theorem dsX8_works : MX8_works.1.cls ≠ "java/lang/invoke/MethodHandle" ∧ MX8_works.1.cls ≠ "java/lang/invoke/VarHandle" ∧ (parseMethodDescriptor MX8_works.1.desc).map (fun d => d.parameters.length) = some 1 := by decide +kernel
theorem viX8_works : Cond.instanceMethod MX8_works.1 ∈ gg_W := gg_at 912 (by decide +kernel)
theorem vsX8_works : Cond.selects MX8_works.1.cls MX8_works.1 MX8_works.1 ∈ gg_W := gg_at 43 (by decide +kernel)
theorem dsX8_gives : MX8_gives.1.cls ≠ "java/lang/invoke/MethodHandle" ∧ MX8_gives.1.cls ≠ "java/lang/invoke/VarHandle" ∧ (parseMethodDescriptor MX8_gives.1.desc).map (fun d => d.parameters.length) = some 4 := by decide +kernel
theorem viX8_gives : Cond.instanceMethod MX8_gives.1 ∈ gg_W := gg_at 908 (by decide +kernel)
theorem vsX8_gives : Cond.selects MX8_gives.1.cls MX8_gives.1 MX8_gives.1 ∈ gg_W := gg_at 42 (by decide +kernel)
theorem dsX8_law : MX8_law.1.cls ≠ "java/lang/invoke/MethodHandle" ∧ MX8_law.1.cls ≠ "java/lang/invoke/VarHandle" ∧ (parseMethodDescriptor MX8_law.1.desc).map (fun d => d.parameters.length) = some 4 := by decide +kernel
theorem viX8_law : Cond.instanceMethod MX8_law.1 ∈ gg_W := gg_at 1021 (by decide +kernel)
theorem vsX8_law : Cond.selects MX8_law.1.cls MX8_law.1 MX8_law.1 ∈ gg_W := gg_at 1022 (by decide +kernel)
theorem dsX8_pays : MX8_pays.1.cls ≠ "java/lang/invoke/MethodHandle" ∧ MX8_pays.1.cls ≠ "java/lang/invoke/VarHandle" ∧ (parseMethodDescriptor MX8_pays.1.desc).map (fun d => d.parameters.length) = some 1 := by decide +kernel
theorem viX8_pays : Cond.instanceMethod MX8_pays.1 ∈ gg_W := gg_at 1042 (by decide +kernel)
theorem vsX8_pays : Cond.selects MX8_pays.1.cls MX8_pays.1 MX8_pays.1 ∈ gg_W := gg_at 61 (by decide +kernel)
theorem dsX8_tallies : MX8_tallies.1.cls ≠ "java/lang/invoke/MethodHandle" ∧ MX8_tallies.1.cls ≠ "java/lang/invoke/VarHandle" ∧ (parseMethodDescriptor MX8_tallies.1.desc).map (fun d => d.parameters.length) = some 0 := by decide +kernel
theorem viX8_tallies : Cond.instanceMethod MX8_tallies.1 ∈ gg_W := gg_at 1030 (by decide +kernel)
theorem vsX8_tallies : Cond.selects MX8_tallies.1.cls MX8_tallies.1 MX8_tallies.1 ∈ gg_W := gg_at 58 (by decide +kernel)
theorem dsX8_tally : MX8_tally.1.cls ≠ "java/lang/invoke/MethodHandle" ∧ MX8_tally.1.cls ≠ "java/lang/invoke/VarHandle" ∧ (parseMethodDescriptor MX8_tally.1.desc).map (fun d => d.parameters.length) = some 0 := by decide +kernel
theorem viX8_tally : Cond.instanceMethod MX8_tally.1 ∈ gg_W := gg_at 1025 (by decide +kernel)
theorem vsX8_tally : Cond.selects MX8_tally.1.cls MX8_tally.1 MX8_tally.1 ∈ gg_W := gg_at 1026 (by decide +kernel)
theorem dsX8_draw : MX8_draw.1.cls ≠ "java/lang/invoke/MethodHandle" ∧ MX8_draw.1.cls ≠ "java/lang/invoke/VarHandle" ∧ (parseMethodDescriptor MX8_draw.1.desc).map (fun d => d.parameters.length) = some 0 := by decide +kernel
theorem viX8_draw : Cond.instanceMethod MX8_draw.1 ∈ gg_W := gg_at 1054 (by decide +kernel)
theorem vsX8_draw : Cond.selects MX8_draw.1.cls MX8_draw.1 MX8_draw.1 ∈ gg_W := gg_at 63 (by decide +kernel)
theorem dsX8_drawn : MX8_drawn.1.cls ≠ "java/lang/invoke/MethodHandle" ∧ MX8_drawn.1.cls ≠ "java/lang/invoke/VarHandle" ∧ (parseMethodDescriptor MX8_drawn.1.desc).map (fun d => d.parameters.length) = some 0 := by decide +kernel
theorem viX8_drawn : Cond.instanceMethod MX8_drawn.1 ∈ gg_W := gg_at 1050 (by decide +kernel)
theorem vsX8_drawn : Cond.selects MX8_drawn.1.cls MX8_drawn.1 MX8_drawn.1 ∈ gg_W := gg_at 62 (by decide +kernel)
theorem dsX8_loose : MX8_loose.1.cls ≠ "java/lang/invoke/MethodHandle" ∧ MX8_loose.1.cls ≠ "java/lang/invoke/VarHandle" ∧ (parseMethodDescriptor MX8_loose.1.desc).map (fun d => d.parameters.length) = some 1 := by decide +kernel
theorem viX8_loose : Cond.instanceMethod MX8_loose.1 ∈ gg_W := gg_at 1045 (by decide +kernel)
theorem vsX8_loose : Cond.selects MX8_loose.1.cls MX8_loose.1 MX8_loose.1 ∈ gg_W := gg_at 1046 (by decide +kernel)
theorem dsX8_seed : MX8_seed.1.cls ≠ "java/lang/invoke/MethodHandle" ∧ MX8_seed.1.cls ≠ "java/lang/invoke/VarHandle" ∧ (parseMethodDescriptor MX8_seed.1.desc).map (fun d => d.parameters.length) = some 1 := by decide +kernel
theorem viX8_seed : Cond.instanceMethod MX8_seed.1 ∈ gg_W := gg_at 1058 (by decide +kernel)
theorem vsX8_seed : Cond.selects MX8_seed.1.cls MX8_seed.1 MX8_seed.1 ∈ gg_W := gg_at 1059 (by decide +kernel)
theorem dsX8_catches : MX8_catches.1.cls ≠ "java/lang/invoke/MethodHandle" ∧ MX8_catches.1.cls ≠ "java/lang/invoke/VarHandle" ∧ (parseMethodDescriptor MX8_catches.1.desc).map (fun d => d.parameters.length) = some 1 := by decide +kernel
theorem viX8_catches : Cond.instanceMethod MX8_catches.1 ∈ gg_W := gg_at 1062 (by decide +kernel)
theorem vsX8_catches : Cond.selects MX8_catches.1.cls MX8_catches.1 MX8_catches.1 ∈ gg_W := gg_at 1063 (by decide +kernel)
theorem dsX8_enough : MX8_enough.1.cls ≠ "java/lang/invoke/MethodHandle" ∧ MX8_enough.1.cls ≠ "java/lang/invoke/VarHandle" ∧ (parseMethodDescriptor MX8_enough.1.desc).map (fun d => d.parameters.length) = some 2 := by decide +kernel
theorem viX8_enough : Cond.instanceMethod MX8_enough.1 ∈ gg_W := gg_at 1075 (by decide +kernel)
theorem vsX8_enough : Cond.selects MX8_enough.1.cls MX8_enough.1 MX8_enough.1 ∈ gg_W := gg_at 65 (by decide +kernel)
theorem dsX8_safe : MX8_safe.1.cls ≠ "java/lang/invoke/MethodHandle" ∧ MX8_safe.1.cls ≠ "java/lang/invoke/VarHandle" ∧ (parseMethodDescriptor MX8_safe.1.desc).map (fun d => d.parameters.length) = some 1 := by decide +kernel
theorem viX8_safe : Cond.instanceMethod MX8_safe.1 ∈ gg_W := gg_at 1070 (by decide +kernel)
theorem vsX8_safe : Cond.selects MX8_safe.1.cls MX8_safe.1 MX8_safe.1 ∈ gg_W := gg_at 1071 (by decide +kernel)
theorem dsX8_shortest : MX8_shortest.1.cls ≠ "java/lang/invoke/MethodHandle" ∧ MX8_shortest.1.cls ≠ "java/lang/invoke/VarHandle" ∧ (parseMethodDescriptor MX8_shortest.1.desc).map (fun d => d.parameters.length) = some 2 := by decide +kernel
theorem viX8_shortest : Cond.instanceMethod MX8_shortest.1 ∈ gg_W := gg_at 1083 (by decide +kernel)
theorem vsX8_shortest : Cond.selects MX8_shortest.1.cls MX8_shortest.1 MX8_shortest.1 ∈ gg_W := gg_at 66 (by decide +kernel)
theorem dsX8_best : MX8_best.1.cls ≠ "java/lang/invoke/MethodHandle" ∧ MX8_best.1.cls ≠ "java/lang/invoke/VarHandle" ∧ (parseMethodDescriptor MX8_best.1.desc).map (fun d => d.parameters.length) = some 2 := by decide +kernel
theorem viX8_best : Cond.instanceMethod MX8_best.1 ∈ gg_W := gg_at 1078 (by decide +kernel)
theorem vsX8_best : Cond.selects MX8_best.1.cls MX8_best.1 MX8_best.1 ∈ gg_W := gg_at 1079 (by decide +kernel)
theorem dsX8_agrees : MX8_agrees.1.cls ≠ "java/lang/invoke/MethodHandle" ∧ MX8_agrees.1.cls ≠ "java/lang/invoke/VarHandle" ∧ (parseMethodDescriptor MX8_agrees.1.desc).map (fun d => d.parameters.length) = some 2 := by decide +kernel
theorem viX8_agrees : Cond.instanceMethod MX8_agrees.1 ∈ gg_W := gg_at 1086 (by decide +kernel)
theorem vsX8_agrees : Cond.selects MX8_agrees.1.cls MX8_agrees.1 MX8_agrees.1 ∈ gg_W := gg_at 1087 (by decide +kernel)
theorem dsX8_isEnough : MX8_isEnough.1.cls ≠ "java/lang/invoke/MethodHandle" ∧ MX8_isEnough.1.cls ≠ "java/lang/invoke/VarHandle" ∧ (parseMethodDescriptor MX8_isEnough.1.desc).map (fun d => d.parameters.length) = some 1 := by decide +kernel
theorem viX8_isEnough : Cond.instanceMethod MX8_isEnough.1 ∈ gg_W := gg_at 1099 (by decide +kernel)
theorem vsX8_isEnough : Cond.selects MX8_isEnough.1.cls MX8_isEnough.1 MX8_isEnough.1 ∈ gg_W := gg_at 67 (by decide +kernel)
theorem dsX8_needs : MX8_needs.1.cls ≠ "java/lang/invoke/MethodHandle" ∧ MX8_needs.1.cls ≠ "java/lang/invoke/VarHandle" ∧ (parseMethodDescriptor MX8_needs.1.desc).map (fun d => d.parameters.length) = some 1 := by decide +kernel
theorem viX8_needs : Cond.instanceMethod MX8_needs.1 ∈ gg_W := gg_at 1091 (by decide +kernel)
theorem vsX8_needs : Cond.selects MX8_needs.1.cls MX8_needs.1 MX8_needs.1 ∈ gg_W := gg_at 1092 (by decide +kernel)
theorem dsX8_soonest : MX8_soonest.1.cls ≠ "java/lang/invoke/MethodHandle" ∧ MX8_soonest.1.cls ≠ "java/lang/invoke/VarHandle" ∧ (parseMethodDescriptor MX8_soonest.1.desc).map (fun d => d.parameters.length) = some 2 := by decide +kernel
theorem viX8_soonest : Cond.instanceMethod MX8_soonest.1 ∈ gg_W := gg_at 1102 (by decide +kernel)
theorem vsX8_soonest : Cond.selects MX8_soonest.1.cls MX8_soonest.1 MX8_soonest.1 ∈ gg_W := gg_at 1103 (by decide +kernel)
theorem dsX8_partOf : MX8_partOf.1.cls ≠ "java/lang/invoke/MethodHandle" ∧ MX8_partOf.1.cls ≠ "java/lang/invoke/VarHandle" ∧ (parseMethodDescriptor MX8_partOf.1.desc).map (fun d => d.parameters.length) = some 3 := by decide +kernel
theorem stX8_partOf : Cond.static MX8_partOf.1 ∈ gg_W := gg_at 1110 (by decide +kernel)
theorem dsX8_odds : MX8_odds.1.cls ≠ "java/lang/invoke/MethodHandle" ∧ MX8_odds.1.cls ≠ "java/lang/invoke/VarHandle" ∧ (parseMethodDescriptor MX8_odds.1.desc).map (fun d => d.parameters.length) = some 3 := by decide +kernel
theorem viX8_odds : Cond.instanceMethod MX8_odds.1 ∈ gg_W := gg_at 1106 (by decide +kernel)
theorem vsX8_odds : Cond.selects MX8_odds.1.cls MX8_odds.1 MX8_odds.1 ∈ gg_W := gg_at 1107 (by decide +kernel)
theorem dsX8_mean : MX8_mean.1.cls ≠ "java/lang/invoke/MethodHandle" ∧ MX8_mean.1.cls ≠ "java/lang/invoke/VarHandle" ∧ (parseMethodDescriptor MX8_mean.1.desc).map (fun d => d.parameters.length) = some 2 := by decide +kernel
theorem viX8_mean : Cond.instanceMethod MX8_mean.1 ∈ gg_W := gg_at 1113 (by decide +kernel)
theorem vsX8_mean : Cond.selects MX8_mean.1.cls MX8_mean.1 MX8_mean.1 ∈ gg_W := gg_at 1114 (by decide +kernel)
theorem dsX8_rightOf : MX8_rightOf.1.cls ≠ "java/lang/invoke/MethodHandle" ∧ MX8_rightOf.1.cls ≠ "java/lang/invoke/VarHandle" ∧ (parseMethodDescriptor MX8_rightOf.1.desc).map (fun d => d.parameters.length) = some 1 := by decide +kernel
theorem viX8_rightOf : Cond.instanceMethod MX8_rightOf.1 ∈ gg_W := gg_at 1125 (by decide +kernel)
theorem vsX8_rightOf : Cond.selects MX8_rightOf.1.cls MX8_rightOf.1 MX8_rightOf.1 ∈ gg_W := gg_at 68 (by decide +kernel)
theorem dsX8_fits : MX8_fits.1.cls ≠ "java/lang/invoke/MethodHandle" ∧ MX8_fits.1.cls ≠ "java/lang/invoke/VarHandle" ∧ (parseMethodDescriptor MX8_fits.1.desc).map (fun d => d.parameters.length) = some 2 := by decide +kernel
theorem viX8_fits : Cond.instanceMethod MX8_fits.1 ∈ gg_W := gg_at 1117 (by decide +kernel)
theorem vsX8_fits : Cond.selects MX8_fits.1.cls MX8_fits.1 MX8_fits.1 ∈ gg_W := gg_at 1118 (by decide +kernel)
theorem dsX8_begins : MX8_begins.1.cls ≠ "java/lang/invoke/MethodHandle" ∧ MX8_begins.1.cls ≠ "java/lang/invoke/VarHandle" ∧ (parseMethodDescriptor MX8_begins.1.desc).map (fun d => d.parameters.length) = some 1 := by decide +kernel
theorem viX8_begins : Cond.instanceMethod MX8_begins.1 ∈ gg_W := gg_at 1141 (by decide +kernel)
theorem vsX8_begins : Cond.selects MX8_begins.1.cls MX8_begins.1 MX8_begins.1 ∈ gg_W := gg_at 71 (by decide +kernel)
theorem dsX8_plainCalls : MX8_plainCalls.1.cls ≠ "java/lang/invoke/MethodHandle" ∧ MX8_plainCalls.1.cls ≠ "java/lang/invoke/VarHandle" ∧ (parseMethodDescriptor MX8_plainCalls.1.desc).map (fun d => d.parameters.length) = some 2 := by decide +kernel
theorem viX8_plainCalls : Cond.instanceMethod MX8_plainCalls.1 ∈ gg_W := gg_at 1145 (by decide +kernel)
theorem vsX8_plainCalls : Cond.selects MX8_plainCalls.1.cls MX8_plainCalls.1 MX8_plainCalls.1 ∈ gg_W := gg_at 72 (by decide +kernel)
theorem dsX8_smackCalls : MX8_smackCalls.1.cls ≠ "java/lang/invoke/MethodHandle" ∧ MX8_smackCalls.1.cls ≠ "java/lang/invoke/VarHandle" ∧ (parseMethodDescriptor MX8_smackCalls.1.desc).map (fun d => d.parameters.length) = some 2 := by decide +kernel
theorem viX8_smackCalls : Cond.instanceMethod MX8_smackCalls.1 ∈ gg_W := gg_at 1137 (by decide +kernel)
theorem vsX8_smackCalls : Cond.selects MX8_smackCalls.1.cls MX8_smackCalls.1 MX8_smackCalls.1 ∈ gg_W := gg_at 70 (by decide +kernel)
theorem dsX8_calls : MX8_calls.1.cls ≠ "java/lang/invoke/MethodHandle" ∧ MX8_calls.1.cls ≠ "java/lang/invoke/VarHandle" ∧ (parseMethodDescriptor MX8_calls.1.desc).map (fun d => d.parameters.length) = some 2 := by decide +kernel
theorem viX8_calls : Cond.instanceMethod MX8_calls.1 ∈ gg_W := gg_at 1133 (by decide +kernel)
theorem vsX8_calls : Cond.selects MX8_calls.1.cls MX8_calls.1 MX8_calls.1 ∈ gg_W := gg_at 69 (by decide +kernel)
theorem dsX8_plainHauls : MX8_plainHauls.1.cls ≠ "java/lang/invoke/MethodHandle" ∧ MX8_plainHauls.1.cls ≠ "java/lang/invoke/VarHandle" ∧ (parseMethodDescriptor MX8_plainHauls.1.desc).map (fun d => d.parameters.length) = some 2 := by decide +kernel
theorem viX8_plainHauls : Cond.instanceMethod MX8_plainHauls.1 ∈ gg_W := gg_at 1157 (by decide +kernel)
theorem vsX8_plainHauls : Cond.selects MX8_plainHauls.1.cls MX8_plainHauls.1 MX8_plainHauls.1 ∈ gg_W := gg_at 75 (by decide +kernel)
theorem dsX8_skiffHauls : MX8_skiffHauls.1.cls ≠ "java/lang/invoke/MethodHandle" ∧ MX8_skiffHauls.1.cls ≠ "java/lang/invoke/VarHandle" ∧ (parseMethodDescriptor MX8_skiffHauls.1.desc).map (fun d => d.parameters.length) = some 2 := by decide +kernel
theorem viX8_skiffHauls : Cond.instanceMethod MX8_skiffHauls.1 ∈ gg_W := gg_at 1153 (by decide +kernel)
theorem vsX8_skiffHauls : Cond.selects MX8_skiffHauls.1.cls MX8_skiffHauls.1 MX8_skiffHauls.1 ∈ gg_W := gg_at 74 (by decide +kernel)
theorem dsX8_hauls : MX8_hauls.1.cls ≠ "java/lang/invoke/MethodHandle" ∧ MX8_hauls.1.cls ≠ "java/lang/invoke/VarHandle" ∧ (parseMethodDescriptor MX8_hauls.1.desc).map (fun d => d.parameters.length) = some 2 := by decide +kernel
theorem viX8_hauls : Cond.instanceMethod MX8_hauls.1 ∈ gg_W := gg_at 1149 (by decide +kernel)
theorem vsX8_hauls : Cond.selects MX8_hauls.1.cls MX8_hauls.1 MX8_hauls.1 ∈ gg_W := gg_at 73 (by decide +kernel)
theorem dsX8_plainLets : MX8_plainLets.1.cls ≠ "java/lang/invoke/MethodHandle" ∧ MX8_plainLets.1.cls ≠ "java/lang/invoke/VarHandle" ∧ (parseMethodDescriptor MX8_plainLets.1.desc).map (fun d => d.parameters.length) = some 2 := by decide +kernel
theorem viX8_plainLets : Cond.instanceMethod MX8_plainLets.1 ∈ gg_W := gg_at 1165 (by decide +kernel)
theorem vsX8_plainLets : Cond.selects MX8_plainLets.1.cls MX8_plainLets.1 MX8_plainLets.1 ∈ gg_W := gg_at 77 (by decide +kernel)
theorem dsX8_letsBy : MX8_letsBy.1.cls ≠ "java/lang/invoke/MethodHandle" ∧ MX8_letsBy.1.cls ≠ "java/lang/invoke/VarHandle" ∧ (parseMethodDescriptor MX8_letsBy.1.desc).map (fun d => d.parameters.length) = some 2 := by decide +kernel
theorem viX8_letsBy : Cond.instanceMethod MX8_letsBy.1 ∈ gg_W := gg_at 1161 (by decide +kernel)
theorem vsX8_letsBy : Cond.selects MX8_letsBy.1.cls MX8_letsBy.1 MX8_letsBy.1 ∈ gg_W := gg_at 76 (by decide +kernel)
theorem dsX8_plainParts : MX8_plainParts.1.cls ≠ "java/lang/invoke/MethodHandle" ∧ MX8_plainParts.1.cls ≠ "java/lang/invoke/VarHandle" ∧ (parseMethodDescriptor MX8_plainParts.1.desc).map (fun d => d.parameters.length) = some 2 := by decide +kernel
theorem viX8_plainParts : Cond.instanceMethod MX8_plainParts.1 ∈ gg_W := gg_at 1173 (by decide +kernel)
theorem vsX8_plainParts : Cond.selects MX8_plainParts.1.cls MX8_plainParts.1 MX8_plainParts.1 ∈ gg_W := gg_at 79 (by decide +kernel)
theorem dsX8_partsBy : MX8_partsBy.1.cls ≠ "java/lang/invoke/MethodHandle" ∧ MX8_partsBy.1.cls ≠ "java/lang/invoke/VarHandle" ∧ (parseMethodDescriptor MX8_partsBy.1.desc).map (fun d => d.parameters.length) = some 2 := by decide +kernel
theorem viX8_partsBy : Cond.instanceMethod MX8_partsBy.1 ∈ gg_W := gg_at 1169 (by decide +kernel)
theorem vsX8_partsBy : Cond.selects MX8_partsBy.1.cls MX8_partsBy.1 MX8_partsBy.1 ∈ gg_W := gg_at 78 (by decide +kernel)
theorem dsX8_voice : MX8_voice.1.cls ≠ "java/lang/invoke/MethodHandle" ∧ MX8_voice.1.cls ≠ "java/lang/invoke/VarHandle" ∧ (parseMethodDescriptor MX8_voice.1.desc).map (fun d => d.parameters.length) = some 3 := by decide +kernel
theorem viX8_voice : Cond.instanceMethod MX8_voice.1 ∈ gg_W := gg_at 1128 (by decide +kernel)
theorem vsX8_voice : Cond.selects MX8_voice.1.cls MX8_voice.1 MX8_voice.1 ∈ gg_W := gg_at 1129 (by decide +kernel)
theorem dsX8_body : MX8_body.1.cls ≠ "java/lang/invoke/MethodHandle" ∧ MX8_body.1.cls ≠ "java/lang/invoke/VarHandle" ∧ (parseMethodDescriptor MX8_body.1.desc).map (fun d => d.parameters.length) = some 1 := by decide +kernel
theorem viX8_body : Cond.instanceMethod MX8_body.1 ∈ gg_W := gg_at 1177 (by decide +kernel)
theorem vsX8_body : Cond.selects MX8_body.1.cls MX8_body.1 MX8_body.1 ∈ gg_W := gg_at 1178 (by decide +kernel)
theorem dsX8_isSheet : MX8_isSheet.1.cls ≠ "java/lang/invoke/MethodHandle" ∧ MX8_isSheet.1.cls ≠ "java/lang/invoke/VarHandle" ∧ (parseMethodDescriptor MX8_isSheet.1.desc).map (fun d => d.parameters.length) = some 1 := by decide +kernel
theorem stX8_isSheet : Cond.static MX8_isSheet.1 ∈ gg_W := gg_at 1121 (by decide +kernel)
theorem dsX8_sheet : MX8_sheet.1.cls ≠ "java/lang/invoke/MethodHandle" ∧ MX8_sheet.1.cls ≠ "java/lang/invoke/VarHandle" ∧ (parseMethodDescriptor MX8_sheet.1.desc).map (fun d => d.parameters.length) = some 3 := by decide +kernel
theorem viX8_sheet : Cond.instanceMethod MX8_sheet.1 ∈ gg_W := gg_at 1181 (by decide +kernel)
theorem vsX8_sheet : Cond.selects MX8_sheet.1.cls MX8_sheet.1 MX8_sheet.1 ∈ gg_W := gg_at 1182 (by decide +kernel)
theorem dsX8_notThere : MX8_notThere.1.cls ≠ "java/lang/invoke/MethodHandle" ∧ MX8_notThere.1.cls ≠ "java/lang/invoke/VarHandle" ∧ (parseMethodDescriptor MX8_notThere.1.desc).map (fun d => d.parameters.length) = some 1 := by decide +kernel
theorem viX8_notThere : Cond.instanceMethod MX8_notThere.1 ∈ gg_W := gg_at 1190 (by decide +kernel)
theorem vsX8_notThere : Cond.selects MX8_notThere.1.cls MX8_notThere.1 MX8_notThere.1 ∈ gg_W := gg_at 80 (by decide +kernel)
theorem dsX8_put : MX8_put.1.cls ≠ "java/lang/invoke/MethodHandle" ∧ MX8_put.1.cls ≠ "java/lang/invoke/VarHandle" ∧ (parseMethodDescriptor MX8_put.1.desc).map (fun d => d.parameters.length) = some 3 := by decide +kernel
theorem viX8_put : Cond.instanceMethod MX8_put.1 ∈ gg_W := gg_at 1185 (by decide +kernel)
theorem vsX8_put : Cond.selects MX8_put.1.cls MX8_put.1 MX8_put.1 ∈ gg_W := gg_at 1186 (by decide +kernel)
theorem dsX8_notMoved : MX8_notMoved.1.cls ≠ "java/lang/invoke/MethodHandle" ∧ MX8_notMoved.1.cls ≠ "java/lang/invoke/VarHandle" ∧ (parseMethodDescriptor MX8_notMoved.1.desc).map (fun d => d.parameters.length) = some 5 := by decide +kernel
theorem viX8_notMoved : Cond.instanceMethod MX8_notMoved.1 ∈ gg_W := gg_at 1198 (by decide +kernel)
theorem vsX8_notMoved : Cond.selects MX8_notMoved.1.cls MX8_notMoved.1 MX8_notMoved.1 ∈ gg_W := gg_at 81 (by decide +kernel)
theorem dsX8_move : MX8_move.1.cls ≠ "java/lang/invoke/MethodHandle" ∧ MX8_move.1.cls ≠ "java/lang/invoke/VarHandle" ∧ (parseMethodDescriptor MX8_move.1.desc).map (fun d => d.parameters.length) = some 5 := by decide +kernel
theorem viX8_move : Cond.instanceMethod MX8_move.1 ∈ gg_W := gg_at 1193 (by decide +kernel)
theorem vsX8_move : Cond.selects MX8_move.1.cls MX8_move.1 MX8_move.1 ∈ gg_W := gg_at 1194 (by decide +kernel)
theorem dsX8_prices : MX8_prices.1.cls ≠ "java/lang/invoke/MethodHandle" ∧ MX8_prices.1.cls ≠ "java/lang/invoke/VarHandle" ∧ (parseMethodDescriptor MX8_prices.1.desc).map (fun d => d.parameters.length) = some 1 := by decide +kernel
theorem viX8_prices : Cond.instanceMethod MX8_prices.1 ∈ gg_W := gg_at 1201 (by decide +kernel)
theorem vsX8_prices : Cond.selects MX8_prices.1.cls MX8_prices.1 MX8_prices.1 ∈ gg_W := gg_at 1202 (by decide +kernel)
theorem dsX8_judge : MX8_judge.1.cls ≠ "java/lang/invoke/MethodHandle" ∧ MX8_judge.1.cls ≠ "java/lang/invoke/VarHandle" ∧ (parseMethodDescriptor MX8_judge.1.desc).map (fun d => d.parameters.length) = some 1 := by decide +kernel
theorem viX8_judge : Cond.instanceMethod MX8_judge.1 ∈ gg_W := gg_at 1205 (by decide +kernel)
theorem vsX8_judge : Cond.selects MX8_judge.1.cls MX8_judge.1 MX8_judge.1 ∈ gg_W := gg_at 1206 (by decide +kernel)
theorem dsX8_image : MX8_image.1.cls ≠ "java/lang/invoke/MethodHandle" ∧ MX8_image.1.cls ≠ "java/lang/invoke/VarHandle" ∧ (parseMethodDescriptor MX8_image.1.desc).map (fun d => d.parameters.length) = some 0 := by decide +kernel
theorem viX8_image : Cond.instanceMethod MX8_image.1 ∈ gg_W := gg_at 1209 (by decide +kernel)
theorem vsX8_image : Cond.selects MX8_image.1.cls MX8_image.1 MX8_image.1 ∈ gg_W := gg_at 1210 (by decide +kernel)
theorem dsX8_restore : MX8_restore.1.cls ≠ "java/lang/invoke/MethodHandle" ∧ MX8_restore.1.cls ≠ "java/lang/invoke/VarHandle" ∧ (parseMethodDescriptor MX8_restore.1.desc).map (fun d => d.parameters.length) = some 0 := by decide +kernel
theorem viX8_restore : Cond.instanceMethod MX8_restore.1 ∈ gg_W := gg_at 1216 (by decide +kernel)
theorem vsX8_restore : Cond.selects MX8_restore.1.cls MX8_restore.1 MX8_restore.1 ∈ gg_W := gg_at 1217 (by decide +kernel)
theorem dsX8_tell : MX8_tell.1.cls ≠ "java/lang/invoke/MethodHandle" ∧ MX8_tell.1.cls ≠ "java/lang/invoke/VarHandle" ∧ (parseMethodDescriptor MX8_tell.1.desc).map (fun d => d.parameters.length) = some 1 := by decide +kernel
theorem viX8_tell : Cond.instanceMethod MX8_tell.1 ∈ gg_W := gg_at 1220 (by decide +kernel)
theorem vsX8_tell : Cond.selects MX8_tell.1.cls MX8_tell.1 MX8_tell.1 ∈ gg_W := gg_at 1221 (by decide +kernel)
theorem dsX8_check : MX8_check.1.cls ≠ "java/lang/invoke/MethodHandle" ∧ MX8_check.1.cls ≠ "java/lang/invoke/VarHandle" ∧ (parseMethodDescriptor MX8_check.1.desc).map (fun d => d.parameters.length) = some 0 := by decide +kernel
theorem viX8_check : Cond.instanceMethod MX8_check.1 ∈ gg_W := gg_at 1224 (by decide +kernel)
theorem vsX8_check : Cond.selects MX8_check.1.cls MX8_check.1 MX8_check.1 ∈ gg_W := gg_at 1225 (by decide +kernel)
theorem dsX8_count : MX8_count.1.cls ≠ "java/lang/invoke/MethodHandle" ∧ MX8_count.1.cls ≠ "java/lang/invoke/VarHandle" ∧ (parseMethodDescriptor MX8_count.1.desc).map (fun d => d.parameters.length) = some 1 := by decide +kernel
theorem viX8_count : Cond.instanceMethod MX8_count.1 ∈ gg_W := gg_at 1228 (by decide +kernel)
theorem vsX8_count : Cond.selects MX8_count.1.cls MX8_count.1 MX8_count.1 ∈ gg_W := gg_at 1229 (by decide +kernel)
theorem dsX8_told : MX8_told.1.cls ≠ "java/lang/invoke/MethodHandle" ∧ MX8_told.1.cls ≠ "java/lang/invoke/VarHandle" ∧ (parseMethodDescriptor MX8_told.1.desc).map (fun d => d.parameters.length) = some 1 := by decide +kernel
theorem viX8_told : Cond.instanceMethod MX8_told.1 ∈ gg_W := gg_at 1232 (by decide +kernel)
theorem vsX8_told : Cond.selects MX8_told.1.cls MX8_told.1 MX8_told.1 ∈ gg_W := gg_at 1233 (by decide +kernel)
theorem dsJ6_numberOfTrailingZeros_0f7a4 : MJ6_numberOfTrailingZeros_0f7a4.1.cls ≠ "java/lang/invoke/MethodHandle" ∧ MJ6_numberOfTrailingZeros_0f7a4.1.cls ≠ "java/lang/invoke/VarHandle" ∧ (parseMethodDescriptor MJ6_numberOfTrailingZeros_0f7a4.1.desc).map (fun d => d.parameters.length) = some 1 := by decide +kernel
theorem stJ6_numberOfTrailingZeros_0f7a4 : Cond.static MJ6_numberOfTrailingZeros_0f7a4.1 ∈ gg_W := gg_at 694 (by decide +kernel)
theorem dsJ6_bitCount_0f7a4 : MJ6_bitCount_0f7a4.1.cls ≠ "java/lang/invoke/MethodHandle" ∧ MJ6_bitCount_0f7a4.1.cls ≠ "java/lang/invoke/VarHandle" ∧ (parseMethodDescriptor MJ6_bitCount_0f7a4.1.desc).map (fun d => d.parameters.length) = some 1 := by decide +kernel
theorem stJ6_bitCount_0f7a4 : Cond.static MJ6_bitCount_0f7a4.1 ∈ gg_W := gg_at 642 (by decide +kernel)
theorem dsJ9_max_7cf53 : MJ9_max_7cf53.1.cls ≠ "java/lang/invoke/MethodHandle" ∧ MJ9_max_7cf53.1.cls ≠ "java/lang/invoke/VarHandle" ∧ (parseMethodDescriptor MJ9_max_7cf53.1.desc).map (fun d => d.parameters.length) = some 2 := by decide +kernel
theorem stJ9_max_7cf53 : Cond.static MJ9_max_7cf53.1 ∈ gg_W := gg_at 379 (by decide +kernel)
theorem dsJ9_min_7cf53 : MJ9_min_7cf53.1.cls ≠ "java/lang/invoke/MethodHandle" ∧ MJ9_min_7cf53.1.cls ≠ "java/lang/invoke/VarHandle" ∧ (parseMethodDescriptor MJ9_min_7cf53.1.desc).map (fun d => d.parameters.length) = some 2 := by decide +kernel
theorem stJ9_min_7cf53 : Cond.static MJ9_min_7cf53.1 ∈ gg_W := gg_at 376 (by decide +kernel)
theorem dsJ0_length_8abf5 : MJ0_length_8abf5.1.cls ≠ "java/lang/invoke/MethodHandle" ∧ MJ0_length_8abf5.1.cls ≠ "java/lang/invoke/VarHandle" ∧ (parseMethodDescriptor MJ0_length_8abf5.1.desc).map (fun d => d.parameters.length) = some 0 := by decide +kernel
theorem viJ0_length_8abf5 : Cond.instanceMethod MJ0_length_8abf5.1 ∈ gg_W := gg_at 478 (by decide +kernel)
theorem vsJ0_length_8abf5 : Cond.selects MJ0_length_8abf5.1.cls MJ0_length_8abf5.1 MJ0_length_8abf5.1 ∈ gg_W := gg_at 479 (by decide +kernel)
theorem dsJ0_charAt_5068e : MJ0_charAt_5068e.1.cls ≠ "java/lang/invoke/MethodHandle" ∧ MJ0_charAt_5068e.1.cls ≠ "java/lang/invoke/VarHandle" ∧ (parseMethodDescriptor MJ0_charAt_5068e.1.desc).map (fun d => d.parameters.length) = some 1 := by decide +kernel
theorem viJ0_charAt_5068e : Cond.instanceMethod MJ0_charAt_5068e.1 ∈ gg_W := gg_at 488 (by decide +kernel)
theorem vsJ0_charAt_5068e : Cond.selects MJ0_charAt_5068e.1.cls MJ0_charAt_5068e.1 MJ0_charAt_5068e.1 ∈ gg_W := gg_at 489 (by decide +kernel)
theorem dsJ0_coder_7d493 : MJ0_coder_7d493.1.cls ≠ "java/lang/invoke/MethodHandle" ∧ MJ0_coder_7d493.1.cls ≠ "java/lang/invoke/VarHandle" ∧ (parseMethodDescriptor MJ0_coder_7d493.1.desc).map (fun d => d.parameters.length) = some 0 := by decide +kernel
theorem viJ0_coder_7d493 : Cond.instanceMethod MJ0_coder_7d493.1 ∈ gg_W := gg_at 482 (by decide +kernel)
theorem vsJ0_coder_7d493 : Cond.selects MJ0_coder_7d493.1.cls MJ0_coder_7d493.1 MJ0_coder_7d493.1 ∈ gg_W := gg_at 483 (by decide +kernel)
theorem dsJ0_isLatin1_aae02 : MJ0_isLatin1_aae02.1.cls ≠ "java/lang/invoke/MethodHandle" ∧ MJ0_isLatin1_aae02.1.cls ≠ "java/lang/invoke/VarHandle" ∧ (parseMethodDescriptor MJ0_isLatin1_aae02.1.desc).map (fun d => d.parameters.length) = some 0 := by decide +kernel
theorem viJ0_isLatin1_aae02 : Cond.instanceMethod MJ0_isLatin1_aae02.1 ∈ gg_W := gg_at 492 (by decide +kernel)
theorem vsJ0_isLatin1_aae02 : Cond.selects MJ0_isLatin1_aae02.1.cls MJ0_isLatin1_aae02.1 MJ0_isLatin1_aae02.1 ∈ gg_W := gg_at 493 (by decide +kernel)
theorem dsJ0_checkIndex_df160 : MJ0_checkIndex_df160.1.cls ≠ "java/lang/invoke/MethodHandle" ∧ MJ0_checkIndex_df160.1.cls ≠ "java/lang/invoke/VarHandle" ∧ (parseMethodDescriptor MJ0_checkIndex_df160.1.desc).map (fun d => d.parameters.length) = some 2 := by decide +kernel
theorem stJ0_checkIndex_df160 : Cond.static MJ0_checkIndex_df160.1 ∈ gg_W := gg_at 499 (by decide +kernel)
theorem dsJ1_charAt_3b067 : MJ1_charAt_3b067.1.cls ≠ "java/lang/invoke/MethodHandle" ∧ MJ1_charAt_3b067.1.cls ≠ "java/lang/invoke/VarHandle" ∧ (parseMethodDescriptor MJ1_charAt_3b067.1.desc).map (fun d => d.parameters.length) = some 2 := by decide +kernel
theorem stJ1_charAt_3b067 : Cond.static MJ1_charAt_3b067.1 ∈ gg_W := gg_at 496 (by decide +kernel)
theorem dsJ2_getChar_3b067 : MJ2_getChar_3b067.1.cls ≠ "java/lang/invoke/MethodHandle" ∧ MJ2_getChar_3b067.1.cls ≠ "java/lang/invoke/VarHandle" ∧ (parseMethodDescriptor MJ2_getChar_3b067.1.desc).map (fun d => d.parameters.length) = some 2 := by decide +kernel
theorem stJ2_getChar_3b067 : Cond.static MJ2_getChar_3b067.1 ∈ gg_W := gg_at 517 (by decide +kernel)
theorem dsJ2_length_9d52b : MJ2_length_9d52b.1.cls ≠ "java/lang/invoke/MethodHandle" ∧ MJ2_length_9d52b.1.cls ≠ "java/lang/invoke/VarHandle" ∧ (parseMethodDescriptor MJ2_length_9d52b.1.desc).map (fun d => d.parameters.length) = some 1 := by decide +kernel
theorem stJ2_length_9d52b : Cond.static MJ2_length_9d52b.1 ∈ gg_W := gg_at 513 (by decide +kernel)
theorem dsJ2_charAt_3b067 : MJ2_charAt_3b067.1.cls ≠ "java/lang/invoke/MethodHandle" ∧ MJ2_charAt_3b067.1.cls ≠ "java/lang/invoke/VarHandle" ∧ (parseMethodDescriptor MJ2_charAt_3b067.1.desc).map (fun d => d.parameters.length) = some 2 := by decide +kernel
theorem stJ2_charAt_3b067 : Cond.static MJ2_charAt_3b067.1 ∈ gg_W := gg_at 507 (by decide +kernel)
theorem dsJ2_checkIndex_2214a : MJ2_checkIndex_2214a.1.cls ≠ "java/lang/invoke/MethodHandle" ∧ MJ2_checkIndex_2214a.1.cls ≠ "java/lang/invoke/VarHandle" ∧ (parseMethodDescriptor MJ2_checkIndex_2214a.1.desc).map (fun d => d.parameters.length) = some 2 := by decide +kernel
theorem stJ2_checkIndex_2214a : Cond.static MJ2_checkIndex_2214a.1 ∈ gg_W := gg_at 510 (by decide +kernel)
theorem dsJ7_fill_53178 : MJ7_fill_53178.1.cls ≠ "java/lang/invoke/MethodHandle" ∧ MJ7_fill_53178.1.cls ≠ "java/lang/invoke/VarHandle" ∧ (parseMethodDescriptor MJ7_fill_53178.1.desc).map (fun d => d.parameters.length) = some 2 := by decide +kernel
theorem stJ7_fill_53178 : Cond.static MJ7_fill_53178.1 ∈ gg_W := gg_at 119 (by decide +kernel)
theorem dsJ3_checkIndex_8e157 : MJ3_checkIndex_8e157.1.cls ≠ "java/lang/invoke/MethodHandle" ∧ MJ3_checkIndex_8e157.1.cls ≠ "java/lang/invoke/VarHandle" ∧ (parseMethodDescriptor MJ3_checkIndex_8e157.1.desc).map (fun d => d.parameters.length) = some 3 := by decide +kernel
theorem stJ3_checkIndex_8e157 : Cond.static MJ3_checkIndex_8e157.1 ∈ gg_W := gg_at 504 (by decide +kernel)
theorem kX2_43 : sk_cl RX2 43 MJ7_fill_53178 2 false := cl_s aJ7_fill_53178 iniRJ7 dsJ7_fill_53178 (by decide) stJ7_fill_53178 (Or.inl (gg_at 118 (by decide +kernel)))
theorem kL_13 : sk_cl RL 13 MX7_boat 1 true := cl_v aX7_boat iniRX7 dsX7_boat (by decide) viX7_boat vsX7_boat (Or.inl (gg_at 327 (by decide +kernel)))
theorem kX7_44 : sk_cl RX7 44 MX7_isKindWithNumber 1 false := cl_s aX7_isKindWithNumber iniRX7 dsX7_isKindWithNumber (by decide) stX7_isKindWithNumber (Or.inl (gg_at 331 (by decide +kernel)))
theorem kX7_49 : sk_cl RX7 49 MX7_refuse 1 true := cl_v aX7_refuse iniRX7 dsX7_refuse (by decide) viX7_refuse vsX7_refuse (Or.inl (gg_at 335 (by decide +kernel)))
theorem kX7_62 : sk_cl RX7 62 MX0_turnInto 1 true := cl_v aX0_turnInto iniRX0 dsX0_turnInto (by decide) viX0_turnInto vsX0_turnInto (Or.inr ⟨"PromisedFish", nn_at 259 (by decide +kernel)⟩)
theorem kL_18 : sk_cl RL 18 MX7_boatIs 2 true := cl_v aX7_boatIs iniRX7 dsX7_boatIs (by decide) viX7_boatIs vsX7_boatIs (Or.inl (gg_at 345 (by decide +kernel)))
theorem kX7_71 : sk_cl RX7 71 MX7_isBoat 1 true := cl_v aX7_isBoat iniRX7 dsX7_isBoat (by decide) viX7_isBoat vsX7_isBoat (Or.inl (gg_at 349 (by decide +kernel)))
theorem kX7_74 : sk_cl RX7 74 MX7_isWithin 2 false := cl_s aX7_isWithin iniRX7 dsX7_isWithin (by decide) stX7_isWithin (Or.inl (gg_at 353 (by decide +kernel)))
theorem kX7_87 : sk_cl RX7 87 MX0_eats 1 true := cl_v aX0_eats iniRX0 dsX0_eats (by decide) viX0_eats vsX0_eats (Or.inr ⟨"PromisedFish", nn_at 274 (by decide +kernel)⟩)
theorem kX7_96 : sk_cl RX7 96 MX2_landed 5 true := cl_v aX2_landed iniRX2 dsX2_landed (by decide) viX2_landed vsX2_landed (Or.inr ⟨"PromisedFish", nn_at 278 (by decide +kernel)⟩)
theorem kX2_88 : sk_cl RX2 88 MX0_hauls 3 true := cl_v aX0_hauls iniRX0 dsX0_hauls (by decide) viX0_hauls vsX0_hauls (Or.inr ⟨"PromisedFish", nn_at 282 (by decide +kernel)⟩)
theorem kX2_92 : sk_cl RX2 92 MX1_gives 3 true := cl_v aX1_gives iniRX1 dsX1_gives (by decide) viX1_gives vsX1_gives (Or.inr ⟨"PromisedFish", nn_at 286 (by decide +kernel)⟩)
theorem kX1_24 : sk_cl RX1 24 MX7_held 3 false := cl_s aX7_held iniRX7 dsX7_held (by decide) stX7_held (Or.inr ⟨"PromisedFish", nn_at 290 (by decide +kernel)⟩)
theorem blX7_259 : Cond.methodLink RX7 259 Lib.Math.min.name ∈ gg_W := gg_at 375 (by decide +kernel)
theorem blX7_287 : Cond.methodLink RX7 287 Lib.Math.max.name ∈ gg_W := gg_at 378 (by decide +kernel)
theorem kX1_48 : sk_cl RX1 48 MX1_joined 3 false := cl_s aX1_joined iniRX1 dsX1_joined (by decide) stX1_joined (Or.inl (gg_at 381 (by decide +kernel)))
theorem kL_23 : sk_cl RL 23 MX7_become 2 true := cl_v aX7_become iniRX7 dsX7_become (by decide) viX7_become vsX7_become (Or.inl (gg_at 384 (by decide +kernel)))
theorem kL_27 : sk_cl RL 27 MX7_as 2 true := cl_v aX7_as iniRX7 dsX7_as (by decide) viX7_as vsX7_as (Or.inl (gg_at 388 (by decide +kernel)))
theorem kX7_100 : sk_cl RX7 100 MX0_isOneOf 1 true := cl_v aX0_isOneOf iniRX0 dsX0_isOneOf (by decide) viX0_isOneOf vsX0_isOneOf (Or.inr ⟨"PromisedFish", nn_at 310 (by decide +kernel)⟩)
theorem kL_31 : sk_cl RL 31 MX7_lose 2 true := cl_v aX7_lose iniRX7 dsX7_lose (by decide) viX7_lose vsX7_lose (Or.inl (gg_at 399 (by decide +kernel)))
theorem kL_35 : sk_cl RL 35 MX7_rises 1 true := cl_v aX7_rises iniRX7 dsX7_rises (by decide) viX7_rises vsX7_rises (Or.inl (gg_at 403 (by decide +kernel)))
theorem kL_39 : sk_cl RL 39 MX7_price 2 true := cl_v aX7_price iniRX7 dsX7_price (by decide) viX7_price vsX7_price (Or.inl (gg_at 407 (by decide +kernel)))
theorem kX7_104 : sk_cl RX7 104 MX7_isFish 1 false := cl_s aX7_isFish iniRX7 dsX7_isFish (by decide) stX7_isFish (Or.inl (gg_at 411 (by decide +kernel)))
theorem kL_43 : sk_cl RL 43 MX7_sell 2 true := cl_v aX7_sell iniRX7 dsX7_sell (by decide) viX7_sell vsX7_sell (Or.inl (gg_at 414 (by decide +kernel)))
theorem kX7_111 : sk_cl RX7 111 MX2_promise 2 true := cl_v aX2_promise iniRX2 dsX2_promise (by decide) viX2_promise vsX2_promise (Or.inr ⟨"PromisedFish", nn_at 337 (by decide +kernel)⟩)
theorem kX2_103 : sk_cl RX2 103 MX2_coins 2 true := cl_v aX2_coins iniRX2 dsX2_coins (by decide) viX2_coins vsX2_coins (Or.inl (gg_at 423 (by decide +kernel)))
theorem blX2_108 : Cond.methodLink RX2 108 Lib.Math.min.name ∈ gg_W := gg_at 428 (by decide +kernel)
theorem kL_49 : sk_cl RL 49 MX7_feed 2 true := cl_v aX7_feed iniRX7 dsX7_feed (by decide) viX7_feed vsX7_feed (Or.inl (gg_at 429 (by decide +kernel)))
theorem kL_54 : sk_cl RL 54 MX7_text 1 true := cl_v aX7_text iniRX7 dsX7_text (by decide) viX7_text vsX7_text (Or.inl (gg_at 433 (by decide +kernel)))
theorem kX7_121 : sk_cl RX7 121 MX7_isUse 1 false := cl_s aX7_isUse iniRX7 dsX7_isUse (by decide) stX7_isUse (Or.inl (gg_at 437 (by decide +kernel)))
theorem kX7_124 : sk_cl RX7 124 MX3_faultIn 3 true := cl_v aX3_faultIn iniRX3 dsX3_faultIn (by decide) viX3_faultIn vsX3_faultIn (Or.inr ⟨"PromisedFish", nn_at 358 (by decide +kernel)⟩)
theorem blX3_18 : Cond.methodLink RX3 18 Lib.Math.min.name ∈ gg_W := gg_at 444 (by decide +kernel)
theorem kX3_24 : sk_cl RX3 24 MX7_held 3 false := cl_s aX7_held iniRX7 dsX7_held (by decide) stX7_held (Or.inr ⟨"PromisedFish", nn_at 363 (by decide +kernel)⟩)
theorem blX3_32 : Cond.methodLink RX3 32 arraycopyName ∈ gg_W := gg_at 446 (by decide +kernel)
theorem kX3_47 : sk_cl RX3 47 MX3_readLevel 2 true := cl_v aX3_readLevel iniRX3 dsX3_readLevel (by decide) viX3_readLevel vsX3_readLevel (Or.inl (gg_at 449 (by decide +kernel)))
theorem kX3_51 : sk_cl RX3 51 MX3_readItem 1 true := cl_v aX3_readItem iniRX3 dsX3_readItem (by decide) viX3_readItem vsX3_readItem (Or.inl (gg_at 453 (by decide +kernel)))
theorem kX3_55 : sk_cl RX3 55 MX3_next 0 true := cl_v aX3_next iniRX3 dsX3_next (by decide) viX3_next vsX3_next (Or.inl (gg_at 457 (by decide +kernel)))
theorem kX3_67 : sk_cl RX3 67 MX3_isDigit 1 false := cl_s aX3_isDigit iniRX3 dsX3_isDigit (by decide) stX3_isDigit (Or.inl (gg_at 461 (by decide +kernel)))
theorem kX3_70 : sk_cl RX3 70 MX3_readNumber 0 true := cl_v aX3_readNumber iniRX3 dsX3_readNumber (by decide) viX3_readNumber vsX3_readNumber (Or.inl (gg_at 464 (by decide +kernel)))
theorem kX3_63 : sk_cl RX3 63 MX3_write 1 true := cl_v aX3_write iniRX3 dsX3_write (by decide) viX3_write vsX3_write (Or.inl (gg_at 468 (by decide +kernel)))
theorem kX3_73 : sk_cl RX3 73 MX3_nameOf 1 true := cl_v aX3_nameOf iniRX3 dsX3_nameOf (by decide) viX3_nameOf vsX3_nameOf (Or.inl (gg_at 472 (by decide +kernel)))
theorem kX3_84 : sk_cl RX3 84 MJ0_length_8abf5 0 true := cl_v aJ0_length_8abf5 iniRJ0 dsJ0_length_8abf5 (by decide) viJ0_length_8abf5 vsJ0_length_8abf5 (Or.inl (gg_at 477 (by decide +kernel)))
theorem kJ0_335 : sk_cl RJ0 335 MJ0_coder_7d493 0 true := cl_v aJ0_coder_7d493 iniRJ0 dsJ0_coder_7d493 (by decide) viJ0_coder_7d493 vsJ0_coder_7d493 (Or.inl (gg_at 481 (by decide +kernel)))
theorem kX3_89 : sk_cl RX3 89 MJ0_charAt_5068e 1 true := cl_v aJ0_charAt_5068e iniRJ0 dsJ0_charAt_5068e (by decide) viJ0_charAt_5068e vsJ0_charAt_5068e (Or.inl (gg_at 487 (by decide +kernel)))
theorem kJ0_492 : sk_cl RJ0 492 MJ0_isLatin1_aae02 0 true := cl_v aJ0_isLatin1_aae02 iniRJ0 dsJ0_isLatin1_aae02 (by decide) viJ0_isLatin1_aae02 vsJ0_isLatin1_aae02 (Or.inl (gg_at 491 (by decide +kernel)))
theorem kJ0_495 : sk_cl RJ0 495 MJ1_charAt_3b067 2 false := cl_s aJ1_charAt_3b067 iniRJ1 dsJ1_charAt_3b067 (by decide) stJ1_charAt_3b067 (Or.inl (gg_at 495 (by decide +kernel)))
theorem kJ1_9 : sk_cl RJ1 9 MJ0_checkIndex_df160 2 false := cl_s aJ0_checkIndex_df160 iniRJ0 dsJ0_checkIndex_df160 (by decide) stJ0_checkIndex_df160 (Or.inl (gg_at 498 (by decide +kernel)))
theorem kJ0_1059 : sk_cl RJ0 1059 MJ3_checkIndex_8e157 3 false := cl_s aJ3_checkIndex_8e157 iniRJ3 dsJ3_checkIndex_8e157 (by decide) stJ3_checkIndex_8e157 (Or.inl (gg_at 503 (by decide +kernel)))
theorem kJ0_498 : sk_cl RJ0 498 MJ2_charAt_3b067 2 false := cl_s aJ2_charAt_3b067 iniRJ2 dsJ2_charAt_3b067 (by decide) stJ2_charAt_3b067 (Or.inl (gg_at 506 (by decide +kernel)))
theorem kJ2_67 : sk_cl RJ2 67 MJ2_checkIndex_2214a 2 false := cl_s aJ2_checkIndex_2214a iniRJ2 dsJ2_checkIndex_2214a (by decide) stJ2_checkIndex_2214a (Or.inl (gg_at 509 (by decide +kernel)))
theorem kJ2_48 : sk_cl RJ2 48 MJ2_length_9d52b 1 false := cl_s aJ2_length_9d52b iniRJ2 dsJ2_length_9d52b (by decide) stJ2_length_9d52b (Or.inl (gg_at 512 (by decide +kernel)))
theorem kJ2_414 : sk_cl RJ2 414 MJ0_checkIndex_df160 2 false := cl_s aJ0_checkIndex_df160 iniRJ0 dsJ0_checkIndex_df160 (by decide) stJ0_checkIndex_df160 (Or.inl (gg_at 515 (by decide +kernel)))
theorem kJ2_71 : sk_cl RJ2 71 MJ2_getChar_3b067 2 false := cl_s aJ2_getChar_3b067 iniRJ2 dsJ2_getChar_3b067 (by decide) stJ2_getChar_3b067 (Or.inl (gg_at 516 (by decide +kernel)))
theorem kX3_76 : sk_cl RX3 76 MX3_readDenied 1 true := cl_v aX3_readDenied iniRX3 dsX3_readDenied (by decide) viX3_readDenied vsX3_readDenied (Or.inl (gg_at 525 (by decide +kernel)))
theorem kX3_79 : sk_cl RX3 79 MX3_readBracketed 1 true := cl_v aX3_readBracketed iniRX3 dsX3_readBracketed (by decide) viX3_readBracketed vsX3_readBracketed (Or.inl (gg_at 529 (by decide +kernel)))
theorem kX3_59 : sk_cl RX3 59 MX3_levelOf 1 false := cl_s aX3_levelOf iniRX3 dsX3_levelOf (by decide) stX3_levelOf (Or.inl (gg_at 533 (by decide +kernel)))
theorem kX7_138 : sk_cl RX7 138 MX1_take 2 true := cl_v aX1_take iniRX1 dsX1_take (by decide) viX1_take vsX1_take (Or.inr ⟨"PromisedFish", nn_at 454 (by decide +kernel)⟩)
theorem blX1_18 : Cond.methodLink RX1 18 Lib.Math.min.name ∈ gg_W := gg_at 540 (by decide +kernel)
theorem blX1_32 : Cond.methodLink RX1 32 arraycopyName ∈ gg_W := gg_at 541 (by decide +kernel)
theorem kL_58 : sk_cl RL 58 MX7_untell 1 true := cl_v aX7_untell iniRX7 dsX7_untell (by decide) viX7_untell vsX7_untell (Or.inl (gg_at 543 (by decide +kernel)))
theorem kL_62 : sk_cl RL 62 MX7_law 4 true := cl_v aX7_law iniRX7 dsX7_law (by decide) viX7_law vsX7_law (Or.inl (gg_at 547 (by decide +kernel)))
theorem kX7_148 : sk_cl RX7 148 MX1_gives 3 true := cl_v aX1_gives iniRX1 dsX1_gives (by decide) viX1_gives vsX1_gives (Or.inr ⟨"PromisedFish", nn_at 469 (by decide +kernel)⟩)
theorem kL_67 : sk_cl RL 67 MX7_tally 0 true := cl_v aX7_tally iniRX7 dsX7_tally (by decide) viX7_tally vsX7_tally (Or.inl (gg_at 552 (by decide +kernel)))
theorem kX7_152 : sk_cl RX7 152 MX2_settle 0 true := cl_v aX2_settle iniRX2 dsX2_settle (by decide) viX2_settle vsX2_settle (Or.inr ⟨"PromisedFish", nn_at 474 (by decide +kernel)⟩)
theorem kX2_99 : sk_cl RX2 99 MX2_caught 4 true := cl_v aX2_caught iniRX2 dsX2_caught (by decide) viX2_caught vsX2_caught (Or.inl (gg_at 560 (by decide +kernel)))
theorem kX2_95 : sk_cl RX2 95 MX2_landed 5 true := cl_v aX2_landed iniRX2 dsX2_landed (by decide) viX2_landed vsX2_landed (Or.inl (gg_at 564 (by decide +kernel)))
theorem blX2_113 : Cond.methodLink RX2 113 Lib.Math.max.name ∈ gg_W := gg_at 565 (by decide +kernel)
theorem kX2_117 : sk_cl RX2 117 MX0_eats 1 true := cl_v aX0_eats iniRX0 dsX0_eats (by decide) viX0_eats vsX0_eats (Or.inr ⟨"PromisedFish", nn_at 485 (by decide +kernel)⟩)
theorem kX2_121 : sk_cl RX2 121 MX7_held 3 false := cl_s aX7_held iniRX7 dsX7_held (by decide) stX7_held (Or.inr ⟨"PromisedFish", nn_at 486 (by decide +kernel)⟩)
theorem kL_72 : sk_cl RL 72 MX7_loose 1 true := cl_v aX7_loose iniRX7 dsX7_loose (by decide) viX7_loose vsX7_loose (Or.inl (gg_at 569 (by decide +kernel)))
theorem kX7_156 : sk_cl RX7 156 MX2_dayByDraws 0 true := cl_v aX2_dayByDraws iniRX2 dsX2_dayByDraws (by decide) viX2_dayByDraws vsX2_dayByDraws (Or.inr ⟨"PromisedFish", nn_at 491 (by decide +kernel)⟩)
theorem kX2_124 : sk_cl RX2 124 MX2_draw 0 true := cl_v aX2_draw iniRX2 dsX2_draw (by decide) viX2_draw vsX2_draw (Or.inl (gg_at 577 (by decide +kernel)))
theorem kX2_128 : sk_cl RX2 128 MX2_promise 2 true := cl_v aX2_promise iniRX2 dsX2_promise (by decide) viX2_promise vsX2_promise (Or.inl (gg_at 582 (by decide +kernel)))
theorem kX2_131 : sk_cl RX2 131 MX2_settle 0 true := cl_v aX2_settle iniRX2 dsX2_settle (by decide) viX2_settle vsX2_settle (Or.inl (gg_at 583 (by decide +kernel)))
theorem kL_76 : sk_cl RL 76 MX7_seed 1 true := cl_v aX7_seed iniRX7 dsX7_seed (by decide) viX7_seed vsX7_seed (Or.inl (gg_at 584 (by decide +kernel)))
theorem kL_80 : sk_cl RL 80 MX7_catches 1 true := cl_v aX7_catches iniRX7 dsX7_catches (by decide) viX7_catches vsX7_catches (Or.inl (gg_at 588 (by decide +kernel)))
theorem kX7_162 : sk_cl RX7 162 MX2_caughtNow 1 true := cl_v aX2_caughtNow iniRX2 dsX2_caughtNow (by decide) viX2_caughtNow vsX2_caughtNow (Or.inr ⟨"PromisedFish", nn_at 510 (by decide +kernel)⟩)
theorem kL_84 : sk_cl RL 84 MX7_safe 1 true := cl_v aX7_safe iniRX7 dsX7_safe (by decide) viX7_safe vsX7_safe (Or.inl (gg_at 596 (by decide +kernel)))
theorem kX7_165 : sk_cl RX7 165 MX5_safest 2 false := cl_s aX5_safest iniRX5 dsX5_safest (by decide) stX5_safest (Or.inr ⟨"PromisedFish", nn_at 518 (by decide +kernel)⟩)
theorem kX5_9 : sk_cl RX5 9 MX5_isSafe 3 false := cl_s aX5_isSafe iniRX5 dsX5_isSafe (by decide) stX5_isSafe (Or.inl (gg_at 603 (by decide +kernel)))
theorem kX5_21 : sk_cl RX5 21 MX2_caught 4 true := cl_v aX2_caught iniRX2 dsX2_caught (by decide) viX2_caught vsX2_caught (Or.inr ⟨"PromisedFish", nn_at 524 (by decide +kernel)⟩)
theorem kL_88 : sk_cl RL 88 MX7_best 2 true := cl_v aX7_best iniRX7 dsX7_best (by decide) viX7_best vsX7_best (Or.inl (gg_at 607 (by decide +kernel)))
theorem kX7_171 : sk_cl RX7 171 MX5_bestToSell 2 false := cl_s aX5_bestToSell iniRX5 dsX5_bestToSell (by decide) stX5_bestToSell (Or.inr ⟨"PromisedFish", nn_at 529 (by decide +kernel)⟩)
theorem kX5_25 : sk_cl RX5 25 MX5_gain 3 false := cl_s aX5_gain iniRX5 dsX5_gain (by decide) stX5_gain (Or.inl (gg_at 614 (by decide +kernel)))
theorem kX5_29 : sk_cl RX5 29 MX2_coins 2 true := cl_v aX2_coins iniRX2 dsX2_coins (by decide) viX2_coins vsX2_coins (Or.inr ⟨"PromisedFish", nn_at 535 (by decide +kernel)⟩)
theorem blX5_33 : Cond.methodLink RX5 33 Lib.Math.max.name ∈ gg_W := gg_at 618 (by decide +kernel)
theorem kX7_174 : sk_cl RX7 174 MX5_gain 3 false := cl_s aX5_gain iniRX5 dsX5_gain (by decide) stX5_gain (Or.inr ⟨"PromisedFish", nn_at 537 (by decide +kernel)⟩)
theorem kL_92 : sk_cl RL 92 MX7_agrees 2 true := cl_v aX7_agrees iniRX7 dsX7_agrees (by decide) viX7_agrees vsX7_agrees (Or.inl (gg_at 620 (by decide +kernel)))
theorem kX7_178 : sk_cl RX7 178 MX5_howManyAgree 2 false := cl_s aX5_howManyAgree iniRX5 dsX5_howManyAgree (by decide) stX5_howManyAgree (Or.inr ⟨"PromisedFish", nn_at 542 (by decide +kernel)⟩)
theorem kX5_45 : sk_cl RX5 45 MX5_agreesWithItself 3 false := cl_s aX5_agreesWithItself iniRX5 dsX5_agreesWithItself (by decide) stX5_agreesWithItself (Or.inl (gg_at 627 (by decide +kernel)))
theorem kX7_181 : sk_cl RX7 181 MX5_leastThatAgrees 2 false := cl_s aX5_leastThatAgrees iniRX5 dsX5_leastThatAgrees (by decide) stX5_leastThatAgrees (Or.inr ⟨"PromisedFish", nn_at 548 (by decide +kernel)⟩)
theorem kL_96 : sk_cl RL 96 MX7_needs 1 true := cl_v aX7_needs iniRX7 dsX7_needs (by decide) viX7_needs vsX7_needs (Or.inl (gg_at 634 (by decide +kernel)))
theorem kX7_185 : sk_cl RX7 185 MX5_fewestBoats 1 false := cl_s aX5_fewestBoats iniRX5 dsX5_fewestBoats (by decide) stX5_fewestBoats (Or.inr ⟨"PromisedFish", nn_at 556 (by decide +kernel)⟩)
theorem kX5_51 : sk_cl RX5 51 MJ6_bitCount_0f7a4 1 false := cl_s aJ6_bitCount_0f7a4 iniRJ6 dsJ6_bitCount_0f7a4 (by decide) stJ6_bitCount_0f7a4 (Or.inl (gg_at 641 (by decide +kernel)))
theorem kX5_57 : sk_cl RX5 57 MX5_isEnough 2 false := cl_s aX5_isEnough iniRX5 dsX5_isEnough (by decide) stX5_isEnough (Or.inl (gg_at 647 (by decide +kernel)))
theorem kX5_64 : sk_cl RX5 64 MX2_landed 5 true := cl_v aX2_landed iniRX2 dsX2_landed (by decide) viX2_landed vsX2_landed (Or.inr ⟨"PromisedFish", nn_at 568 (by decide +kernel)⟩)
theorem kX7_189 : sk_cl RX7 189 MJ6_bitCount_0f7a4 1 false := cl_s aJ6_bitCount_0f7a4 iniRJ6 dsJ6_bitCount_0f7a4 (by decide) stJ6_bitCount_0f7a4 (Or.inl (gg_at 651 (by decide +kernel)))
theorem kL_100 : sk_cl RL 100 MX7_soonest 2 true := cl_v aX7_soonest iniRX7 dsX7_soonest (by decide) viX7_soonest vsX7_soonest (Or.inl (gg_at 652 (by decide +kernel)))
theorem kX7_194 : sk_cl RX7 194 MX5_daysUntil 3 false := cl_s aX5_daysUntil iniRX5 dsX5_daysUntil (by decide) stX5_daysUntil (Or.inr ⟨"PromisedFish", nn_at 574 (by decide +kernel)⟩)
theorem kL_104 : sk_cl RL 104 MX7_odds 3 true := cl_v aX7_odds iniRX7 dsX7_odds (by decide) viX7_odds vsX7_odds (Or.inl (gg_at 659 (by decide +kernel)))
theorem kX7_197 : sk_cl RX7 197 MX5_seasThatDo 3 false := cl_s aX5_seasThatDo iniRX5 dsX5_seasThatDo (by decide) stX5_seasThatDo (Or.inr ⟨"PromisedFish", nn_at 581 (by decide +kernel)⟩)
theorem kX7_200 : sk_cl RX7 200 MX5_partOfTenths 2 false := cl_s aX5_partOfTenths iniRX5 dsX5_partOfTenths (by decide) stX5_partOfTenths (Or.inr ⟨"PromisedFish", nn_at 584 (by decide +kernel)⟩)
theorem kL_109 : sk_cl RL 109 MX7_mean 2 true := cl_v aX7_mean iniRX7 dsX7_mean (by decide) viX7_mean vsX7_mean (Or.inl (gg_at 669 (by decide +kernel)))
theorem kX7_203 : sk_cl RX7 203 MX5_caughtInAllSeas 2 false := cl_s aX5_caughtInAllSeas iniRX5 dsX5_caughtInAllSeas (by decide) stX5_caughtInAllSeas (Or.inr ⟨"PromisedFish", nn_at 591 (by decide +kernel)⟩)
theorem kL_113 : sk_cl RL 113 MX7_fits 2 true := cl_v aX7_fits iniRX7 dsX7_fits (by decide) viX7_fits vsX7_fits (Or.inl (gg_at 676 (by decide +kernel)))
theorem kX7_206 : sk_cl RX7 206 MX7_isSheet 1 false := cl_s aX7_isSheet iniRX7 dsX7_isSheet (by decide) stX7_isSheet (Or.inl (gg_at 680 (by decide +kernel)))
theorem kX7_209 : sk_cl RX7 209 MX4_isMissing 0 true := cl_v aX4_isMissing iniRX4 dsX4_isMissing (by decide) viX4_isMissing vsX4_isMissing (Or.inr ⟨"PromisedFish", nn_at 601 (by decide +kernel)⟩)
theorem kX7_213 : sk_cl RX7 213 MX5_seasThatFit 2 false := cl_s aX5_seasThatFit iniRX5 dsX5_seasThatFit (by decide) stX5_seasThatFit (Or.inr ⟨"PromisedFish", nn_at 605 (by decide +kernel)⟩)
theorem kX5_68 : sk_cl RX5 68 MX5_isSoBy 3 false := cl_s aX5_isSoBy iniRX5 dsX5_isSoBy (by decide) stX5_isSoBy (Or.inl (gg_at 690 (by decide +kernel)))
theorem kX7_217 : sk_cl RX7 217 MJ6_numberOfTrailingZeros_0f7a4 1 false := cl_s aJ6_numberOfTrailingZeros_0f7a4 iniRJ6 dsJ6_numberOfTrailingZeros_0f7a4 (by decide) stJ6_numberOfTrailingZeros_0f7a4 (Or.inl (gg_at 693 (by decide +kernel)))
theorem kL_117 : sk_cl RL 117 MX7_voice 3 true := cl_v aX7_voice iniRX7 dsX7_voice (by decide) viX7_voice vsX7_voice (Or.inl (gg_at 697 (by decide +kernel)))
theorem kX7_220 : sk_cl RX7 220 MX6_hear 4 true := cl_v aX6_hear iniRX6 dsX6_hear (by decide) viX6_hear vsX6_hear (Or.inr ⟨"PromisedFish", nn_at 619 (by decide +kernel)⟩)
theorem kX6_36 : sk_cl RX6 36 MX6_speak 4 true := cl_v aX6_speak iniRX6 dsX6_speak (by decide) viX6_speak vsX6_speak (Or.inl (gg_at 705 (by decide +kernel)))
theorem kX6_46 : sk_cl RX6 46 MX6_say 4 true := cl_v aX6_say iniRX6 dsX6_say (by decide) viX6_say vsX6_say (Or.inl (gg_at 712 (by decide +kernel)))
theorem kX6_49 : sk_cl RX6 49 MX6_part 1 true := cl_v aX6_part iniRX6 dsX6_part (by decide) viX6_part vsX6_part (Or.inl (gg_at 716 (by decide +kernel)))
theorem kL_121 : sk_cl RL 121 MX7_body 1 true := cl_v aX7_body iniRX7 dsX7_body (by decide) viX7_body vsX7_body (Or.inl (gg_at 721 (by decide +kernel)))
theorem kL_125 : sk_cl RL 125 MX7_sheet 3 true := cl_v aX7_sheet iniRX7 dsX7_sheet (by decide) viX7_sheet vsX7_sheet (Or.inl (gg_at 725 (by decide +kernel)))
theorem kX7_234 : sk_cl RX7 234 MX4_lay 2 true := cl_v aX4_lay iniRX4 dsX4_lay (by decide) viX4_lay vsX4_lay (Or.inr ⟨"PromisedFish", nn_at 647 (by decide +kernel)⟩)
theorem kX4_22 : sk_cl RX4 22 MJ7_fill_53178 2 false := cl_s aJ7_fill_53178 iniRJ7 dsJ7_fill_53178 (by decide) stJ7_fill_53178 (Or.inl (gg_at 733 (by decide +kernel)))
theorem kL_129 : sk_cl RL 129 MX7_put 3 true := cl_v aX7_put iniRX7 dsX7_put (by decide) viX7_put vsX7_put (Or.inl (gg_at 734 (by decide +kernel)))
theorem kX7_244 : sk_cl RX7 244 MX4_lowestBits 1 true := cl_v aX4_lowestBits iniRX4 dsX4_lowestBits (by decide) viX4_lowestBits vsX4_lowestBits (Or.inr ⟨"PromisedFish", nn_at 656 (by decide +kernel)⟩)
theorem kL_133 : sk_cl RL 133 MX7_move 5 true := cl_v aX7_move iniRX7 dsX7_move (by decide) viX7_move vsX7_move (Or.inl (gg_at 743 (by decide +kernel)))
theorem kX7_250 : sk_cl RX7 250 MX4_has 2 true := cl_v aX4_has iniRX4 dsX4_has (by decide) viX4_has vsX4_has (Or.inr ⟨"PromisedFish", nn_at 665 (by decide +kernel)⟩)
theorem blX7_253 : Cond.methodLink RX7 253 arraycopyName ∈ gg_W := gg_at 751 (by decide +kernel)
theorem kL_138 : sk_cl RL 138 MX7_prices 1 true := cl_v aX7_prices iniRX7 dsX7_prices (by decide) viX7_prices vsX7_prices (Or.inl (gg_at 752 (by decide +kernel)))
theorem kL_142 : sk_cl RL 142 MX7_judge 1 true := cl_v aX7_judge iniRX7 dsX7_judge (by decide) viX7_judge vsX7_judge (Or.inl (gg_at 756 (by decide +kernel)))
theorem kL_146 : sk_cl RL 146 MX7_image 0 true := cl_v aX7_image iniRX7 dsX7_image (by decide) viX7_image vsX7_image (Or.inl (gg_at 760 (by decide +kernel)))
theorem kX7_264 : sk_cl RX7 264 MX2_takeFrom 1 true := cl_v aX2_takeFrom iniRX2 dsX2_takeFrom (by decide) viX2_takeFrom vsX2_takeFrom (Or.inr ⟨"PromisedFish", nn_at 682 (by decide +kernel)⟩)
theorem blX2_51 : Cond.methodLink RX2 51 arraycopyName ∈ gg_W := gg_at 768 (by decide +kernel)
theorem kX2_57 : sk_cl RX2 57 MX0_takeFrom 1 true := cl_v aX0_takeFrom iniRX0 dsX0_takeFrom (by decide) viX0_takeFrom vsX0_takeFrom (Or.inr ⟨"PromisedFish", nn_at 687 (by decide +kernel)⟩)
theorem kX2_61 : sk_cl RX2 61 MX1_takeFrom 1 true := cl_v aX1_takeFrom iniRX1 dsX1_takeFrom (by decide) viX1_takeFrom vsX1_takeFrom (Or.inr ⟨"PromisedFish", nn_at 691 (by decide +kernel)⟩)
theorem kX1_42 : sk_cl RX1 42 MX1_take 2 true := cl_v aX1_take iniRX1 dsX1_take (by decide) viX1_take vsX1_take (Or.inl (gg_at 777 (by decide +kernel)))
theorem kL_150 : sk_cl RL 150 MX7_restore 0 true := cl_v aX7_restore iniRX7 dsX7_restore (by decide) viX7_restore vsX7_restore (Or.inl (gg_at 778 (by decide +kernel)))
theorem kL_154 : sk_cl RL 154 MX7_tell 1 true := cl_v aX7_tell iniRX7 dsX7_tell (by decide) viX7_tell vsX7_tell (Or.inl (gg_at 782 (by decide +kernel)))
theorem kL_158 : sk_cl RL 158 MX7_check 0 true := cl_v aX7_check iniRX7 dsX7_check (by decide) viX7_check vsX7_check (Or.inl (gg_at 786 (by decide +kernel)))
theorem kL_162 : sk_cl RL 162 MX7_count 1 true := cl_v aX7_count iniRX7 dsX7_count (by decide) viX7_count vsX7_count (Or.inl (gg_at 790 (by decide +kernel)))
theorem kL_166 : sk_cl RL 166 MX7_told 1 true := cl_v aX7_told iniRX7 dsX7_told (by decide) viX7_told vsX7_told (Or.inl (gg_at 794 (by decide +kernel)))
theorem kL_17 : sk_cl RL 17 MX8_boat 1 true := cl_v aX8_boat iniRX8 dsX8_boat (by decide) viX8_boat vsX8_boat (Or.inl (gg_at 865 (by decide +kernel)))
theorem kX8_69 : sk_cl RX8 69 MX8_isKm 1 false := cl_s aX8_isKm iniRX8 dsX8_isKm (by decide) stX8_isKm (Or.inl (gg_at 869 (by decide +kernel)))
theorem kX8_47 : sk_cl RX8 47 MX8_in 3 false := cl_s aX8_in iniRX8 dsX8_in (by decide) stX8_in (Or.inl (gg_at 872 (by decide +kernel)))
theorem kX8_74 : sk_cl RX8 74 MX8_error 1 true := cl_v aX8_error iniRX8 dsX8_error (by decide) viX8_error vsX8_error (Or.inl (gg_at 876 (by decide +kernel)))
theorem kL_22 : sk_cl RL 22 MX8_boatIs 2 true := cl_v aX8_boatIs iniRX8 dsX8_boatIs (by decide) viX8_boatIs vsX8_boatIs (Or.inl (gg_at 882 (by decide +kernel)))
theorem kX8_79 : sk_cl RX8 79 MX8_isBoat 1 true := cl_v aX8_isBoat iniRX8 dsX8_isBoat (by decide) viX8_isBoat vsX8_isBoat (Or.inl (gg_at 886 (by decide +kernel)))
theorem kX8_51 : sk_cl RX8 51 MX8_of 2 true := cl_v aX8_of iniRX8 dsX8_of (by decide) viX8_of vsX8_of (Or.inl (gg_at 890 (by decide +kernel)))
theorem kX8_82 : sk_cl RX8 82 MX8_eatsOf 1 true := cl_v aX8_eatsOf iniRX8 dsX8_eatsOf (by decide) viX8_eatsOf vsX8_eatsOf (Or.inl (gg_at 894 (by decide +kernel)))
theorem kX8_62 : sk_cl RX8 62 MX8_landsOf 3 true := cl_v aX8_landsOf iniRX8 dsX8_landsOf (by decide) viX8_landsOf vsX8_landsOf (Or.inl (gg_at 898 (by decide +kernel)))
theorem kX8_55 : sk_cl RX8 55 MX8_haulsOf 2 true := cl_v aX8_haulsOf iniRX8 dsX8_haulsOf (by decide) viX8_haulsOf vsX8_haulsOf (Or.inl (gg_at 902 (by decide +kernel)))
theorem kX8_58 : sk_cl RX8 58 MX8_gives 4 true := cl_v aX8_gives iniRX8 dsX8_gives (by decide) viX8_gives vsX8_gives (Or.inl (gg_at 906 (by decide +kernel)))
theorem kX8_162 : sk_cl RX8 162 MX8_works 1 true := cl_v aX8_works iniRX8 dsX8_works (by decide) viX8_works vsX8_works (Or.inl (gg_at 910 (by decide +kernel)))
theorem kX8_159 : sk_cl RX8 159 MX8_twoOf 3 false := cl_s aX8_twoOf iniRX8 dsX8_twoOf (by decide) stX8_twoOf (Or.inl (gg_at 914 (by decide +kernel)))
theorem kX8_97 : sk_cl RX8 97 MX8_held 3 false := cl_s aX8_held iniRX8 dsX8_held (by decide) stX8_held (Or.inl (gg_at 917 (by decide +kernel)))
theorem kL_26 : sk_cl RL 26 MX8_become 2 true := cl_v aX8_become iniRX8 dsX8_become (by decide) viX8_become vsX8_become (Or.inl (gg_at 920 (by decide +kernel)))
theorem kX8_85 : sk_cl RX8 85 MX8_becomes 2 true := cl_v aX8_becomes iniRX8 dsX8_becomes (by decide) viX8_becomes vsX8_becomes (Or.inl (gg_at 924 (by decide +kernel)))
theorem kL_30 : sk_cl RL 30 MX8_as 2 true := cl_v aX8_as iniRX8 dsX8_as (by decide) viX8_as vsX8_as (Or.inl (gg_at 928 (by decide +kernel)))
theorem kL_34 : sk_cl RL 34 MX8_lose 2 true := cl_v aX8_lose iniRX8 dsX8_lose (by decide) viX8_lose vsX8_lose (Or.inl (gg_at 933 (by decide +kernel)))
theorem kL_38 : sk_cl RL 38 MX8_rises 1 true := cl_v aX8_rises iniRX8 dsX8_rises (by decide) viX8_rises vsX8_rises (Or.inl (gg_at 937 (by decide +kernel)))
theorem kL_42 : sk_cl RL 42 MX8_price 2 true := cl_v aX8_price iniRX8 dsX8_price (by decide) viX8_price vsX8_price (Or.inl (gg_at 941 (by decide +kernel)))
theorem kX8_89 : sk_cl RX8 89 MX8_isFish 1 false := cl_s aX8_isFish iniRX8 dsX8_isFish (by decide) stX8_isFish (Or.inl (gg_at 945 (by decide +kernel)))
theorem kL_46 : sk_cl RL 46 MX8_sell 2 true := cl_v aX8_sell iniRX8 dsX8_sell (by decide) viX8_sell vsX8_sell (Or.inl (gg_at 948 (by decide +kernel)))
theorem kX8_101 : sk_cl RX8 101 MX8_sells 2 true := cl_v aX8_sells iniRX8 dsX8_sells (by decide) viX8_sells vsX8_sells (Or.inl (gg_at 953 (by decide +kernel)))
theorem kX8_92 : sk_cl RX8 92 MX8_coinsFor 2 true := cl_v aX8_coinsFor iniRX8 dsX8_coinsFor (by decide) viX8_coinsFor vsX8_coinsFor (Or.inl (gg_at 957 (by decide +kernel)))
theorem kL_53 : sk_cl RL 53 MX8_feed 2 true := cl_v aX8_feed iniRX8 dsX8_feed (by decide) viX8_feed vsX8_feed (Or.inl (gg_at 963 (by decide +kernel)))
theorem kL_57 : sk_cl RL 57 MX8_text 1 true := cl_v aX8_text iniRX8 dsX8_text (by decide) viX8_text vsX8_text (Or.inl (gg_at 968 (by decide +kernel)))
theorem kX8_134 : sk_cl RX8 134 MX8_any 0 true := cl_v aX8_any iniRX8 dsX8_any (by decide) viX8_any vsX8_any (Or.inl (gg_at 972 (by decide +kernel)))
theorem kX8_156 : sk_cl RX8 156 MX8_all 0 true := cl_v aX8_all iniRX8 dsX8_all (by decide) viX8_all vsX8_all (Or.inl (gg_at 976 (by decide +kernel)))
theorem kX8_153 : sk_cl RX8 153 MX8_compares 0 true := cl_v aX8_compares iniRX8 dsX8_compares (by decide) viX8_compares vsX8_compares (Or.inl (gg_at 980 (by decide +kernel)))
theorem kX8_150 : sk_cl RX8 150 MX8_sum 0 true := cl_v aX8_sum iniRX8 dsX8_sum (by decide) viX8_sum vsX8_sum (Or.inl (gg_at 984 (by decide +kernel)))
theorem kX8_147 : sk_cl RX8 147 MX8_times 0 true := cl_v aX8_times iniRX8 dsX8_times (by decide) viX8_times vsX8_times (Or.inl (gg_at 988 (by decide +kernel)))
theorem kX8_131 : sk_cl RX8 131 MX8_one 0 true := cl_v aX8_one iniRX8 dsX8_one (by decide) viX8_one vsX8_one (Or.inl (gg_at 992 (by decide +kernel)))
theorem kX8_116 : sk_cl RX8 116 MX8_look 0 true := cl_v aX8_look iniRX8 dsX8_look (by decide) viX8_look vsX8_look (Or.inl (gg_at 996 (by decide +kernel)))
theorem kX8_137 : sk_cl RX8 137 MX8_nameOf 1 true := cl_v aX8_nameOf iniRX8 dsX8_nameOf (by decide) viX8_nameOf vsX8_nameOf (Or.inl (gg_at 1000 (by decide +kernel)))
theorem kX8_124 : sk_cl RX8 124 MX8_lays 2 true := cl_v aX8_lays iniRX8 dsX8_lays (by decide) viX8_lays vsX8_lays (Or.inl (gg_at 1004 (by decide +kernel)))
theorem kX8_140 : sk_cl RX8 140 MX8_opens 1 true := cl_v aX8_opens iniRX8 dsX8_opens (by decide) viX8_opens vsX8_opens (Or.inl (gg_at 1008 (by decide +kernel)))
theorem kX8_144 : sk_cl RX8 144 MX8_number 0 true := cl_v aX8_number iniRX8 dsX8_number (by decide) viX8_number vsX8_number (Or.inl (gg_at 1012 (by decide +kernel)))
theorem kL_61 : sk_cl RL 61 MX8_untell 1 true := cl_v aX8_untell iniRX8 dsX8_untell (by decide) viX8_untell vsX8_untell (Or.inl (gg_at 1016 (by decide +kernel)))
theorem kL_66 : sk_cl RL 66 MX8_law 4 true := cl_v aX8_law iniRX8 dsX8_law (by decide) viX8_law vsX8_law (Or.inl (gg_at 1020 (by decide +kernel)))
theorem kL_71 : sk_cl RL 71 MX8_tally 0 true := cl_v aX8_tally iniRX8 dsX8_tally (by decide) viX8_tally vsX8_tally (Or.inl (gg_at 1024 (by decide +kernel)))
theorem kX8_171 : sk_cl RX8 171 MX8_tallies 0 true := cl_v aX8_tallies iniRX8 dsX8_tallies (by decide) viX8_tallies vsX8_tallies (Or.inl (gg_at 1028 (by decide +kernel)))
theorem kX8_165 : sk_cl RX8 165 MX8_shortBy 2 true := cl_v aX8_shortBy iniRX8 dsX8_shortBy (by decide) viX8_shortBy vsX8_shortBy (Or.inl (gg_at 1032 (by decide +kernel)))
theorem kX8_66 : sk_cl RX8 66 MX8_catchBy 2 true := cl_v aX8_catchBy iniRX8 dsX8_catchBy (by decide) viX8_catchBy vsX8_catchBy (Or.inl (gg_at 1036 (by decide +kernel)))
theorem kX8_168 : sk_cl RX8 168 MX8_pays 1 true := cl_v aX8_pays iniRX8 dsX8_pays (by decide) viX8_pays vsX8_pays (Or.inl (gg_at 1040 (by decide +kernel)))
theorem kL_75 : sk_cl RL 75 MX8_loose 1 true := cl_v aX8_loose iniRX8 dsX8_loose (by decide) viX8_loose vsX8_loose (Or.inl (gg_at 1044 (by decide +kernel)))
theorem kX8_178 : sk_cl RX8 178 MX8_drawn 0 true := cl_v aX8_drawn iniRX8 dsX8_drawn (by decide) viX8_drawn vsX8_drawn (Or.inl (gg_at 1048 (by decide +kernel)))
theorem kX8_175 : sk_cl RX8 175 MX8_draw 0 true := cl_v aX8_draw iniRX8 dsX8_draw (by decide) viX8_draw vsX8_draw (Or.inl (gg_at 1052 (by decide +kernel)))
theorem kL_79 : sk_cl RL 79 MX8_seed 1 true := cl_v aX8_seed iniRX8 dsX8_seed (by decide) viX8_seed vsX8_seed (Or.inl (gg_at 1057 (by decide +kernel)))
theorem kL_83 : sk_cl RL 83 MX8_catches 1 true := cl_v aX8_catches iniRX8 dsX8_catches (by decide) viX8_catches vsX8_catches (Or.inl (gg_at 1061 (by decide +kernel)))
theorem kX8_181 : sk_cl RX8 181 MX8_catchOf 1 true := cl_v aX8_catchOf iniRX8 dsX8_catchOf (by decide) viX8_catchOf vsX8_catchOf (Or.inl (gg_at 1065 (by decide +kernel)))
theorem kL_87 : sk_cl RL 87 MX8_safe 1 true := cl_v aX8_safe iniRX8 dsX8_safe (by decide) viX8_safe vsX8_safe (Or.inl (gg_at 1069 (by decide +kernel)))
theorem kX8_184 : sk_cl RX8 184 MX8_enough 2 true := cl_v aX8_enough iniRX8 dsX8_enough (by decide) viX8_enough vsX8_enough (Or.inl (gg_at 1073 (by decide +kernel)))
theorem kL_91 : sk_cl RL 91 MX8_best 2 true := cl_v aX8_best iniRX8 dsX8_best (by decide) viX8_best vsX8_best (Or.inl (gg_at 1077 (by decide +kernel)))
theorem kX8_187 : sk_cl RX8 187 MX8_shortest 2 true := cl_v aX8_shortest iniRX8 dsX8_shortest (by decide) viX8_shortest vsX8_shortest (Or.inl (gg_at 1081 (by decide +kernel)))
theorem kL_95 : sk_cl RL 95 MX8_agrees 2 true := cl_v aX8_agrees iniRX8 dsX8_agrees (by decide) viX8_agrees vsX8_agrees (Or.inl (gg_at 1085 (by decide +kernel)))
theorem kL_99 : sk_cl RL 99 MX8_needs 1 true := cl_v aX8_needs iniRX8 dsX8_needs (by decide) viX8_needs vsX8_needs (Or.inl (gg_at 1090 (by decide +kernel)))
theorem kX8_191 : sk_cl RX8 191 MX8_bits 1 false := cl_s aX8_bits iniRX8 dsX8_bits (by decide) stX8_bits (Or.inl (gg_at 1094 (by decide +kernel)))
theorem kX8_194 : sk_cl RX8 194 MX8_isEnough 1 true := cl_v aX8_isEnough iniRX8 dsX8_isEnough (by decide) viX8_isEnough vsX8_isEnough (Or.inl (gg_at 1097 (by decide +kernel)))
theorem kL_103 : sk_cl RL 103 MX8_soonest 2 true := cl_v aX8_soonest iniRX8 dsX8_soonest (by decide) viX8_soonest vsX8_soonest (Or.inl (gg_at 1101 (by decide +kernel)))
theorem kL_108 : sk_cl RL 108 MX8_odds 3 true := cl_v aX8_odds iniRX8 dsX8_odds (by decide) viX8_odds vsX8_odds (Or.inl (gg_at 1105 (by decide +kernel)))
theorem kX8_197 : sk_cl RX8 197 MX8_partOf 3 false := cl_s aX8_partOf iniRX8 dsX8_partOf (by decide) stX8_partOf (Or.inl (gg_at 1109 (by decide +kernel)))
theorem kL_112 : sk_cl RL 112 MX8_mean 2 true := cl_v aX8_mean iniRX8 dsX8_mean (by decide) viX8_mean vsX8_mean (Or.inl (gg_at 1112 (by decide +kernel)))
theorem kL_116 : sk_cl RL 116 MX8_fits 2 true := cl_v aX8_fits iniRX8 dsX8_fits (by decide) viX8_fits vsX8_fits (Or.inl (gg_at 1116 (by decide +kernel)))
theorem kX8_200 : sk_cl RX8 200 MX8_isSheet 1 false := cl_s aX8_isSheet iniRX8 dsX8_isSheet (by decide) stX8_isSheet (Or.inl (gg_at 1120 (by decide +kernel)))
theorem kX8_203 : sk_cl RX8 203 MX8_rightOf 1 true := cl_v aX8_rightOf iniRX8 dsX8_rightOf (by decide) viX8_rightOf vsX8_rightOf (Or.inl (gg_at 1123 (by decide +kernel)))
theorem kL_120 : sk_cl RL 120 MX8_voice 3 true := cl_v aX8_voice iniRX8 dsX8_voice (by decide) viX8_voice vsX8_voice (Or.inl (gg_at 1127 (by decide +kernel)))
theorem kX8_218 : sk_cl RX8 218 MX8_calls 2 true := cl_v aX8_calls iniRX8 dsX8_calls (by decide) viX8_calls vsX8_calls (Or.inl (gg_at 1131 (by decide +kernel)))
theorem kX8_215 : sk_cl RX8 215 MX8_smackCalls 2 true := cl_v aX8_smackCalls iniRX8 dsX8_smackCalls (by decide) viX8_smackCalls vsX8_smackCalls (Or.inl (gg_at 1135 (by decide +kernel)))
theorem kX8_209 : sk_cl RX8 209 MX8_begins 1 true := cl_v aX8_begins iniRX8 dsX8_begins (by decide) viX8_begins vsX8_begins (Or.inl (gg_at 1139 (by decide +kernel)))
theorem kX8_212 : sk_cl RX8 212 MX8_plainCalls 2 true := cl_v aX8_plainCalls iniRX8 dsX8_plainCalls (by decide) viX8_plainCalls vsX8_plainCalls (Or.inl (gg_at 1143 (by decide +kernel)))
theorem kX8_227 : sk_cl RX8 227 MX8_hauls 2 true := cl_v aX8_hauls iniRX8 dsX8_hauls (by decide) viX8_hauls vsX8_hauls (Or.inl (gg_at 1147 (by decide +kernel)))
theorem kX8_224 : sk_cl RX8 224 MX8_skiffHauls 2 true := cl_v aX8_skiffHauls iniRX8 dsX8_skiffHauls (by decide) viX8_skiffHauls vsX8_skiffHauls (Or.inl (gg_at 1151 (by decide +kernel)))
theorem kX8_221 : sk_cl RX8 221 MX8_plainHauls 2 true := cl_v aX8_plainHauls iniRX8 dsX8_plainHauls (by decide) viX8_plainHauls vsX8_plainHauls (Or.inl (gg_at 1155 (by decide +kernel)))
theorem kX8_239 : sk_cl RX8 239 MX8_letsBy 2 true := cl_v aX8_letsBy iniRX8 dsX8_letsBy (by decide) viX8_letsBy vsX8_letsBy (Or.inl (gg_at 1159 (by decide +kernel)))
theorem kX8_230 : sk_cl RX8 230 MX8_plainLets 2 true := cl_v aX8_plainLets iniRX8 dsX8_plainLets (by decide) viX8_plainLets vsX8_plainLets (Or.inl (gg_at 1163 (by decide +kernel)))
theorem kX8_242 : sk_cl RX8 242 MX8_partsBy 2 true := cl_v aX8_partsBy iniRX8 dsX8_partsBy (by decide) viX8_partsBy vsX8_partsBy (Or.inl (gg_at 1167 (by decide +kernel)))
theorem kX8_236 : sk_cl RX8 236 MX8_plainParts 2 true := cl_v aX8_plainParts iniRX8 dsX8_plainParts (by decide) viX8_plainParts vsX8_plainParts (Or.inl (gg_at 1171 (by decide +kernel)))
theorem kL_124 : sk_cl RL 124 MX8_body 1 true := cl_v aX8_body iniRX8 dsX8_body (by decide) viX8_body vsX8_body (Or.inl (gg_at 1176 (by decide +kernel)))
theorem kL_128 : sk_cl RL 128 MX8_sheet 3 true := cl_v aX8_sheet iniRX8 dsX8_sheet (by decide) viX8_sheet vsX8_sheet (Or.inl (gg_at 1180 (by decide +kernel)))
theorem kL_132 : sk_cl RL 132 MX8_put 3 true := cl_v aX8_put iniRX8 dsX8_put (by decide) viX8_put vsX8_put (Or.inl (gg_at 1184 (by decide +kernel)))
theorem kX8_246 : sk_cl RX8 246 MX8_notThere 1 true := cl_v aX8_notThere iniRX8 dsX8_notThere (by decide) viX8_notThere vsX8_notThere (Or.inl (gg_at 1188 (by decide +kernel)))
theorem kL_137 : sk_cl RL 137 MX8_move 5 true := cl_v aX8_move iniRX8 dsX8_move (by decide) viX8_move vsX8_move (Or.inl (gg_at 1192 (by decide +kernel)))
theorem kX8_249 : sk_cl RX8 249 MX8_notMoved 5 true := cl_v aX8_notMoved iniRX8 dsX8_notMoved (by decide) viX8_notMoved vsX8_notMoved (Or.inl (gg_at 1196 (by decide +kernel)))
theorem kL_141 : sk_cl RL 141 MX8_prices 1 true := cl_v aX8_prices iniRX8 dsX8_prices (by decide) viX8_prices vsX8_prices (Or.inl (gg_at 1200 (by decide +kernel)))
theorem kL_145 : sk_cl RL 145 MX8_judge 1 true := cl_v aX8_judge iniRX8 dsX8_judge (by decide) viX8_judge vsX8_judge (Or.inl (gg_at 1204 (by decide +kernel)))
theorem kL_149 : sk_cl RL 149 MX8_image 0 true := cl_v aX8_image iniRX8 dsX8_image (by decide) viX8_image vsX8_image (Or.inl (gg_at 1208 (by decide +kernel)))
theorem kX8_253 : sk_cl RX8 253 MX8_copyAll 2 false := cl_s aX8_copyAll iniRX8 dsX8_copyAll (by decide) stX8_copyAll (Or.inl (gg_at 1212 (by decide +kernel)))
theorem kL_153 : sk_cl RL 153 MX8_restore 0 true := cl_v aX8_restore iniRX8 dsX8_restore (by decide) viX8_restore vsX8_restore (Or.inl (gg_at 1215 (by decide +kernel)))
theorem kL_157 : sk_cl RL 157 MX8_tell 1 true := cl_v aX8_tell iniRX8 dsX8_tell (by decide) viX8_tell vsX8_tell (Or.inl (gg_at 1219 (by decide +kernel)))
theorem kL_161 : sk_cl RL 161 MX8_check 0 true := cl_v aX8_check iniRX8 dsX8_check (by decide) viX8_check vsX8_check (Or.inl (gg_at 1223 (by decide +kernel)))
theorem kL_165 : sk_cl RL 165 MX8_count 1 true := cl_v aX8_count iniRX8 dsX8_count (by decide) viX8_count vsX8_count (Or.inl (gg_at 1227 (by decide +kernel)))
theorem kL_169 : sk_cl RL 169 MX8_told 1 true := cl_v aX8_told iniRX8 dsX8_told (by decide) viX8_told vsX8_told (Or.inl (gg_at 1231 (by decide +kernel)))
theorem uX0 : ∀ w ∈ u_ws RX0 TX0 3, w ∈ gg_W := fun w hw => List.mem_filter.mpr ⟨(by decide +kernel : ∀ w ∈ u_ws RX0 TX0 3, w ∈ lw_tbl) w hw, (by decide +kernel : ∀ w ∈ u_ws RX0 TX0 3, goodWord w = true) w hw⟩
theorem uX1 : ∀ w ∈ u_ws RX1 TX1 4, w ∈ gg_W := fun w hw => List.mem_filter.mpr ⟨(by decide +kernel : ∀ w ∈ u_ws RX1 TX1 4, w ∈ lw_tbl) w hw, (by decide +kernel : ∀ w ∈ u_ws RX1 TX1 4, goodWord w = true) w hw⟩
theorem uX2 : ∀ w ∈ u_ws RX2 TX2 15, w ∈ gg_W := fun w hw => List.mem_filter.mpr ⟨(by decide +kernel : ∀ w ∈ u_ws RX2 TX2 15, w ∈ lw_tbl) w hw, (by decide +kernel : ∀ w ∈ u_ws RX2 TX2 15, goodWord w = true) w hw⟩
theorem uX3 : ∀ w ∈ u_ws RX3 TX3 6, w ∈ gg_W := fun w hw => List.mem_filter.mpr ⟨(by decide +kernel : ∀ w ∈ u_ws RX3 TX3 6, w ∈ lw_tbl) w hw, (by decide +kernel : ∀ w ∈ u_ws RX3 TX3 6, goodWord w = true) w hw⟩
theorem uX4 : ∀ w ∈ u_ws RX4 TX4 3, w ∈ gg_W := fun w hw => List.mem_filter.mpr ⟨(by decide +kernel : ∀ w ∈ u_ws RX4 TX4 3, w ∈ lw_tbl) w hw, (by decide +kernel : ∀ w ∈ u_ws RX4 TX4 3, goodWord w = true) w hw⟩
theorem uX6 : ∀ w ∈ u_ws RX6 TX6 6, w ∈ gg_W := fun w hw => List.mem_filter.mpr ⟨(by decide +kernel : ∀ w ∈ u_ws RX6 TX6 6, w ∈ lw_tbl) w hw, (by decide +kernel : ∀ w ∈ u_ws RX6 TX6 6, goodWord w = true) w hw⟩
theorem uX7 : ∀ w ∈ u_ws RX7 TX7 7, w ∈ gg_W := fun w hw => List.mem_filter.mpr ⟨(by decide +kernel : ∀ w ∈ u_ws RX7 TX7 7, w ∈ lw_tbl) w hw, (by decide +kernel : ∀ w ∈ u_ws RX7 TX7 7, goodWord w = true) w hw⟩
theorem uX8 : ∀ w ∈ u_ws RX8 TX8 20, w ∈ gg_W := fun w hw => List.mem_filter.mpr ⟨(by decide +kernel : ∀ w ∈ u_ws RX8 TX8 20, w ∈ lw_tbl) w hw, (by decide +kernel : ∀ w ∈ u_ws RX8 TX8 20, goodWord w = true) w hw⟩
theorem fX6_15 : sk_fl RX6 15 0 0 := ⟨RX0, TX0, 3, rfl, uX0, by decide, Or.inr ⟨"PromisedFish", nn_at 44 (by decide +kernel)⟩⟩
theorem pX6_15 : sk_fp RX6 15 0 0 .int := ⟨RX0, TX0, 3, tyX0, rfl, uX0, by decide, Or.inr ⟨"PromisedFish", nn_at 44 (by decide +kernel)⟩, tyX0_ok, nmX0, rfl, by decide +kernel⟩
theorem fX0_9 : sk_fl RX0 9 0 0 := ⟨RX0, TX0, 3, rfl, uX0, by decide, Or.inl (gg_at 127 (by decide +kernel))⟩
theorem pX0_9 : sk_fp RX0 9 0 0 .int := ⟨RX0, TX0, 3, tyX0, rfl, uX0, by decide, Or.inl (gg_at 127 (by decide +kernel)), tyX0_ok, nmX0, rfl, by decide +kernel⟩
theorem fX7_78 : sk_fl RX7 78 0 0 := ⟨RX0, TX0, 3, rfl, uX0, by decide, Or.inr ⟨"PromisedFish", nn_at 46 (by decide +kernel)⟩⟩
theorem pX7_78 : sk_fp RX7 78 0 0 .int := ⟨RX0, TX0, 3, tyX0, rfl, uX0, by decide, Or.inr ⟨"PromisedFish", nn_at 46 (by decide +kernel)⟩, tyX0_ok, nmX0, rfl, by decide +kernel⟩
theorem fX6_22 : sk_fl RX6 22 0 1 := ⟨RX0, TX0, 3, rfl, uX0, by decide, Or.inr ⟨"PromisedFish", nn_at 47 (by decide +kernel)⟩⟩
theorem pX6_22 : sk_fp RX6 22 0 1 .int := ⟨RX0, TX0, 3, tyX0, rfl, uX0, by decide, Or.inr ⟨"PromisedFish", nn_at 47 (by decide +kernel)⟩, tyX0_ok, nmX0, rfl, by decide +kernel⟩
theorem fX0_15 : sk_fl RX0 15 0 1 := ⟨RX0, TX0, 3, rfl, uX0, by decide, Or.inl (gg_at 130 (by decide +kernel))⟩
theorem pX0_15 : sk_fp RX0 15 0 1 .int := ⟨RX0, TX0, 3, tyX0, rfl, uX0, by decide, Or.inl (gg_at 130 (by decide +kernel)), tyX0_ok, nmX0, rfl, by decide +kernel⟩
theorem fX7_81 : sk_fl RX7 81 0 1 := ⟨RX0, TX0, 3, rfl, uX0, by decide, Or.inr ⟨"PromisedFish", nn_at 49 (by decide +kernel)⟩⟩
theorem pX7_81 : sk_fp RX7 81 0 1 .int := ⟨RX0, TX0, 3, tyX0, rfl, uX0, by decide, Or.inr ⟨"PromisedFish", nn_at 49 (by decide +kernel)⟩, tyX0_ok, nmX0, rfl, by decide +kernel⟩
theorem fX7_68 : sk_fl RX7 68 0 2 := ⟨RX0, TX0, 3, rfl, uX0, by decide, Or.inr ⟨"PromisedFish", nn_at 50 (by decide +kernel)⟩⟩
theorem pX7_68 : sk_fp RX7 68 0 2 .int := ⟨RX0, TX0, 3, tyX0, rfl, uX0, by decide, Or.inr ⟨"PromisedFish", nn_at 50 (by decide +kernel)⟩, tyX0_ok, nmX0, rfl, by decide +kernel⟩
theorem fX2_85 : sk_fl RX2 85 0 2 := ⟨RX0, TX0, 3, rfl, uX0, by decide, Or.inr ⟨"PromisedFish", nn_at 51 (by decide +kernel)⟩⟩
theorem pX2_85 : sk_fp RX2 85 0 2 .int := ⟨RX0, TX0, 3, tyX0, rfl, uX0, by decide, Or.inr ⟨"PromisedFish", nn_at 51 (by decide +kernel)⟩, tyX0_ok, nmX0, rfl, by decide +kernel⟩
theorem fX0_18 : sk_fl RX0 18 0 2 := ⟨RX0, TX0, 3, rfl, uX0, by decide, Or.inl (gg_at 134 (by decide +kernel))⟩
theorem pX0_18 : sk_fp RX0 18 0 2 .int := ⟨RX0, TX0, 3, tyX0, rfl, uX0, by decide, Or.inl (gg_at 134 (by decide +kernel)), tyX0_ok, nmX0, rfl, by decide +kernel⟩
theorem fX1_9 : sk_fl RX1 9 1 0 := ⟨RX1, TX1, 4, rfl, uX1, by decide, Or.inl (gg_at 148 (by decide +kernel))⟩
theorem fX1_15 : sk_fl RX1 15 1 1 := ⟨RX1, TX1, 4, rfl, uX1, by decide, Or.inl (gg_at 149 (by decide +kernel))⟩
theorem fX1_28 : sk_fl RX1 28 1 2 := ⟨RX1, TX1, 4, rfl, uX1, by decide, Or.inl (gg_at 150 (by decide +kernel))⟩
theorem pX1_28 : sk_fp RX1 28 1 2 .int := ⟨RX1, TX1, 4, tyX1, rfl, uX1, by decide, Or.inl (gg_at 150 (by decide +kernel)), tyX1_ok, nmX1, rfl, by decide +kernel⟩
theorem fX1_38 : sk_fl RX1 38 1 3 := ⟨RX1, TX1, 4, rfl, uX1, by decide, Or.inl (gg_at 151 (by decide +kernel))⟩
theorem pX1_38 : sk_fp RX1 38 1 3 .boolean := ⟨RX1, TX1, 4, tyX1, rfl, uX1, by decide, Or.inl (gg_at 151 (by decide +kernel)), tyX1_ok, nmX1, rfl, by decide +kernel⟩
theorem fX7_144 : sk_fl RX7 144 1 3 := ⟨RX1, TX1, 4, rfl, uX1, by decide, Or.inr ⟨"PromisedFish", nn_at 70 (by decide +kernel)⟩⟩
theorem pX7_144 : sk_fp RX7 144 1 3 .boolean := ⟨RX1, TX1, 4, tyX1, rfl, uX1, by decide, Or.inr ⟨"PromisedFish", nn_at 70 (by decide +kernel)⟩, tyX1_ok, nmX1, rfl, by decide +kernel⟩
theorem fX2_9 : sk_fl RX2 9 2 0 := ⟨RX2, TX2, 15, rfl, uX2, by decide, Or.inl (gg_at 162 (by decide +kernel))⟩
theorem fX7_90 : sk_fl RX7 90 2 0 := ⟨RX2, TX2, 15, rfl, uX2, by decide, Or.inr ⟨"PromisedFish", nn_at 81 (by decide +kernel)⟩⟩
theorem fX5_61 : sk_fl RX5 61 2 0 := ⟨RX2, TX2, 15, rfl, uX2, by decide, Or.inr ⟨"PromisedFish", nn_at 82 (by decide +kernel)⟩⟩
theorem fX2_15 : sk_fl RX2 15 2 1 := ⟨RX2, TX2, 15, rfl, uX2, by decide, Or.inl (gg_at 165 (by decide +kernel))⟩
theorem fX5_38 : sk_fl RX5 38 2 1 := ⟨RX2, TX2, 15, rfl, uX2, by decide, Or.inr ⟨"PromisedFish", nn_at 84 (by decide +kernel)⟩⟩
theorem fX7_107 : sk_fl RX7 107 2 1 := ⟨RX2, TX2, 15, rfl, uX2, by decide, Or.inr ⟨"PromisedFish", nn_at 85 (by decide +kernel)⟩⟩
theorem fX2_20 : sk_fl RX2 20 2 2 := ⟨RX2, TX2, 15, rfl, uX2, by decide, Or.inl (gg_at 168 (by decide +kernel))⟩
theorem fX7_58 : sk_fl RX7 58 2 2 := ⟨RX2, TX2, 15, rfl, uX2, by decide, Or.inr ⟨"PromisedFish", nn_at 87 (by decide +kernel)⟩⟩
theorem fX2_26 : sk_fl RX2 26 2 3 := ⟨RX2, TX2, 15, rfl, uX2, by decide, Or.inl (gg_at 170 (by decide +kernel))⟩
theorem fX7_128 : sk_fl RX7 128 2 3 := ⟨RX2, TX2, 15, rfl, uX2, by decide, Or.inr ⟨"PromisedFish", nn_at 89 (by decide +kernel)⟩⟩
theorem fX2_30 : sk_fl RX2 30 2 4 := ⟨RX2, TX2, 15, rfl, uX2, by decide, Or.inl (gg_at 172 (by decide +kernel))⟩
theorem fX7_118 : sk_fl RX7 118 2 4 := ⟨RX2, TX2, 15, rfl, uX2, by decide, Or.inr ⟨"PromisedFish", nn_at 91 (by decide +kernel)⟩⟩
theorem fX2_33 : sk_fl RX2 33 2 5 := ⟨RX2, TX2, 15, rfl, uX2, by decide, Or.inl (gg_at 174 (by decide +kernel))⟩
theorem fX7_274 : sk_fl RX7 274 2 5 := ⟨RX2, TX2, 15, rfl, uX2, by decide, Or.inr ⟨"PromisedFish", nn_at 93 (by decide +kernel)⟩⟩
theorem fX7_53 : sk_fl RX7 53 2 6 := ⟨RX2, TX2, 15, rfl, uX2, by decide, Or.inr ⟨"PromisedFish", nn_at 94 (by decide +kernel)⟩⟩
theorem pX7_53 : sk_fp RX7 53 2 6 .int := ⟨RX2, TX2, 15, tyX2, rfl, uX2, by decide, Or.inr ⟨"PromisedFish", nn_at 94 (by decide +kernel)⟩, tyX2_ok, nmX2, rfl, by decide +kernel⟩
theorem fX2_64 : sk_fl RX2 64 2 6 := ⟨RX2, TX2, 15, rfl, uX2, by decide, Or.inl (gg_at 177 (by decide +kernel))⟩
theorem pX2_64 : sk_fp RX2 64 2 6 .int := ⟨RX2, TX2, 15, tyX2, rfl, uX2, by decide, Or.inl (gg_at 177 (by decide +kernel)), tyX2_ok, nmX2, rfl, by decide +kernel⟩
theorem fX5_48 : sk_fl RX5 48 2 6 := ⟨RX2, TX2, 15, rfl, uX2, by decide, Or.inr ⟨"PromisedFish", nn_at 96 (by decide +kernel)⟩⟩
theorem pX5_48 : sk_fp RX5 48 2 6 .int := ⟨RX2, TX2, 15, tyX2, rfl, uX2, by decide, Or.inr ⟨"PromisedFish", nn_at 96 (by decide +kernel)⟩, tyX2_ok, nmX2, rfl, by decide +kernel⟩
theorem fX2_67 : sk_fl RX2 67 2 7 := ⟨RX2, TX2, 15, rfl, uX2, by decide, Or.inl (gg_at 179 (by decide +kernel))⟩
theorem pX2_67 : sk_fp RX2 67 2 7 .int := ⟨RX2, TX2, 15, tyX2, rfl, uX2, by decide, Or.inl (gg_at 179 (by decide +kernel)), tyX2_ok, nmX2, rfl, by decide +kernel⟩
theorem fX7_93 : sk_fl RX7 93 2 7 := ⟨RX2, TX2, 15, rfl, uX2, by decide, Or.inr ⟨"PromisedFish", nn_at 98 (by decide +kernel)⟩⟩
theorem pX7_93 : sk_fp RX7 93 2 7 .int := ⟨RX2, TX2, 15, tyX2, rfl, uX2, by decide, Or.inr ⟨"PromisedFish", nn_at 98 (by decide +kernel)⟩, tyX2_ok, nmX2, rfl, by decide +kernel⟩
theorem fX5_42 : sk_fl RX5 42 2 7 := ⟨RX2, TX2, 15, rfl, uX2, by decide, Or.inr ⟨"PromisedFish", nn_at 99 (by decide +kernel)⟩⟩
theorem pX5_42 : sk_fp RX5 42 2 7 .int := ⟨RX2, TX2, 15, tyX2, rfl, uX2, by decide, Or.inr ⟨"PromisedFish", nn_at 99 (by decide +kernel)⟩, tyX2_ok, nmX2, rfl, by decide +kernel⟩
theorem fX2_70 : sk_fl RX2 70 2 8 := ⟨RX2, TX2, 15, rfl, uX2, by decide, Or.inl (gg_at 182 (by decide +kernel))⟩
theorem pX2_70 : sk_fp RX2 70 2 8 .int := ⟨RX2, TX2, 15, tyX2, rfl, uX2, by decide, Or.inl (gg_at 182 (by decide +kernel)), tyX2_ok, nmX2, rfl, by decide +kernel⟩
theorem fX5_15 : sk_fl RX5 15 2 8 := ⟨RX2, TX2, 15, rfl, uX2, by decide, Or.inr ⟨"PromisedFish", nn_at 101 (by decide +kernel)⟩⟩
theorem pX5_15 : sk_fp RX5 15 2 8 .int := ⟨RX2, TX2, 15, tyX2, rfl, uX2, by decide, Or.inr ⟨"PromisedFish", nn_at 101 (by decide +kernel)⟩, tyX2_ok, nmX2, rfl, by decide +kernel⟩
theorem fX7_84 : sk_fl RX7 84 2 8 := ⟨RX2, TX2, 15, rfl, uX2, by decide, Or.inr ⟨"PromisedFish", nn_at 102 (by decide +kernel)⟩⟩
theorem pX7_84 : sk_fp RX7 84 2 8 .int := ⟨RX2, TX2, 15, tyX2, rfl, uX2, by decide, Or.inr ⟨"PromisedFish", nn_at 102 (by decide +kernel)⟩, tyX2_ok, nmX2, rfl, by decide +kernel⟩
theorem fX2_73 : sk_fl RX2 73 2 9 := ⟨RX2, TX2, 15, rfl, uX2, by decide, Or.inl (gg_at 185 (by decide +kernel))⟩
theorem pX2_73 : sk_fp RX2 73 2 9 .int := ⟨RX2, TX2, 15, tyX2, rfl, uX2, by decide, Or.inl (gg_at 185 (by decide +kernel)), tyX2_ok, nmX2, rfl, by decide +kernel⟩
theorem fX7_277 : sk_fl RX7 277 2 9 := ⟨RX2, TX2, 15, rfl, uX2, by decide, Or.inr ⟨"PromisedFish", nn_at 104 (by decide +kernel)⟩⟩
theorem pX7_277 : sk_fp RX7 277 2 9 .int := ⟨RX2, TX2, 15, tyX2, rfl, uX2, by decide, Or.inr ⟨"PromisedFish", nn_at 104 (by decide +kernel)⟩, tyX2_ok, nmX2, rfl, by decide +kernel⟩
theorem fX2_76 : sk_fl RX2 76 2 10 := ⟨RX2, TX2, 15, rfl, uX2, by decide, Or.inl (gg_at 187 (by decide +kernel))⟩
theorem pX2_76 : sk_fp RX2 76 2 10 .int := ⟨RX2, TX2, 15, tyX2, rfl, uX2, by decide, Or.inl (gg_at 187 (by decide +kernel)), tyX2_ok, nmX2, rfl, by decide +kernel⟩
theorem fX7_280 : sk_fl RX7 280 2 10 := ⟨RX2, TX2, 15, rfl, uX2, by decide, Or.inr ⟨"PromisedFish", nn_at 106 (by decide +kernel)⟩⟩
theorem pX7_280 : sk_fp RX7 280 2 10 .int := ⟨RX2, TX2, 15, tyX2, rfl, uX2, by decide, Or.inr ⟨"PromisedFish", nn_at 106 (by decide +kernel)⟩, tyX2_ok, nmX2, rfl, by decide +kernel⟩
theorem fX2_36 : sk_fl RX2 36 2 11 := ⟨RX2, TX2, 15, rfl, uX2, by decide, Or.inl (gg_at 189 (by decide +kernel))⟩
theorem pX2_36 : sk_fp RX2 36 2 11 .int := ⟨RX2, TX2, 15, tyX2, rfl, uX2, by decide, Or.inl (gg_at 189 (by decide +kernel)), tyX2_ok, nmX2, rfl, by decide +kernel⟩
theorem fX7_283 : sk_fl RX7 283 2 11 := ⟨RX2, TX2, 15, rfl, uX2, by decide, Or.inr ⟨"PromisedFish", nn_at 108 (by decide +kernel)⟩⟩
theorem pX7_283 : sk_fp RX7 283 2 11 .int := ⟨RX2, TX2, 15, tyX2, rfl, uX2, by decide, Or.inr ⟨"PromisedFish", nn_at 108 (by decide +kernel)⟩, tyX2_ok, nmX2, rfl, by decide +kernel⟩
theorem fX2_79 : sk_fl RX2 79 2 12 := ⟨RX2, TX2, 15, rfl, uX2, by decide, Or.inl (gg_at 191 (by decide +kernel))⟩
theorem pX2_79 : sk_fp RX2 79 2 12 .int := ⟨RX2, TX2, 15, tyX2, rfl, uX2, by decide, Or.inl (gg_at 191 (by decide +kernel)), tyX2_ok, nmX2, rfl, by decide +kernel⟩
theorem fX7_115 : sk_fl RX7 115 2 12 := ⟨RX2, TX2, 15, rfl, uX2, by decide, Or.inr ⟨"PromisedFish", nn_at 110 (by decide +kernel)⟩⟩
theorem pX7_115 : sk_fp RX7 115 2 12 .int := ⟨RX2, TX2, 15, tyX2, rfl, uX2, by decide, Or.inr ⟨"PromisedFish", nn_at 110 (by decide +kernel)⟩, tyX2_ok, nmX2, rfl, by decide +kernel⟩
theorem fX2_82 : sk_fl RX2 82 2 13 := ⟨RX2, TX2, 15, rfl, uX2, by decide, Or.inl (gg_at 193 (by decide +kernel))⟩
theorem pX2_82 : sk_fp RX2 82 2 13 .int := ⟨RX2, TX2, 15, tyX2, rfl, uX2, by decide, Or.inl (gg_at 193 (by decide +kernel)), tyX2_ok, nmX2, rfl, by decide +kernel⟩
theorem fX7_271 : sk_fl RX7 271 2 13 := ⟨RX2, TX2, 15, rfl, uX2, by decide, Or.inr ⟨"PromisedFish", nn_at 112 (by decide +kernel)⟩⟩
theorem pX7_271 : sk_fp RX7 271 2 13 .int := ⟨RX2, TX2, 15, tyX2, rfl, uX2, by decide, Or.inr ⟨"PromisedFish", nn_at 112 (by decide +kernel)⟩, tyX2_ok, nmX2, rfl, by decide +kernel⟩
theorem fX2_40 : sk_fl RX2 40 2 14 := ⟨RX2, TX2, 15, rfl, uX2, by decide, Or.inl (gg_at 195 (by decide +kernel))⟩
theorem pX2_40 : sk_fp RX2 40 2 14 .int := ⟨RX2, TX2, 15, tyX2, rfl, uX2, by decide, Or.inl (gg_at 195 (by decide +kernel)), tyX2_ok, nmX2, rfl, by decide +kernel⟩
theorem fX7_159 : sk_fl RX7 159 2 14 := ⟨RX2, TX2, 15, rfl, uX2, by decide, Or.inr ⟨"PromisedFish", nn_at 114 (by decide +kernel)⟩⟩
theorem pX7_159 : sk_fp RX7 159 2 14 .int := ⟨RX2, TX2, 15, tyX2, rfl, uX2, by decide, Or.inr ⟨"PromisedFish", nn_at 114 (by decide +kernel)⟩, tyX2_ok, nmX2, rfl, by decide +kernel⟩
theorem fX3_9 : sk_fl RX3 9 3 0 := ⟨RX3, TX3, 6, rfl, uX3, by decide, Or.inl (gg_at 234 (by decide +kernel))⟩
theorem fX7_132 : sk_fl RX7 132 3 0 := ⟨RX3, TX3, 6, rfl, uX3, by decide, Or.inr ⟨"PromisedFish", nn_at 153 (by decide +kernel)⟩⟩
theorem fX3_44 : sk_fl RX3 44 3 1 := ⟨RX3, TX3, 6, rfl, uX3, by decide, Or.inl (gg_at 236 (by decide +kernel))⟩
theorem pX3_44 : sk_fp RX3 44 3 1 .int := ⟨RX3, TX3, 6, tyX3, rfl, uX3, by decide, Or.inl (gg_at 236 (by decide +kernel)), tyX3_ok, nmX3, rfl, by decide +kernel⟩
theorem fX7_135 : sk_fl RX7 135 3 1 := ⟨RX3, TX3, 6, rfl, uX3, by decide, Or.inr ⟨"PromisedFish", nn_at 155 (by decide +kernel)⟩⟩
theorem pX7_135 : sk_fp RX7 135 3 1 .int := ⟨RX3, TX3, 6, tyX3, rfl, uX3, by decide, Or.inr ⟨"PromisedFish", nn_at 155 (by decide +kernel)⟩, tyX3_ok, nmX3, rfl, by decide +kernel⟩
theorem fX3_15 : sk_fl RX3 15 3 2 := ⟨RX3, TX3, 6, rfl, uX3, by decide, Or.inl (gg_at 238 (by decide +kernel))⟩
theorem fX3_28 : sk_fl RX3 28 3 3 := ⟨RX3, TX3, 6, rfl, uX3, by decide, Or.inl (gg_at 239 (by decide +kernel))⟩
theorem pX3_28 : sk_fp RX3 28 3 3 .int := ⟨RX3, TX3, 6, tyX3, rfl, uX3, by decide, Or.inl (gg_at 239 (by decide +kernel)), tyX3_ok, nmX3, rfl, by decide +kernel⟩
theorem fX3_41 : sk_fl RX3 41 3 4 := ⟨RX3, TX3, 6, rfl, uX3, by decide, Or.inl (gg_at 240 (by decide +kernel))⟩
theorem pX3_41 : sk_fp RX3 41 3 4 .int := ⟨RX3, TX3, 6, tyX3, rfl, uX3, by decide, Or.inl (gg_at 240 (by decide +kernel)), tyX3_ok, nmX3, rfl, by decide +kernel⟩
theorem fX3_38 : sk_fl RX3 38 3 5 := ⟨RX3, TX3, 6, rfl, uX3, by decide, Or.inl (gg_at 241 (by decide +kernel))⟩
theorem pX3_38 : sk_fp RX3 38 3 5 .int := ⟨RX3, TX3, 6, tyX3, rfl, uX3, by decide, Or.inl (gg_at 241 (by decide +kernel)), tyX3_ok, nmX3, rfl, by decide +kernel⟩
theorem fX6_9 : sk_fl RX6 9 5 0 := ⟨RX6, TX6, 6, rfl, uX6, by decide, Or.inl (gg_at 261 (by decide +kernel))⟩
theorem fX7_231 : sk_fl RX7 231 5 0 := ⟨RX6, TX6, 6, rfl, uX6, by decide, Or.inr ⟨"PromisedFish", nn_at 180 (by decide +kernel)⟩⟩
theorem fX6_29 : sk_fl RX6 29 5 1 := ⟨RX6, TX6, 6, rfl, uX6, by decide, Or.inl (gg_at 263 (by decide +kernel))⟩
theorem pX6_29 : sk_fp RX6 29 5 1 .int := ⟨RX6, TX6, 6, tyX6, rfl, uX6, by decide, Or.inl (gg_at 263 (by decide +kernel)), tyX6_ok, nmX6, rfl, by decide +kernel⟩
theorem fX7_228 : sk_fl RX7 228 5 1 := ⟨RX6, TX6, 6, rfl, uX6, by decide, Or.inr ⟨"PromisedFish", nn_at 182 (by decide +kernel)⟩⟩
theorem pX7_228 : sk_fp RX7 228 5 1 .int := ⟨RX6, TX6, 6, tyX6, rfl, uX6, by decide, Or.inr ⟨"PromisedFish", nn_at 182 (by decide +kernel)⟩, tyX6_ok, nmX6, rfl, by decide +kernel⟩
theorem fX6_32 : sk_fl RX6 32 5 2 := ⟨RX6, TX6, 6, rfl, uX6, by decide, Or.inl (gg_at 265 (by decide +kernel))⟩
theorem pX6_32 : sk_fp RX6 32 5 2 .boolean := ⟨RX6, TX6, 6, tyX6, rfl, uX6, by decide, Or.inl (gg_at 265 (by decide +kernel)), tyX6_ok, nmX6, rfl, by decide +kernel⟩
theorem fX7_224 : sk_fl RX7 224 5 2 := ⟨RX6, TX6, 6, rfl, uX6, by decide, Or.inr ⟨"PromisedFish", nn_at 184 (by decide +kernel)⟩⟩
theorem pX7_224 : sk_fp RX7 224 5 2 .boolean := ⟨RX6, TX6, 6, tyX6, rfl, uX6, by decide, Or.inr ⟨"PromisedFish", nn_at 184 (by decide +kernel)⟩, tyX6_ok, nmX6, rfl, by decide +kernel⟩
theorem fX6_21 : sk_fl RX6 21 5 3 := ⟨RX6, TX6, 6, rfl, uX6, by decide, Or.inl (gg_at 267 (by decide +kernel))⟩
theorem pX6_21 : sk_fp RX6 21 5 3 .int := ⟨RX6, TX6, 6, tyX6, rfl, uX6, by decide, Or.inl (gg_at 267 (by decide +kernel)), tyX6_ok, nmX6, rfl, by decide +kernel⟩
theorem fX6_26 : sk_fl RX6 26 5 4 := ⟨RX6, TX6, 6, rfl, uX6, by decide, Or.inl (gg_at 268 (by decide +kernel))⟩
theorem pX6_26 : sk_fp RX6 26 5 4 .int := ⟨RX6, TX6, 6, tyX6, rfl, uX6, by decide, Or.inl (gg_at 268 (by decide +kernel)), tyX6_ok, nmX6, rfl, by decide +kernel⟩
theorem fX6_25 : sk_fl RX6 25 5 5 := ⟨RX6, TX6, 6, rfl, uX6, by decide, Or.inl (gg_at 269 (by decide +kernel))⟩
theorem pX6_25 : sk_fp RX6 25 5 5 .int := ⟨RX6, TX6, 6, tyX6, rfl, uX6, by decide, Or.inl (gg_at 269 (by decide +kernel)), tyX6_ok, nmX6, rfl, by decide +kernel⟩
theorem fX4_9 : sk_fl RX4 9 4 0 := ⟨RX4, TX4, 3, rfl, uX4, by decide, Or.inl (gg_at 290 (by decide +kernel))⟩
theorem fX5_77 : sk_fl RX5 77 4 0 := ⟨RX4, TX4, 3, rfl, uX4, by decide, Or.inr ⟨"PromisedFish", nn_at 209 (by decide +kernel)⟩⟩
theorem fX7_241 : sk_fl RX7 241 4 0 := ⟨RX4, TX4, 3, rfl, uX4, by decide, Or.inr ⟨"PromisedFish", nn_at 210 (by decide +kernel)⟩⟩
theorem fX4_15 : sk_fl RX4 15 4 1 := ⟨RX4, TX4, 3, rfl, uX4, by decide, Or.inl (gg_at 293 (by decide +kernel))⟩
theorem pX4_15 : sk_fp RX4 15 4 1 .int := ⟨RX4, TX4, 3, tyX4, rfl, uX4, by decide, Or.inl (gg_at 293 (by decide +kernel)), tyX4_ok, nmX4, rfl, by decide +kernel⟩
theorem fX7_247 : sk_fl RX7 247 4 1 := ⟨RX4, TX4, 3, rfl, uX4, by decide, Or.inr ⟨"PromisedFish", nn_at 212 (by decide +kernel)⟩⟩
theorem pX7_247 : sk_fp RX7 247 4 1 .int := ⟨RX4, TX4, 3, tyX4, rfl, uX4, by decide, Or.inr ⟨"PromisedFish", nn_at 212 (by decide +kernel)⟩, tyX4_ok, nmX4, rfl, by decide +kernel⟩
theorem fX4_19 : sk_fl RX4 19 4 2 := ⟨RX4, TX4, 3, rfl, uX4, by decide, Or.inl (gg_at 295 (by decide +kernel))⟩
theorem pX4_19 : sk_fp RX4 19 4 2 .int := ⟨RX4, TX4, 3, tyX4, rfl, uX4, by decide, Or.inl (gg_at 295 (by decide +kernel)), tyX4_ok, nmX4, rfl, by decide +kernel⟩
theorem fX5_72 : sk_fl RX5 72 4 2 := ⟨RX4, TX4, 3, rfl, uX4, by decide, Or.inr ⟨"PromisedFish", nn_at 214 (by decide +kernel)⟩⟩
theorem pX5_72 : sk_fp RX5 72 4 2 .int := ⟨RX4, TX4, 3, tyX4, rfl, uX4, by decide, Or.inr ⟨"PromisedFish", nn_at 214 (by decide +kernel)⟩, tyX4_ok, nmX4, rfl, by decide +kernel⟩
theorem fX7_238 : sk_fl RX7 238 4 2 := ⟨RX4, TX4, 3, rfl, uX4, by decide, Or.inr ⟨"PromisedFish", nn_at 215 (by decide +kernel)⟩⟩
theorem pX7_238 : sk_fp RX7 238 4 2 .int := ⟨RX4, TX4, 3, tyX4, rfl, uX4, by decide, Or.inr ⟨"PromisedFish", nn_at 215 (by decide +kernel)⟩, tyX4_ok, nmX4, rfl, by decide +kernel⟩
theorem fX7_12 : sk_fl RX7 12 6 0 := ⟨RX7, TX7, 7, rfl, uX7, by decide, Or.inl (gg_at 305 (by decide +kernel))⟩
theorem fX7_16 : sk_fl RX7 16 6 1 := ⟨RX7, TX7, 7, rfl, uX7, by decide, Or.inl (gg_at 306 (by decide +kernel))⟩
theorem fX7_22 : sk_fl RX7 22 6 2 := ⟨RX7, TX7, 7, rfl, uX7, by decide, Or.inl (gg_at 307 (by decide +kernel))⟩
theorem fX7_29 : sk_fl RX7 29 6 3 := ⟨RX7, TX7, 7, rfl, uX7, by decide, Or.inl (gg_at 308 (by decide +kernel))⟩
theorem fX7_35 : sk_fl RX7 35 6 4 := ⟨RX7, TX7, 7, rfl, uX7, by decide, Or.inl (gg_at 309 (by decide +kernel))⟩
theorem fX7_39 : sk_fl RX7 39 6 5 := ⟨RX7, TX7, 7, rfl, uX7, by decide, Or.inl (gg_at 310 (by decide +kernel))⟩
theorem fX7_268 : sk_fl RX7 268 6 6 := ⟨RX7, TX7, 7, rfl, uX7, by decide, Or.inl (gg_at 311 (by decide +kernel))⟩
theorem pX7_268 : sk_fp RX7 268 6 6 .int := ⟨RX7, TX7, 7, tyX7, rfl, uX7, by decide, Or.inl (gg_at 311 (by decide +kernel)), tyX7_ok, nmX7, rfl, by decide +kernel⟩
theorem gsX0_21 : sk_gs RX0 21 68 := ⟨("PromisedFish", "ABOVE", 68), List.mem_cons_self, rfl, Or.inr ⟨"PromisedFish", nn_at 314 (by decide +kernel)⟩⟩
theorem gsX6_40 : sk_gs RX6 40 69 := ⟨("PromisedFish$Voices", "BODIES", 69), List.mem_cons_of_mem _ List.mem_cons_self, rfl, Or.inl (gg_at 709 (by decide +kernel))⟩
theorem gsX6_43 : sk_gs RX6 43 68 := ⟨("PromisedFish", "ABOVE", 68), List.mem_cons_self, rfl, Or.inr ⟨"PromisedFish", nn_at 629 (by decide +kernel)⟩⟩
theorem fX8_9 : sk_fl RX8 9 7 0 := ⟨RX8, TX8, 20, rfl, uX8, by decide, Or.inl (gg_at 804 (by decide +kernel))⟩
theorem fX8_13 : sk_fl RX8 13 7 1 := ⟨RX8, TX8, 20, rfl, uX8, by decide, Or.inl (gg_at 805 (by decide +kernel))⟩
theorem fX8_257 : sk_fl RX8 257 7 2 := ⟨RX8, TX8, 20, rfl, uX8, by decide, Or.inl (gg_at 806 (by decide +kernel))⟩
theorem pX8_257 : sk_fp RX8 257 7 2 .int := ⟨RX8, TX8, 20, tyX8, rfl, uX8, by decide, Or.inl (gg_at 806 (by decide +kernel)), tyX8_ok, nmX8, rfl, by decide +kernel⟩
theorem fX8_16 : sk_fl RX8 16 7 3 := ⟨RX8, TX8, 20, rfl, uX8, by decide, Or.inl (gg_at 807 (by decide +kernel))⟩
theorem fX8_19 : sk_fl RX8 19 7 4 := ⟨RX8, TX8, 20, rfl, uX8, by decide, Or.inl (gg_at 808 (by decide +kernel))⟩
theorem fX8_22 : sk_fl RX8 22 7 5 := ⟨RX8, TX8, 20, rfl, uX8, by decide, Or.inl (gg_at 809 (by decide +kernel))⟩
theorem fX8_25 : sk_fl RX8 25 7 6 := ⟨RX8, TX8, 20, rfl, uX8, by decide, Or.inl (gg_at 810 (by decide +kernel))⟩
theorem fX8_28 : sk_fl RX8 28 7 7 := ⟨RX8, TX8, 20, rfl, uX8, by decide, Or.inl (gg_at 811 (by decide +kernel))⟩
theorem fX8_31 : sk_fl RX8 31 7 8 := ⟨RX8, TX8, 20, rfl, uX8, by decide, Or.inl (gg_at 812 (by decide +kernel))⟩
theorem fX8_34 : sk_fl RX8 34 7 9 := ⟨RX8, TX8, 20, rfl, uX8, by decide, Or.inl (gg_at 813 (by decide +kernel))⟩
theorem fX8_37 : sk_fl RX8 37 7 10 := ⟨RX8, TX8, 20, rfl, uX8, by decide, Or.inl (gg_at 814 (by decide +kernel))⟩
theorem fX8_110 : sk_fl RX8 110 7 11 := ⟨RX8, TX8, 20, rfl, uX8, by decide, Or.inl (gg_at 815 (by decide +kernel))⟩
theorem pX8_110 : sk_fp RX8 110 7 11 .int := ⟨RX8, TX8, 20, tyX8, rfl, uX8, by decide, Or.inl (gg_at 815 (by decide +kernel)), tyX8_ok, nmX8, rfl, by decide +kernel⟩
theorem fX8_106 : sk_fl RX8 106 7 12 := ⟨RX8, TX8, 20, rfl, uX8, by decide, Or.inl (gg_at 816 (by decide +kernel))⟩
theorem pX8_106 : sk_fp RX8 106 7 12 .int := ⟨RX8, TX8, 20, tyX8, rfl, uX8, by decide, Or.inl (gg_at 816 (by decide +kernel)), tyX8_ok, nmX8, rfl, by decide +kernel⟩
theorem fX8_128 : sk_fl RX8 128 7 13 := ⟨RX8, TX8, 20, rfl, uX8, by decide, Or.inl (gg_at 817 (by decide +kernel))⟩
theorem pX8_128 : sk_fp RX8 128 7 13 .int := ⟨RX8, TX8, 20, tyX8, rfl, uX8, by decide, Or.inl (gg_at 817 (by decide +kernel)), tyX8_ok, nmX8, rfl, by decide +kernel⟩
theorem fX8_120 : sk_fl RX8 120 7 14 := ⟨RX8, TX8, 20, rfl, uX8, by decide, Or.inl (gg_at 818 (by decide +kernel))⟩
theorem pX8_120 : sk_fp RX8 120 7 14 .boolean := ⟨RX8, TX8, 20, tyX8, rfl, uX8, by decide, Or.inl (gg_at 818 (by decide +kernel)), tyX8_ok, nmX8, rfl, by decide +kernel⟩
theorem fX8_113 : sk_fl RX8 113 7 15 := ⟨RX8, TX8, 20, rfl, uX8, by decide, Or.inl (gg_at 819 (by decide +kernel))⟩
theorem pX8_113 : sk_fp RX8 113 7 15 .int := ⟨RX8, TX8, 20, tyX8, rfl, uX8, by decide, Or.inl (gg_at 819 (by decide +kernel)), tyX8_ok, nmX8, rfl, by decide +kernel⟩
theorem fX8_40 : sk_fl RX8 40 7 16 := ⟨RX8, TX8, 20, rfl, uX8, by decide, Or.inl (gg_at 820 (by decide +kernel))⟩
theorem fX8_43 : sk_fl RX8 43 7 17 := ⟨RX8, TX8, 20, rfl, uX8, by decide, Or.inl (gg_at 821 (by decide +kernel))⟩
theorem fX8_206 : sk_fl RX8 206 7 18 := ⟨RX8, TX8, 20, rfl, uX8, by decide, Or.inl (gg_at 822 (by decide +kernel))⟩
theorem pX8_206 : sk_fp RX8 206 7 18 .int := ⟨RX8, TX8, 20, tyX8, rfl, uX8, by decide, Or.inl (gg_at 822 (by decide +kernel)), tyX8_ok, nmX8, rfl, by decide +kernel⟩
theorem fX8_233 : sk_fl RX8 233 7 19 := ⟨RX8, TX8, 20, rfl, uX8, by decide, Or.inl (gg_at 823 (by decide +kernel))⟩
theorem pX8_233 : sk_fp RX8 233 7 19 .boolean := ⟨RX8, TX8, 20, tyX8, rfl, uX8, by decide, Or.inl (gg_at 823 (by decide +kernel)), tyX8_ok, nmX8, rfl, by decide +kernel⟩
theorem cnX7_48 : Cond.constant RX7 48 (-1000000001) ∈ gg_W := gg_at 334 (by decide +kernel)
theorem cnX7_286 : Cond.constant RX7 286 (-1000000000) ∈ gg_W := gg_at 339 (by decide +kernel)
theorem cnX7_57 : Cond.constant RX7 57 (-1000000004) ∈ gg_W := gg_at 340 (by decide +kernel)
theorem cnX7_103 : Cond.constant RX7 103 (-1000000005) ∈ gg_W := gg_at 398 (by decide +kernel)
theorem cnX7_110 : Cond.constant RX7 110 (-1000000003) ∈ gg_W := gg_at 418 (by decide +kernel)
theorem cnX2_107 : Cond.constant RX2 107 (99999) ∈ gg_W := gg_at 427 (by decide +kernel)
theorem cnX2_116 : Cond.constant RX2 116 (-99999) ∈ gg_W := gg_at 566 (by decide +kernel)
theorem cnX2_134 : Cond.constant RX2 134 (1103515245) ∈ gg_W := gg_at 581 (by decide +kernel)
theorem cnX7_184 : Cond.constant RX7 184 (-1000000002) ∈ gg_W := gg_at 633 (by decide +kernel)
theorem cnJ6_265 : Cond.constant RJ6 265 (1431655765) ∈ gg_W := gg_at 644 (by decide +kernel)
theorem cnJ6_266 : Cond.constant RJ6 266 (858993459) ∈ gg_W := gg_at 645 (by decide +kernel)
theorem cnJ6_267 : Cond.constant RJ6 267 (252645135) ∈ gg_W := gg_at 646 (by decide +kernel)
theorem cnJ6_264 : Cond.constant RJ6 264 (65536) ∈ gg_W := gg_at 696 (by decide +kernel)
theorem cnX7_227 : Cond.constant RX7 227 (-1000000006) ∈ gg_W := gg_at 720 (by decide +kernel)
theorem cnX4_28 : Cond.constant RX4 28 (65535) ∈ gg_W := gg_at 742 (by decide +kernel)
theorem cnX8_73 : Cond.constant RX8 73 (-1000000001) ∈ gg_W := gg_at 875 (by decide +kernel)
theorem cnX8_46 : Cond.constant RX8 46 (-1000000000) ∈ gg_W := gg_at 880 (by decide +kernel)
theorem cnX8_78 : Cond.constant RX8 78 (-1000000004) ∈ gg_W := gg_at 881 (by decide +kernel)
theorem cnX8_88 : Cond.constant RX8 88 (-1000000005) ∈ gg_W := gg_at 932 (by decide +kernel)
theorem cnX8_100 : Cond.constant RX8 100 (-1000000003) ∈ gg_W := gg_at 952 (by decide +kernel)
theorem cnX8_95 : Cond.constant RX8 95 (-99999) ∈ gg_W := gg_at 961 (by decide +kernel)
theorem cnX8_96 : Cond.constant RX8 96 (99999) ∈ gg_W := gg_at 962 (by decide +kernel)
theorem cnX8_174 : Cond.constant RX8 174 (1103515245) ∈ gg_W := gg_at 1056 (by decide +kernel)
theorem cnX8_190 : Cond.constant RX8 190 (-1000000002) ∈ gg_W := gg_at 1089 (by decide +kernel)
theorem cnX8_245 : Cond.constant RX8 245 (-1000000006) ∈ gg_W := gg_at 1175 (by decide +kernel)
theorem cnX8_104 : Cond.constantLong RX8 104 (255) ∈ gg_W := gg_at 967 (by decide +kernel)
theorem cnL_47 : Cond.constantLong RL 47 (4294967295) ∈ gg_W := gg_at 1235 (by decide +kernel)
theorem mm_max_s : Cond.static Lib.Math.max.name ∈ gg_W := gg_at 379 (by decide +kernel)
theorem mm_max_c : Cond.code Lib.Math.max.name Lib.Math.max.code 2 (some .int) ∈ gg_W := gg_at 380 (by decide +kernel)
theorem mm_min_s : Cond.static Lib.Math.min.name ∈ gg_W := gg_at 376 (by decide +kernel)
theorem mm_min_c : Cond.code Lib.Math.min.name Lib.Math.min.code 2 (some .int) ∈ gg_W := gg_at 377 (by decide +kernel)
theorem mm_i : Cond.initialized "java/lang/Math" ∈ gg_W := gg_at 92 (by decide +kernel)
theorem ac_n : Cond.native arraycopyName ∈ gg_W := gg_at 448 (by decide +kernel)
theorem ac_s : Cond.static arraycopyName ∈ gg_W := gg_at 447 (by decide +kernel)
theorem ac_i : Cond.initialized "java/lang/System" ∈ gg_W := gg_at 93 (by decide +kernel)
end LINKS
