section
-- ===== PART A: goes FIRST, ahead of the names: the tables' words, and 'selects' of the private methods out of them =====
/-- a private method of a class that the tables say can be made, by its rows of tables_1 -/
def lw_okq (q : MethodName × Nat) : Prop := (q.1.cls ≠ "java/lang/invoke/MethodHandle" ∧ q.1.cls ≠ "java/lang/invoke/VarHandle") ∧ Cond.instantiable q.1.cls q.2 ∈ tables_1 ∧ Cond.privateMethod q.1 ∈ tables_1 ∧ Cond.instanceMethod q.1 ∈ tables_1
theorem lw_p0 : lw_okq (⟨"StrawHouse$House", "become", "(LStrawHouse$House;)V"⟩, 17) := ⟨⟨by decide +kernel, by decide +kernel⟩, List.mem_of_getElem? (i := 18) (by decide +kernel), List.mem_of_getElem? (i := 195) (by decide +kernel), List.mem_of_getElem? (i := 196) (by decide +kernel)⟩
theorem lw_p1 : lw_okq (⟨"StrawHouse$House", "raise", "(IIII)I"⟩, 17) := ⟨⟨by decide +kernel, by decide +kernel⟩, List.mem_of_getElem? (i := 18) (by decide +kernel), List.mem_of_getElem? (i := 208) (by decide +kernel), List.mem_of_getElem? (i := 209) (by decide +kernel)⟩
theorem lw_p2 : lw_okq (⟨"StrawHouse", "recorded", "(I)I"⟩, 11) := ⟨⟨by decide +kernel, by decide +kernel⟩, List.mem_of_getElem? (i := 10) (by decide +kernel), List.mem_of_getElem? (i := 222) (by decide +kernel), List.mem_of_getElem? (i := 223) (by decide +kernel)⟩
theorem lw_p3 : lw_okq (⟨"StrawHouse$Past", "remember", "(LStrawHouse$House;)V"⟩, 2) := ⟨⟨by decide +kernel, by decide +kernel⟩, List.mem_of_getElem? (i := 90) (by decide +kernel), List.mem_of_getElem? (i := 226) (by decide +kernel), List.mem_of_getElem? (i := 227) (by decide +kernel)⟩
theorem lw_p4 : lw_okq (⟨"StrawHouse$Past", "dropOldest", "()V"⟩, 2) := ⟨⟨by decide +kernel, by decide +kernel⟩, List.mem_of_getElem? (i := 90) (by decide +kernel), List.mem_of_getElem? (i := 230) (by decide +kernel), List.mem_of_getElem? (i := 231) (by decide +kernel)⟩
theorem lw_p5 : lw_okq (⟨"StrawHouse$House", "bring", "(II)I"⟩, 17) := ⟨⟨by decide +kernel, by decide +kernel⟩, List.mem_of_getElem? (i := 18) (by decide +kernel), List.mem_of_getElem? (i := 239) (by decide +kernel), List.mem_of_getElem? (i := 240) (by decide +kernel)⟩
theorem lw_p6 : lw_okq (⟨"StrawHouse$House", "isScarecrow", "(I)Z"⟩, 17) := ⟨⟨by decide +kernel, by decide +kernel⟩, List.mem_of_getElem? (i := 18) (by decide +kernel), List.mem_of_getElem? (i := 243) (by decide +kernel), List.mem_of_getElem? (i := 244) (by decide +kernel)⟩
theorem lw_p7 : lw_okq (⟨"StrawHouse$House", "turnByHand", "(II)I"⟩, 17) := ⟨⟨by decide +kernel, by decide +kernel⟩, List.mem_of_getElem? (i := 18) (by decide +kernel), List.mem_of_getElem? (i := 251) (by decide +kernel), List.mem_of_getElem? (i := 252) (by decide +kernel)⟩
theorem lw_p8 : lw_okq (⟨"StrawHouse$House", "takeCrow", "(II)I"⟩, 17) := ⟨⟨by decide +kernel, by decide +kernel⟩, List.mem_of_getElem? (i := 18) (by decide +kernel), List.mem_of_getElem? (i := 259) (by decide +kernel), List.mem_of_getElem? (i := 260) (by decide +kernel)⟩
theorem lw_p9 : lw_okq (⟨"StrawHouse$House", "crowsOn", "(I)I"⟩, 17) := ⟨⟨by decide +kernel, by decide +kernel⟩, List.mem_of_getElem? (i := 18) (by decide +kernel), List.mem_of_getElem? (i := 263) (by decide +kernel), List.mem_of_getElem? (i := 264) (by decide +kernel)⟩
theorem lw_p10 : lw_okq (⟨"StrawHouse$House", "scareOff", "(I)I"⟩, 17) := ⟨⟨by decide +kernel, by decide +kernel⟩, List.mem_of_getElem? (i := 18) (by decide +kernel), List.mem_of_getElem? (i := 271) (by decide +kernel), List.mem_of_getElem? (i := 272) (by decide +kernel)⟩
theorem lw_p11 : lw_okq (⟨"StrawHouse$House", "letCrowsFly", "(I)V"⟩, 17) := ⟨⟨by decide +kernel, by decide +kernel⟩, List.mem_of_getElem? (i := 18) (by decide +kernel), List.mem_of_getElem? (i := 275) (by decide +kernel), List.mem_of_getElem? (i := 276) (by decide +kernel)⟩
theorem lw_p12 : lw_okq (⟨"StrawHouse$House", "stuff", "(II)I"⟩, 17) := ⟨⟨by decide +kernel, by decide +kernel⟩, List.mem_of_getElem? (i := 18) (by decide +kernel), List.mem_of_getElem? (i := 283) (by decide +kernel), List.mem_of_getElem? (i := 284) (by decide +kernel)⟩
theorem lw_p13 : lw_okq (⟨"StrawHouse$House", "giveSeats", "(II)I"⟩, 17) := ⟨⟨by decide +kernel, by decide +kernel⟩, List.mem_of_getElem? (i := 18) (by decide +kernel), List.mem_of_getElem? (i := 292) (by decide +kernel), List.mem_of_getElem? (i := 293) (by decide +kernel)⟩
theorem lw_p14 : lw_okq (⟨"StrawHouse$House", "blow", "(II)I"⟩, 17) := ⟨⟨by decide +kernel, by decide +kernel⟩, List.mem_of_getElem? (i := 18) (by decide +kernel), List.mem_of_getElem? (i := 300) (by decide +kernel), List.mem_of_getElem? (i := 301) (by decide +kernel)⟩
theorem lw_p15 : lw_okq (⟨"StrawHouse$House", "adjust", "(II)I"⟩, 17) := ⟨⟨by decide +kernel, by decide +kernel⟩, List.mem_of_getElem? (i := 18) (by decide +kernel), List.mem_of_getElem? (i := 308) (by decide +kernel), List.mem_of_getElem? (i := 309) (by decide +kernel)⟩
def lw_privs_1 : List (MethodName × Nat) := [(⟨"StrawHouse$House", "become", "(LStrawHouse$House;)V"⟩, 17), (⟨"StrawHouse$House", "raise", "(IIII)I"⟩, 17), (⟨"StrawHouse", "recorded", "(I)I"⟩, 11), (⟨"StrawHouse$Past", "remember", "(LStrawHouse$House;)V"⟩, 2), (⟨"StrawHouse$Past", "dropOldest", "()V"⟩, 2), (⟨"StrawHouse$House", "bring", "(II)I"⟩, 17), (⟨"StrawHouse$House", "isScarecrow", "(I)Z"⟩, 17), (⟨"StrawHouse$House", "turnByHand", "(II)I"⟩, 17), (⟨"StrawHouse$House", "takeCrow", "(II)I"⟩, 17), (⟨"StrawHouse$House", "crowsOn", "(I)I"⟩, 17), (⟨"StrawHouse$House", "scareOff", "(I)I"⟩, 17), (⟨"StrawHouse$House", "letCrowsFly", "(I)V"⟩, 17), (⟨"StrawHouse$House", "stuff", "(II)I"⟩, 17), (⟨"StrawHouse$House", "giveSeats", "(II)I"⟩, 17), (⟨"StrawHouse$House", "blow", "(II)I"⟩, 17), (⟨"StrawHouse$House", "adjust", "(II)I"⟩, 17)]
theorem lw_r1 : ∀ q ∈ lw_privs_1, lw_okq q := List.forall_mem_cons.mpr ⟨lw_p0, List.forall_mem_cons.mpr ⟨lw_p1, List.forall_mem_cons.mpr ⟨lw_p2, List.forall_mem_cons.mpr ⟨lw_p3, List.forall_mem_cons.mpr ⟨lw_p4, List.forall_mem_cons.mpr ⟨lw_p5, List.forall_mem_cons.mpr ⟨lw_p6, List.forall_mem_cons.mpr ⟨lw_p7, List.forall_mem_cons.mpr ⟨lw_p8, List.forall_mem_cons.mpr ⟨lw_p9, List.forall_mem_cons.mpr ⟨lw_p10, List.forall_mem_cons.mpr ⟨lw_p11, List.forall_mem_cons.mpr ⟨lw_p12, List.forall_mem_cons.mpr ⟨lw_p13, List.forall_mem_cons.mpr ⟨lw_p14, List.forall_mem_cons.mpr ⟨lw_p15, fun _ h => absurd h List.not_mem_nil⟩⟩⟩⟩⟩⟩⟩⟩⟩⟩⟩⟩⟩⟩⟩⟩
theorem lw_p16 : lw_okq (⟨"StrawHouse$Ballot", "decide", "(LStrawHouse$House;)I"⟩, 3) := ⟨⟨by decide +kernel, by decide +kernel⟩, List.mem_of_getElem? (i := 138) (by decide +kernel), List.mem_of_getElem? (i := 316) (by decide +kernel), List.mem_of_getElem? (i := 317) (by decide +kernel)⟩
theorem lw_p17 : lw_okq (⟨"StrawHouse$Ballot", "poll", "(LStrawHouse$House;)V"⟩, 3) := ⟨⟨by decide +kernel, by decide +kernel⟩, List.mem_of_getElem? (i := 138) (by decide +kernel), List.mem_of_getElem? (i := 320) (by decide +kernel), List.mem_of_getElem? (i := 321) (by decide +kernel)⟩
theorem lw_p18 : lw_okq (⟨"StrawHouse$Ballot", "voteOf", "(LStrawHouse$House;I)I"⟩, 3) := ⟨⟨by decide +kernel, by decide +kernel⟩, List.mem_of_getElem? (i := 138) (by decide +kernel), List.mem_of_getElem? (i := 324) (by decide +kernel), List.mem_of_getElem? (i := 325) (by decide +kernel)⟩
theorem lw_p19 : lw_okq (⟨"StrawHouse$Ballot", "speakerOf", "(LStrawHouse$House;I)I"⟩, 3) := ⟨⟨by decide +kernel, by decide +kernel⟩, List.mem_of_getElem? (i := 138) (by decide +kernel), List.mem_of_getElem? (i := 328) (by decide +kernel), List.mem_of_getElem? (i := 329) (by decide +kernel)⟩
theorem lw_p20 : lw_okq (⟨"StrawHouse$Ballot", "weigh", "(LStrawHouse$House;I)V"⟩, 3) := ⟨⟨by decide +kernel, by decide +kernel⟩, List.mem_of_getElem? (i := 138) (by decide +kernel), List.mem_of_getElem? (i := 335) (by decide +kernel), List.mem_of_getElem? (i := 336) (by decide +kernel)⟩
theorem lw_p21 : lw_okq (⟨"StrawHouse$House", "strawAsFloat", "(I)F"⟩, 17) := ⟨⟨by decide +kernel, by decide +kernel⟩, List.mem_of_getElem? (i := 18) (by decide +kernel), List.mem_of_getElem? (i := 339) (by decide +kernel), List.mem_of_getElem? (i := 340) (by decide +kernel)⟩
theorem lw_p22 : lw_okq (⟨"StrawHouse$House", "lobbyFor", "(II)F"⟩, 17) := ⟨⟨by decide +kernel, by decide +kernel⟩, List.mem_of_getElem? (i := 18) (by decide +kernel), List.mem_of_getElem? (i := 344) (by decide +kernel), List.mem_of_getElem? (i := 345) (by decide +kernel)⟩
theorem lw_p23 : lw_okq (⟨"StrawHouse$Ballot", "greatestWeight", "()F"⟩, 3) := ⟨⟨by decide +kernel, by decide +kernel⟩, List.mem_of_getElem? (i := 138) (by decide +kernel), List.mem_of_getElem? (i := 349) (by decide +kernel), List.mem_of_getElem? (i := 350) (by decide +kernel)⟩
theorem lw_p24 : lw_okq (⟨"StrawHouse$Ballot", "lowestOf", "(F)I"⟩, 3) := ⟨⟨by decide +kernel, by decide +kernel⟩, List.mem_of_getElem? (i := 138) (by decide +kernel), List.mem_of_getElem? (i := 353) (by decide +kernel), List.mem_of_getElem? (i := 354) (by decide +kernel)⟩
theorem lw_p25 : lw_okq (⟨"StrawHouse$Ballot", "bySeats", "(LStrawHouse$House;)I"⟩, 3) := ⟨⟨by decide +kernel, by decide +kernel⟩, List.mem_of_getElem? (i := 138) (by decide +kernel), List.mem_of_getElem? (i := 357) (by decide +kernel), List.mem_of_getElem? (i := 358) (by decide +kernel)⟩
theorem lw_p26 : lw_okq (⟨"StrawHouse$Ballot", "hasMajority", "(LStrawHouse$House;I)Z"⟩, 3) := ⟨⟨by decide +kernel, by decide +kernel⟩, List.mem_of_getElem? (i := 138) (by decide +kernel), List.mem_of_getElem? (i := 361) (by decide +kernel), List.mem_of_getElem? (i := 362) (by decide +kernel)⟩
theorem lw_p27 : lw_okq (⟨"StrawHouse$House", "countVote", "(I)I"⟩, 17) := ⟨⟨by decide +kernel, by decide +kernel⟩, List.mem_of_getElem? (i := 18) (by decide +kernel), List.mem_of_getElem? (i := 368) (by decide +kernel), List.mem_of_getElem? (i := 369) (by decide +kernel)⟩
theorem lw_p28 : lw_okq (⟨"StrawHouse$House", "goOn", "(I)I"⟩, 17) := ⟨⟨by decide +kernel, by decide +kernel⟩, List.mem_of_getElem? (i := 18) (by decide +kernel), List.mem_of_getElem? (i := 376) (by decide +kernel), List.mem_of_getElem? (i := 377) (by decide +kernel)⟩
theorem lw_p29 : lw_okq (⟨"StrawHouse$House", "doTicks", "(I)I"⟩, 17) := ⟨⟨by decide +kernel, by decide +kernel⟩, List.mem_of_getElem? (i := 18) (by decide +kernel), List.mem_of_getElem? (i := 381) (by decide +kernel), List.mem_of_getElem? (i := 382) (by decide +kernel)⟩
theorem lw_p30 : lw_okq (⟨"StrawHouse$House", "doTick", "()I"⟩, 17) := ⟨⟨by decide +kernel, by decide +kernel⟩, List.mem_of_getElem? (i := 18) (by decide +kernel), List.mem_of_getElem? (i := 385) (by decide +kernel), List.mem_of_getElem? (i := 386) (by decide +kernel)⟩
theorem lw_p31 : lw_okq (⟨"StrawHouse$House", "turnByWind", "(I)I"⟩, 17) := ⟨⟨by decide +kernel, by decide +kernel⟩, List.mem_of_getElem? (i := 18) (by decide +kernel), List.mem_of_getElem? (i := 389) (by decide +kernel), List.mem_of_getElem? (i := 390) (by decide +kernel)⟩
def lw_privs_2 : List (MethodName × Nat) := [(⟨"StrawHouse$Ballot", "decide", "(LStrawHouse$House;)I"⟩, 3), (⟨"StrawHouse$Ballot", "poll", "(LStrawHouse$House;)V"⟩, 3), (⟨"StrawHouse$Ballot", "voteOf", "(LStrawHouse$House;I)I"⟩, 3), (⟨"StrawHouse$Ballot", "speakerOf", "(LStrawHouse$House;I)I"⟩, 3), (⟨"StrawHouse$Ballot", "weigh", "(LStrawHouse$House;I)V"⟩, 3), (⟨"StrawHouse$House", "strawAsFloat", "(I)F"⟩, 17), (⟨"StrawHouse$House", "lobbyFor", "(II)F"⟩, 17), (⟨"StrawHouse$Ballot", "greatestWeight", "()F"⟩, 3), (⟨"StrawHouse$Ballot", "lowestOf", "(F)I"⟩, 3), (⟨"StrawHouse$Ballot", "bySeats", "(LStrawHouse$House;)I"⟩, 3), (⟨"StrawHouse$Ballot", "hasMajority", "(LStrawHouse$House;I)Z"⟩, 3), (⟨"StrawHouse$House", "countVote", "(I)I"⟩, 17), (⟨"StrawHouse$House", "goOn", "(I)I"⟩, 17), (⟨"StrawHouse$House", "doTicks", "(I)I"⟩, 17), (⟨"StrawHouse$House", "doTick", "()I"⟩, 17), (⟨"StrawHouse$House", "turnByWind", "(I)I"⟩, 17)]
theorem lw_r2 : ∀ q ∈ lw_privs_2, lw_okq q := List.forall_mem_cons.mpr ⟨lw_p16, List.forall_mem_cons.mpr ⟨lw_p17, List.forall_mem_cons.mpr ⟨lw_p18, List.forall_mem_cons.mpr ⟨lw_p19, List.forall_mem_cons.mpr ⟨lw_p20, List.forall_mem_cons.mpr ⟨lw_p21, List.forall_mem_cons.mpr ⟨lw_p22, List.forall_mem_cons.mpr ⟨lw_p23, List.forall_mem_cons.mpr ⟨lw_p24, List.forall_mem_cons.mpr ⟨lw_p25, List.forall_mem_cons.mpr ⟨lw_p26, List.forall_mem_cons.mpr ⟨lw_p27, List.forall_mem_cons.mpr ⟨lw_p28, List.forall_mem_cons.mpr ⟨lw_p29, List.forall_mem_cons.mpr ⟨lw_p30, List.forall_mem_cons.mpr ⟨lw_p31, fun _ h => absurd h List.not_mem_nil⟩⟩⟩⟩⟩⟩⟩⟩⟩⟩⟩⟩⟩⟩⟩⟩
theorem lw_p32 : lw_okq (⟨"StrawHouse$House", "pluck", "(I)V"⟩, 17) := ⟨⟨by decide +kernel, by decide +kernel⟩, List.mem_of_getElem? (i := 18) (by decide +kernel), List.mem_of_getElem? (i := 393) (by decide +kernel), List.mem_of_getElem? (i := 394) (by decide +kernel)⟩
theorem lw_p33 : lw_okq (⟨"StrawHouse$House", "shiftWind", "()V"⟩, 17) := ⟨⟨by decide +kernel, by decide +kernel⟩, List.mem_of_getElem? (i := 18) (by decide +kernel), List.mem_of_getElem? (i := 397) (by decide +kernel), List.mem_of_getElem? (i := 398) (by decide +kernel)⟩
theorem lw_p34 : lw_okq (⟨"StrawHouse$Sitting", "append", "(C)I"⟩, 7) := ⟨⟨by decide +kernel, by decide +kernel⟩, List.mem_of_getElem? (i := 107) (by decide +kernel), List.mem_of_getElem? (i := 405) (by decide +kernel), List.mem_of_getElem? (i := 406) (by decide +kernel)⟩
theorem lw_p35 : lw_okq (⟨"StrawHouse$Sitting", "empty", "()I"⟩, 7) := ⟨⟨by decide +kernel, by decide +kernel⟩, List.mem_of_getElem? (i := 107) (by decide +kernel), List.mem_of_getElem? (i := 413) (by decide +kernel), List.mem_of_getElem? (i := 414) (by decide +kernel)⟩
theorem lw_p36 : lw_okq (⟨"StrawHouse$Sitting", "read", "()I"⟩, 7) := ⟨⟨by decide +kernel, by decide +kernel⟩, List.mem_of_getElem? (i := 107) (by decide +kernel), List.mem_of_getElem? (i := 421) (by decide +kernel), List.mem_of_getElem? (i := 422) (by decide +kernel)⟩
theorem lw_p37 : lw_okq (⟨"StrawHouse$Sitting", "readThing", "()Z"⟩, 7) := ⟨⟨by decide +kernel, by decide +kernel⟩, List.mem_of_getElem? (i := 107) (by decide +kernel), List.mem_of_getElem? (i := 425) (by decide +kernel), List.mem_of_getElem? (i := 426) (by decide +kernel)⟩
theorem lw_p38 : lw_okq (⟨"StrawHouse$Sitting", "characterAt", "(I)I"⟩, 7) := ⟨⟨by decide +kernel, by decide +kernel⟩, List.mem_of_getElem? (i := 107) (by decide +kernel), List.mem_of_getElem? (i := 429) (by decide +kernel), List.mem_of_getElem? (i := 430) (by decide +kernel)⟩
theorem lw_p39 : lw_okq (⟨"StrawHouse$Sitting", "readPair", "(IIII)Z"⟩, 7) := ⟨⟨by decide +kernel, by decide +kernel⟩, List.mem_of_getElem? (i := 107) (by decide +kernel), List.mem_of_getElem? (i := 433) (by decide +kernel), List.mem_of_getElem? (i := 434) (by decide +kernel)⟩
theorem lw_p40 : lw_okq (⟨"StrawHouse$Sitting", "readNumber", "(II)I"⟩, 7) := ⟨⟨by decide +kernel, by decide +kernel⟩, List.mem_of_getElem? (i := 107) (by decide +kernel), List.mem_of_getElem? (i := 437) (by decide +kernel), List.mem_of_getElem? (i := 438) (by decide +kernel)⟩
theorem lw_p41 : lw_okq (⟨"StrawHouse$Sitting", "digitAt", "(I)I"⟩, 7) := ⟨⟨by decide +kernel, by decide +kernel⟩, List.mem_of_getElem? (i := 107) (by decide +kernel), List.mem_of_getElem? (i := 441) (by decide +kernel), List.mem_of_getElem? (i := 442) (by decide +kernel)⟩
theorem lw_p42 : lw_okq (⟨"StrawHouse$Sitting", "readSign", "(I)Z"⟩, 7) := ⟨⟨by decide +kernel, by decide +kernel⟩, List.mem_of_getElem? (i := 107) (by decide +kernel), List.mem_of_getElem? (i := 446) (by decide +kernel), List.mem_of_getElem? (i := 447) (by decide +kernel)⟩
theorem lw_p43 : lw_okq (⟨"StrawHouse$Sitting", "add", "(III)Z"⟩, 7) := ⟨⟨by decide +kernel, by decide +kernel⟩, List.mem_of_getElem? (i := 107) (by decide +kernel), List.mem_of_getElem? (i := 450) (by decide +kernel), List.mem_of_getElem? (i := 451) (by decide +kernel)⟩
theorem lw_p44 : lw_okq (⟨"StrawHouse$Sitting", "readVote", "()Z"⟩, 7) := ⟨⟨by decide +kernel, by decide +kernel⟩, List.mem_of_getElem? (i := 107) (by decide +kernel), List.mem_of_getElem? (i := 454) (by decide +kernel), List.mem_of_getElem? (i := 455) (by decide +kernel)⟩
theorem lw_p45 : lw_okq (⟨"StrawHouse$Sitting", "readTicks", "()Z"⟩, 7) := ⟨⟨by decide +kernel, by decide +kernel⟩, List.mem_of_getElem? (i := 107) (by decide +kernel), List.mem_of_getElem? (i := 458) (by decide +kernel), List.mem_of_getElem? (i := 459) (by decide +kernel)⟩
theorem lw_p46 : lw_okq (⟨"StrawHouse", "doThing", "(I)I"⟩, 11) := ⟨⟨by decide +kernel, by decide +kernel⟩, List.mem_of_getElem? (i := 10) (by decide +kernel), List.mem_of_getElem? (i := 462) (by decide +kernel), List.mem_of_getElem? (i := 463) (by decide +kernel)⟩
theorem lw_p47 : lw_okq (⟨"StrawHouse$Sitting", "firstOf", "(I)I"⟩, 7) := ⟨⟨by decide +kernel, by decide +kernel⟩, List.mem_of_getElem? (i := 107) (by decide +kernel), List.mem_of_getElem? (i := 466) (by decide +kernel), List.mem_of_getElem? (i := 467) (by decide +kernel)⟩
def lw_privs_3 : List (MethodName × Nat) := [(⟨"StrawHouse$House", "pluck", "(I)V"⟩, 17), (⟨"StrawHouse$House", "shiftWind", "()V"⟩, 17), (⟨"StrawHouse$Sitting", "append", "(C)I"⟩, 7), (⟨"StrawHouse$Sitting", "empty", "()I"⟩, 7), (⟨"StrawHouse$Sitting", "read", "()I"⟩, 7), (⟨"StrawHouse$Sitting", "readThing", "()Z"⟩, 7), (⟨"StrawHouse$Sitting", "characterAt", "(I)I"⟩, 7), (⟨"StrawHouse$Sitting", "readPair", "(IIII)Z"⟩, 7), (⟨"StrawHouse$Sitting", "readNumber", "(II)I"⟩, 7), (⟨"StrawHouse$Sitting", "digitAt", "(I)I"⟩, 7), (⟨"StrawHouse$Sitting", "readSign", "(I)Z"⟩, 7), (⟨"StrawHouse$Sitting", "add", "(III)Z"⟩, 7), (⟨"StrawHouse$Sitting", "readVote", "()Z"⟩, 7), (⟨"StrawHouse$Sitting", "readTicks", "()Z"⟩, 7), (⟨"StrawHouse", "doThing", "(I)I"⟩, 11), (⟨"StrawHouse$Sitting", "firstOf", "(I)I"⟩, 7)]
theorem lw_r3 : ∀ q ∈ lw_privs_3, lw_okq q := List.forall_mem_cons.mpr ⟨lw_p32, List.forall_mem_cons.mpr ⟨lw_p33, List.forall_mem_cons.mpr ⟨lw_p34, List.forall_mem_cons.mpr ⟨lw_p35, List.forall_mem_cons.mpr ⟨lw_p36, List.forall_mem_cons.mpr ⟨lw_p37, List.forall_mem_cons.mpr ⟨lw_p38, List.forall_mem_cons.mpr ⟨lw_p39, List.forall_mem_cons.mpr ⟨lw_p40, List.forall_mem_cons.mpr ⟨lw_p41, List.forall_mem_cons.mpr ⟨lw_p42, List.forall_mem_cons.mpr ⟨lw_p43, List.forall_mem_cons.mpr ⟨lw_p44, List.forall_mem_cons.mpr ⟨lw_p45, List.forall_mem_cons.mpr ⟨lw_p46, List.forall_mem_cons.mpr ⟨lw_p47, fun _ h => absurd h List.not_mem_nil⟩⟩⟩⟩⟩⟩⟩⟩⟩⟩⟩⟩⟩⟩⟩⟩
theorem lw_p48 : lw_okq (⟨"StrawHouse$Sitting", "secondOf", "(I)I"⟩, 7) := ⟨⟨by decide +kernel, by decide +kernel⟩, List.mem_of_getElem? (i := 107) (by decide +kernel), List.mem_of_getElem? (i := 470) (by decide +kernel), List.mem_of_getElem? (i := 471) (by decide +kernel)⟩
theorem lw_p49 : lw_okq (⟨"StrawHouse$Sitting", "kindOf", "(I)I"⟩, 7) := ⟨⟨by decide +kernel, by decide +kernel⟩, List.mem_of_getElem? (i := 107) (by decide +kernel), List.mem_of_getElem? (i := 474) (by decide +kernel), List.mem_of_getElem? (i := 475) (by decide +kernel)⟩
theorem lw_p50 : lw_okq (⟨"StrawHouse$Past", "bringBack", "(LStrawHouse$House;)I"⟩, 2) := ⟨⟨by decide +kernel, by decide +kernel⟩, List.mem_of_getElem? (i := 90) (by decide +kernel), List.mem_of_getElem? (i := 489) (by decide +kernel), List.mem_of_getElem? (i := 490) (by decide +kernel)⟩
theorem lw_p51 : lw_okq (⟨"StrawHouse$House", "tellScarecrow", "(II)I"⟩, 17) := ⟨⟨by decide +kernel, by decide +kernel⟩, List.mem_of_getElem? (i := 18) (by decide +kernel), List.mem_of_getElem? (i := 505) (by decide +kernel), List.mem_of_getElem? (i := 506) (by decide +kernel)⟩
theorem lw_p52 : lw_okq (⟨"StrawHouse$House", "standingIn", "(I)I"⟩, 17) := ⟨⟨by decide +kernel, by decide +kernel⟩, List.mem_of_getElem? (i := 18) (by decide +kernel), List.mem_of_getElem? (i := 527) (by decide +kernel), List.mem_of_getElem? (i := 528) (by decide +kernel)⟩
theorem lw_p53 : lw_okq (⟨"StrawHouse$Ballot", "reasonOf", "(LStrawHouse$House;I)I"⟩, 3) := ⟨⟨by decide +kernel, by decide +kernel⟩, List.mem_of_getElem? (i := 138) (by decide +kernel), List.mem_of_getElem? (i := 537) (by decide +kernel), List.mem_of_getElem? (i := 538) (by decide +kernel)⟩
theorem lw_p54 : lw_okq (⟨"StrawHouse$Ballot", "howManyOf", "(F)I"⟩, 3) := ⟨⟨by decide +kernel, by decide +kernel⟩, List.mem_of_getElem? (i := 138) (by decide +kernel), List.mem_of_getElem? (i := 541) (by decide +kernel), List.mem_of_getElem? (i := 542) (by decide +kernel)⟩
theorem lw_p55 : lw_okq (⟨"StrawHouse$Ballot", "decideByPairs", "(LStrawHouse$House;)I"⟩, 3) := ⟨⟨by decide +kernel, by decide +kernel⟩, List.mem_of_getElem? (i := 138) (by decide +kernel), List.mem_of_getElem? (i := 549) (by decide +kernel), List.mem_of_getElem? (i := 550) (by decide +kernel)⟩
theorem lw_p56 : lw_okq (⟨"StrawHouse$Ballot", "leftByPairs", "(LStrawHouse$House;)I"⟩, 3) := ⟨⟨by decide +kernel, by decide +kernel⟩, List.mem_of_getElem? (i := 138) (by decide +kernel), List.mem_of_getElem? (i := 553) (by decide +kernel), List.mem_of_getElem? (i := 554) (by decide +kernel)⟩
theorem lw_p57 : lw_okq (⟨"StrawHouse", "couldSwing", "(II)Z"⟩, 11) := ⟨⟨by decide +kernel, by decide +kernel⟩, List.mem_of_getElem? (i := 10) (by decide +kernel), List.mem_of_getElem? (i := 562) (by decide +kernel), List.mem_of_getElem? (i := 563) (by decide +kernel)⟩
theorem lw_p58 : lw_okq (⟨"StrawHouse$House", "tellCount", "(I)I"⟩, 17) := ⟨⟨by decide +kernel, by decide +kernel⟩, List.mem_of_getElem? (i := 18) (by decide +kernel), List.mem_of_getElem? (i := 586) (by decide +kernel), List.mem_of_getElem? (i := 587) (by decide +kernel)⟩
theorem lw_p59 : lw_okq (⟨"StrawHouseModel", "putAside", "()V"⟩, 14) := ⟨⟨by decide +kernel, by decide +kernel⟩, List.mem_of_getElem? (i := 591) (by decide +kernel), List.mem_of_getElem? (i := 652) (by decide +kernel), List.mem_of_getElem? (i := 653) (by decide +kernel)⟩
theorem lw_p60 : lw_okq (⟨"StrawHouseModel", "push", "()V"⟩, 14) := ⟨⟨by decide +kernel, by decide +kernel⟩, List.mem_of_getElem? (i := 591) (by decide +kernel), List.mem_of_getElem? (i := 656) (by decide +kernel), List.mem_of_getElem? (i := 657) (by decide +kernel)⟩
theorem lw_p61 : lw_okq (⟨"StrawHouseModel", "setOf", "(III)V"⟩, 14) := ⟨⟨by decide +kernel, by decide +kernel⟩, List.mem_of_getElem? (i := 591) (by decide +kernel), List.mem_of_getElem? (i := 673) (by decide +kernel), List.mem_of_getElem? (i := 674) (by decide +kernel)⟩
theorem lw_p62 : lw_okq (⟨"StrawHouseModel", "recorded", "(I)I"⟩, 14) := ⟨⟨by decide +kernel, by decide +kernel⟩, List.mem_of_getElem? (i := 591) (by decide +kernel), List.mem_of_getElem? (i := 677) (by decide +kernel), List.mem_of_getElem? (i := 678) (by decide +kernel)⟩
theorem lw_p63 : lw_okq (⟨"StrawHouseModel", "isScarecrow", "(I)Z"⟩, 14) := ⟨⟨by decide +kernel, by decide +kernel⟩, List.mem_of_getElem? (i := 591) (by decide +kernel), List.mem_of_getElem? (i := 688) (by decide +kernel), List.mem_of_getElem? (i := 689) (by decide +kernel)⟩
def lw_privs_4 : List (MethodName × Nat) := [(⟨"StrawHouse$Sitting", "secondOf", "(I)I"⟩, 7), (⟨"StrawHouse$Sitting", "kindOf", "(I)I"⟩, 7), (⟨"StrawHouse$Past", "bringBack", "(LStrawHouse$House;)I"⟩, 2), (⟨"StrawHouse$House", "tellScarecrow", "(II)I"⟩, 17), (⟨"StrawHouse$House", "standingIn", "(I)I"⟩, 17), (⟨"StrawHouse$Ballot", "reasonOf", "(LStrawHouse$House;I)I"⟩, 3), (⟨"StrawHouse$Ballot", "howManyOf", "(F)I"⟩, 3), (⟨"StrawHouse$Ballot", "decideByPairs", "(LStrawHouse$House;)I"⟩, 3), (⟨"StrawHouse$Ballot", "leftByPairs", "(LStrawHouse$House;)I"⟩, 3), (⟨"StrawHouse", "couldSwing", "(II)Z"⟩, 11), (⟨"StrawHouse$House", "tellCount", "(I)I"⟩, 17), (⟨"StrawHouseModel", "putAside", "()V"⟩, 14), (⟨"StrawHouseModel", "push", "()V"⟩, 14), (⟨"StrawHouseModel", "setOf", "(III)V"⟩, 14), (⟨"StrawHouseModel", "recorded", "(I)I"⟩, 14), (⟨"StrawHouseModel", "isScarecrow", "(I)Z"⟩, 14)]
theorem lw_r4 : ∀ q ∈ lw_privs_4, lw_okq q := List.forall_mem_cons.mpr ⟨lw_p48, List.forall_mem_cons.mpr ⟨lw_p49, List.forall_mem_cons.mpr ⟨lw_p50, List.forall_mem_cons.mpr ⟨lw_p51, List.forall_mem_cons.mpr ⟨lw_p52, List.forall_mem_cons.mpr ⟨lw_p53, List.forall_mem_cons.mpr ⟨lw_p54, List.forall_mem_cons.mpr ⟨lw_p55, List.forall_mem_cons.mpr ⟨lw_p56, List.forall_mem_cons.mpr ⟨lw_p57, List.forall_mem_cons.mpr ⟨lw_p58, List.forall_mem_cons.mpr ⟨lw_p59, List.forall_mem_cons.mpr ⟨lw_p60, List.forall_mem_cons.mpr ⟨lw_p61, List.forall_mem_cons.mpr ⟨lw_p62, List.forall_mem_cons.mpr ⟨lw_p63, fun _ h => absurd h List.not_mem_nil⟩⟩⟩⟩⟩⟩⟩⟩⟩⟩⟩⟩⟩⟩⟩⟩
theorem lw_p64 : lw_okq (⟨"StrawHouseModel", "of", "(II)I"⟩, 14) := ⟨⟨by decide +kernel, by decide +kernel⟩, List.mem_of_getElem? (i := 591) (by decide +kernel), List.mem_of_getElem? (i := 692) (by decide +kernel), List.mem_of_getElem? (i := 693) (by decide +kernel)⟩
theorem lw_p65 : lw_okq (⟨"StrawHouseModel", "doCrow", "(II)I"⟩, 14) := ⟨⟨by decide +kernel, by decide +kernel⟩, List.mem_of_getElem? (i := 591) (by decide +kernel), List.mem_of_getElem? (i := 704) (by decide +kernel), List.mem_of_getElem? (i := 705) (by decide +kernel)⟩
theorem lw_p66 : lw_okq (⟨"StrawHouseModel", "crowsOn", "(I)I"⟩, 14) := ⟨⟨by decide +kernel, by decide +kernel⟩, List.mem_of_getElem? (i := 591) (by decide +kernel), List.mem_of_getElem? (i := 708) (by decide +kernel), List.mem_of_getElem? (i := 709) (by decide +kernel)⟩
theorem lw_p67 : lw_okq (⟨"StrawHouseModel", "flyOff", "(I)V"⟩, 14) := ⟨⟨by decide +kernel, by decide +kernel⟩, List.mem_of_getElem? (i := 591) (by decide +kernel), List.mem_of_getElem? (i := 716) (by decide +kernel), List.mem_of_getElem? (i := 717) (by decide +kernel)⟩
theorem lw_p68 : lw_okq (⟨"StrawHouseModel", "doFill", "(II)I"⟩, 14) := ⟨⟨by decide +kernel, by decide +kernel⟩, List.mem_of_getElem? (i := 591) (by decide +kernel), List.mem_of_getElem? (i := 724) (by decide +kernel), List.mem_of_getElem? (i := 725) (by decide +kernel)⟩
theorem lw_p69 : lw_okq (⟨"StrawHouseModel", "doWind", "(II)I"⟩, 14) := ⟨⟨by decide +kernel, by decide +kernel⟩, List.mem_of_getElem? (i := 591) (by decide +kernel), List.mem_of_getElem? (i := 736) (by decide +kernel), List.mem_of_getElem? (i := 737) (by decide +kernel)⟩
theorem lw_p70 : lw_okq (⟨"StrawHouseModel", "doVote", "()I"⟩, 14) := ⟨⟨by decide +kernel, by decide +kernel⟩, List.mem_of_getElem? (i := 591) (by decide +kernel), List.mem_of_getElem? (i := 748) (by decide +kernel), List.mem_of_getElem? (i := 749) (by decide +kernel)⟩
theorem lw_p71 : lw_okq (⟨"StrawHouseModel", "decides", "(I)I"⟩, 14) := ⟨⟨by decide +kernel, by decide +kernel⟩, List.mem_of_getElem? (i := 591) (by decide +kernel), List.mem_of_getElem? (i := 752) (by decide +kernel), List.mem_of_getElem? (i := 753) (by decide +kernel)⟩
theorem lw_p72 : lw_okq (⟨"StrawHouseModel", "votes", "(II)I"⟩, 14) := ⟨⟨by decide +kernel, by decide +kernel⟩, List.mem_of_getElem? (i := 591) (by decide +kernel), List.mem_of_getElem? (i := 756) (by decide +kernel), List.mem_of_getElem? (i := 757) (by decide +kernel)⟩
theorem lw_p73 : lw_okq (⟨"StrawHouseModel", "leaders", "(II)I"⟩, 14) := ⟨⟨by decide +kernel, by decide +kernel⟩, List.mem_of_getElem? (i := 591) (by decide +kernel), List.mem_of_getElem? (i := 760) (by decide +kernel), List.mem_of_getElem? (i := 761) (by decide +kernel)⟩
theorem lw_p74 : lw_okq (⟨"StrawHouseModel", "greatest", "(II)I"⟩, 14) := ⟨⟨by decide +kernel, by decide +kernel⟩, List.mem_of_getElem? (i := 591) (by decide +kernel), List.mem_of_getElem? (i := 764) (by decide +kernel), List.mem_of_getElem? (i := 765) (by decide +kernel)⟩
theorem lw_p75 : lw_okq (⟨"StrawHouseModel", "weighs", "(III)I"⟩, 14) := ⟨⟨by decide +kernel, by decide +kernel⟩, List.mem_of_getElem? (i := 591) (by decide +kernel), List.mem_of_getElem? (i := 768) (by decide +kernel), List.mem_of_getElem? (i := 769) (by decide +kernel)⟩
theorem lw_p76 : lw_okq (⟨"StrawHouseModel", "speaker", "(I)I"⟩, 14) := ⟨⟨by decide +kernel, by decide +kernel⟩, List.mem_of_getElem? (i := 591) (by decide +kernel), List.mem_of_getElem? (i := 772) (by decide +kernel), List.mem_of_getElem? (i := 773) (by decide +kernel)⟩
theorem lw_p77 : lw_okq (⟨"StrawHouseModel", "allSeats", "()I"⟩, 14) := ⟨⟨by decide +kernel, by decide +kernel⟩, List.mem_of_getElem? (i := 591) (by decide +kernel), List.mem_of_getElem? (i := 779) (by decide +kernel), List.mem_of_getElem? (i := 780) (by decide +kernel)⟩
theorem lw_p78 : lw_okq (⟨"StrawHouseModel", "doPass", "(I)I"⟩, 14) := ⟨⟨by decide +kernel, by decide +kernel⟩, List.mem_of_getElem? (i := 591) (by decide +kernel), List.mem_of_getElem? (i := 787) (by decide +kernel), List.mem_of_getElem? (i := 788) (by decide +kernel)⟩
theorem lw_p79 : lw_okq (⟨"StrawHouseModel", "passMany", "(I)I"⟩, 14) := ⟨⟨by decide +kernel, by decide +kernel⟩, List.mem_of_getElem? (i := 591) (by decide +kernel), List.mem_of_getElem? (i := 792) (by decide +kernel), List.mem_of_getElem? (i := 793) (by decide +kernel)⟩
def lw_privs_5 : List (MethodName × Nat) := [(⟨"StrawHouseModel", "of", "(II)I"⟩, 14), (⟨"StrawHouseModel", "doCrow", "(II)I"⟩, 14), (⟨"StrawHouseModel", "crowsOn", "(I)I"⟩, 14), (⟨"StrawHouseModel", "flyOff", "(I)V"⟩, 14), (⟨"StrawHouseModel", "doFill", "(II)I"⟩, 14), (⟨"StrawHouseModel", "doWind", "(II)I"⟩, 14), (⟨"StrawHouseModel", "doVote", "()I"⟩, 14), (⟨"StrawHouseModel", "decides", "(I)I"⟩, 14), (⟨"StrawHouseModel", "votes", "(II)I"⟩, 14), (⟨"StrawHouseModel", "leaders", "(II)I"⟩, 14), (⟨"StrawHouseModel", "greatest", "(II)I"⟩, 14), (⟨"StrawHouseModel", "weighs", "(III)I"⟩, 14), (⟨"StrawHouseModel", "speaker", "(I)I"⟩, 14), (⟨"StrawHouseModel", "allSeats", "()I"⟩, 14), (⟨"StrawHouseModel", "doPass", "(I)I"⟩, 14), (⟨"StrawHouseModel", "passMany", "(I)I"⟩, 14)]
theorem lw_r5 : ∀ q ∈ lw_privs_5, lw_okq q := List.forall_mem_cons.mpr ⟨lw_p64, List.forall_mem_cons.mpr ⟨lw_p65, List.forall_mem_cons.mpr ⟨lw_p66, List.forall_mem_cons.mpr ⟨lw_p67, List.forall_mem_cons.mpr ⟨lw_p68, List.forall_mem_cons.mpr ⟨lw_p69, List.forall_mem_cons.mpr ⟨lw_p70, List.forall_mem_cons.mpr ⟨lw_p71, List.forall_mem_cons.mpr ⟨lw_p72, List.forall_mem_cons.mpr ⟨lw_p73, List.forall_mem_cons.mpr ⟨lw_p74, List.forall_mem_cons.mpr ⟨lw_p75, List.forall_mem_cons.mpr ⟨lw_p76, List.forall_mem_cons.mpr ⟨lw_p77, List.forall_mem_cons.mpr ⟨lw_p78, List.forall_mem_cons.mpr ⟨lw_p79, fun _ h => absurd h List.not_mem_nil⟩⟩⟩⟩⟩⟩⟩⟩⟩⟩⟩⟩⟩⟩⟩⟩
theorem lw_p80 : lw_okq (⟨"StrawHouseModel", "passOne", "()I"⟩, 14) := ⟨⟨by decide +kernel, by decide +kernel⟩, List.mem_of_getElem? (i := 591) (by decide +kernel), List.mem_of_getElem? (i := 796) (by decide +kernel), List.mem_of_getElem? (i := 797) (by decide +kernel)⟩
theorem lw_p81 : lw_okq (⟨"StrawHouseModel", "blowOn", "(I)I"⟩, 14) := ⟨⟨by decide +kernel, by decide +kernel⟩, List.mem_of_getElem? (i := 591) (by decide +kernel), List.mem_of_getElem? (i := 800) (by decide +kernel), List.mem_of_getElem? (i := 801) (by decide +kernel)⟩
theorem lw_p82 : lw_okq (⟨"StrawHouseModel", "pluck", "(I)V"⟩, 14) := ⟨⟨by decide +kernel, by decide +kernel⟩, List.mem_of_getElem? (i := 591) (by decide +kernel), List.mem_of_getElem? (i := 804) (by decide +kernel), List.mem_of_getElem? (i := 805) (by decide +kernel)⟩
theorem lw_p83 : lw_okq (⟨"StrawHouseModel", "findFault", "()I"⟩, 14) := ⟨⟨by decide +kernel, by decide +kernel⟩, List.mem_of_getElem? (i := 591) (by decide +kernel), List.mem_of_getElem? (i := 820) (by decide +kernel), List.mem_of_getElem? (i := 821) (by decide +kernel)⟩
theorem lw_p84 : lw_okq (⟨"StrawHouseModel", "readsThing", "()Z"⟩, 14) := ⟨⟨by decide +kernel, by decide +kernel⟩, List.mem_of_getElem? (i := 591) (by decide +kernel), List.mem_of_getElem? (i := 824) (by decide +kernel), List.mem_of_getElem? (i := 825) (by decide +kernel)⟩
theorem lw_p85 : lw_okq (⟨"StrawHouseModel", "code", "()I"⟩, 14) := ⟨⟨by decide +kernel, by decide +kernel⟩, List.mem_of_getElem? (i := 591) (by decide +kernel), List.mem_of_getElem? (i := 828) (by decide +kernel), List.mem_of_getElem? (i := 829) (by decide +kernel)⟩
theorem lw_p86 : lw_okq (⟨"StrawHouseModel", "readsBoth", "(IIII)Z"⟩, 14) := ⟨⟨by decide +kernel, by decide +kernel⟩, List.mem_of_getElem? (i := 591) (by decide +kernel), List.mem_of_getElem? (i := 832) (by decide +kernel), List.mem_of_getElem? (i := 833) (by decide +kernel)⟩
theorem lw_p87 : lw_okq (⟨"StrawHouseModel", "readNumber", "(II)I"⟩, 14) := ⟨⟨by decide +kernel, by decide +kernel⟩, List.mem_of_getElem? (i := 591) (by decide +kernel), List.mem_of_getElem? (i := 836) (by decide +kernel), List.mem_of_getElem? (i := 837) (by decide +kernel)⟩
theorem lw_p88 : lw_okq (⟨"StrawHouseModel", "takes", "(I)Z"⟩, 14) := ⟨⟨by decide +kernel, by decide +kernel⟩, List.mem_of_getElem? (i := 591) (by decide +kernel), List.mem_of_getElem? (i := 840) (by decide +kernel), List.mem_of_getElem? (i := 841) (by decide +kernel)⟩
theorem lw_p89 : lw_okq (⟨"StrawHouseModel", "doThing", "()I"⟩, 14) := ⟨⟨by decide +kernel, by decide +kernel⟩, List.mem_of_getElem? (i := 591) (by decide +kernel), List.mem_of_getElem? (i := 844) (by decide +kernel), List.mem_of_getElem? (i := 845) (by decide +kernel)⟩
theorem lw_p90 : lw_okq (⟨"StrawHouseModel", "takeBack", "()V"⟩, 14) := ⟨⟨by decide +kernel, by decide +kernel⟩, List.mem_of_getElem? (i := 591) (by decide +kernel), List.mem_of_getElem? (i := 848) (by decide +kernel), List.mem_of_getElem? (i := 849) (by decide +kernel)⟩
theorem lw_p91 : lw_okq (⟨"StrawHouseModel", "standing", "(I)I"⟩, 14) := ⟨⟨by decide +kernel, by decide +kernel⟩, List.mem_of_getElem? (i := 591) (by decide +kernel), List.mem_of_getElem? (i := 874) (by decide +kernel), List.mem_of_getElem? (i := 875) (by decide +kernel)⟩
theorem lw_p92 : lw_okq (⟨"StrawHouseModel", "swingsWith", "(II)Z"⟩, 14) := ⟨⟨by decide +kernel, by decide +kernel⟩, List.mem_of_getElem? (i := 591) (by decide +kernel), List.mem_of_getElem? (i := 890) (by decide +kernel), List.mem_of_getElem? (i := 891) (by decide +kernel)⟩
theorem lw_p93 : lw_okq (⟨"StrawHouseModel", "sumOf", "(I)I"⟩, 14) := ⟨⟨by decide +kernel, by decide +kernel⟩, List.mem_of_getElem? (i := 591) (by decide +kernel), List.mem_of_getElem? (i := 910) (by decide +kernel), List.mem_of_getElem? (i := 911) (by decide +kernel)⟩
def lw_privs_6 : List (MethodName × Nat) := [(⟨"StrawHouseModel", "passOne", "()I"⟩, 14), (⟨"StrawHouseModel", "blowOn", "(I)I"⟩, 14), (⟨"StrawHouseModel", "pluck", "(I)V"⟩, 14), (⟨"StrawHouseModel", "findFault", "()I"⟩, 14), (⟨"StrawHouseModel", "readsThing", "()Z"⟩, 14), (⟨"StrawHouseModel", "code", "()I"⟩, 14), (⟨"StrawHouseModel", "readsBoth", "(IIII)Z"⟩, 14), (⟨"StrawHouseModel", "readNumber", "(II)I"⟩, 14), (⟨"StrawHouseModel", "takes", "(I)Z"⟩, 14), (⟨"StrawHouseModel", "doThing", "()I"⟩, 14), (⟨"StrawHouseModel", "takeBack", "()V"⟩, 14), (⟨"StrawHouseModel", "standing", "(I)I"⟩, 14), (⟨"StrawHouseModel", "swingsWith", "(II)Z"⟩, 14), (⟨"StrawHouseModel", "sumOf", "(I)I"⟩, 14)]
theorem lw_r6 : ∀ q ∈ lw_privs_6, lw_okq q := List.forall_mem_cons.mpr ⟨lw_p80, List.forall_mem_cons.mpr ⟨lw_p81, List.forall_mem_cons.mpr ⟨lw_p82, List.forall_mem_cons.mpr ⟨lw_p83, List.forall_mem_cons.mpr ⟨lw_p84, List.forall_mem_cons.mpr ⟨lw_p85, List.forall_mem_cons.mpr ⟨lw_p86, List.forall_mem_cons.mpr ⟨lw_p87, List.forall_mem_cons.mpr ⟨lw_p88, List.forall_mem_cons.mpr ⟨lw_p89, List.forall_mem_cons.mpr ⟨lw_p90, List.forall_mem_cons.mpr ⟨lw_p91, List.forall_mem_cons.mpr ⟨lw_p92, List.forall_mem_cons.mpr ⟨lw_p93, fun _ h => absurd h List.not_mem_nil⟩⟩⟩⟩⟩⟩⟩⟩⟩⟩⟩⟩⟩⟩
def lw_privs : List (MethodName × Nat) := lw_privs_1 ++ (lw_privs_2 ++ (lw_privs_3 ++ (lw_privs_4 ++ (lw_privs_5 ++ (lw_privs_6)))))
def lw_tbl : List Cond := k2_sels lw_privs ++ tables_1
theorem lw_privs_ok : ∀ q ∈ lw_privs, lw_okq q := by
  show ∀ q ∈ lw_privs_1 ++ (lw_privs_2 ++ (lw_privs_3 ++ (lw_privs_4 ++ (lw_privs_5 ++ (lw_privs_6))))), lw_okq q
  exact List.forall_mem_append.mpr ⟨lw_r1, List.forall_mem_append.mpr ⟨lw_r2, List.forall_mem_append.mpr ⟨lw_r3, List.forall_mem_append.mpr ⟨lw_r4, List.forall_mem_append.mpr ⟨lw_r5, lw_r6⟩⟩⟩⟩⟩
/-- the streams that the claim lets the run draw from -/
abbrev lw_cs : List Choice := [Jvm.Choice.named "NaN.bits"]
theorem lw_bits : nanBits ∈ lw_cs := by first | decide | exact List.mem_cons_self | simp [lw_cs, nanBits]
-- ===== end of PART A; then your names; then what follows =====
end
section
def RX0 : String := "StrawHouse$Ballot"
def TX0 : u_T := fun k => match k with
  | 0 => ("StrawHouse$Ballot", "lobby", "Z", true)
  | 1 => ("StrawHouse$Ballot", "weights", "[F", true)
  | _ => ("StrawHouse$Ballot", "voteFor", "[I", true)
def tyX0 : Nat → FieldType := fun k => match k with
  | 0 => .boolean
  | 1 => .array .float
  | _ => .array .int
theorem nmX0 : ∀ a, a < 3 → ∀ b, b < 3 → a ≠ b → (TX0 a).2.1 ≠ (TX0 b).2.1 := by decide +kernel
theorem tyX0_ok : ∀ k, k < 3 → parseFieldDescriptor (TX0 k).2.2.1 = some (tyX0 k) := by decide +kernel
abbrev cX0_init : ByteArray := prog_2_method_1_code
def yX0_init : MethodName := ⟨RX0, "<init>", "(Z)V"⟩
abbrev cX0_weigh : ByteArray := prog_2_method_2_code
def yX0_weigh : MethodName := ⟨RX0, "weigh", "(LStrawHouse$House;I)V"⟩
abbrev cX0_greatestWeight : ByteArray := prog_2_method_3_code
def yX0_greatestWeight : MethodName := ⟨RX0, "greatestWeight", "()F"⟩
abbrev cX0_speakerOf : ByteArray := prog_2_method_4_code
def yX0_speakerOf : MethodName := ⟨RX0, "speakerOf", "(LStrawHouse$House;I)I"⟩
abbrev cX0_speaksBefore : ByteArray := prog_2_method_5_code
def yX0_speaksBefore : MethodName := ⟨RX0, "speaksBefore", "(LStrawHouse$House;II)Z"⟩
abbrev cX0_voteOf : ByteArray := prog_2_method_6_code
def yX0_voteOf : MethodName := ⟨RX0, "voteOf", "(LStrawHouse$House;I)I"⟩
abbrev cX0_lowestOf : ByteArray := prog_2_method_7_code
def yX0_lowestOf : MethodName := ⟨RX0, "lowestOf", "(F)I"⟩
abbrev cX0_howManyOf : ByteArray := prog_2_method_8_code
def yX0_howManyOf : MethodName := ⟨RX0, "howManyOf", "(F)I"⟩
abbrev cX0_reasonOf : ByteArray := prog_2_method_9_code
def yX0_reasonOf : MethodName := ⟨RX0, "reasonOf", "(LStrawHouse$House;I)I"⟩
abbrev cX0_poll : ByteArray := prog_2_method_10_code
def yX0_poll : MethodName := ⟨RX0, "poll", "(LStrawHouse$House;)V"⟩
abbrev cX0_decide : ByteArray := prog_2_method_11_code
def yX0_decide : MethodName := ⟨RX0, "decide", "(LStrawHouse$House;)I"⟩
abbrev cX0_bySeats : ByteArray := prog_2_method_12_code
def yX0_bySeats : MethodName := ⟨RX0, "bySeats", "(LStrawHouse$House;)I"⟩
abbrev cX0_decideByPairs : ByteArray := prog_2_method_13_code
def yX0_decideByPairs : MethodName := ⟨RX0, "decideByPairs", "(LStrawHouse$House;)I"⟩
abbrev cX0_leftByPairs : ByteArray := prog_2_method_14_code
def yX0_leftByPairs : MethodName := ⟨RX0, "leftByPairs", "(LStrawHouse$House;)I"⟩
abbrev cX0_hasMajority : ByteArray := prog_2_method_15_code
def yX0_hasMajority : MethodName := ⟨RX0, "hasMajority", "(LStrawHouse$House;I)Z"⟩
def RX1 : String := "StrawHouse$House"
def TX1 : u_T := fun k => match k with
  | 0 => ("StrawHouse$House", "fieldOf", "[I", true)
  | 1 => ("StrawHouse$House", "hatOf", "[I", true)
  | 2 => ("StrawHouse$House", "postOf", "[I", true)
  | 3 => ("StrawHouse$House", "wayOf", "[I", true)
  | 4 => ("StrawHouse$House", "strawOf", "[I", true)
  | 5 => ("StrawHouse$House", "turnsOf", "[I", true)
  | 6 => ("StrawHouse$House", "pluckedOf", "[I", true)
  | 7 => ("StrawHouse$House", "crowsFor", "[I", true)
  | 8 => ("StrawHouse$House", "seatsOf", "[I", true)
  | 9 => ("StrawHouse$House", "settings", "[I", true)
  | 10 => ("StrawHouse$House", "scarecrows", "I", false)
  | 11 => ("StrawHouse$House", "windWay", "I", false)
  | 12 => ("StrawHouse$House", "windStrength", "I", false)
  | 13 => ("StrawHouse$House", "store", "I", false)
  | 14 => ("StrawHouse$House", "tick", "I", false)
  | 15 => ("StrawHouse$House", "votes", "I", false)
  | _ => ("StrawHouse$House", "latest", "I", false)
def tyX1 : Nat → FieldType := fun k => match k with
  | 0 => .array .int
  | 1 => .array .int
  | 2 => .array .int
  | 3 => .array .int
  | 4 => .array .int
  | 5 => .array .int
  | 6 => .array .int
  | 7 => .array .int
  | 8 => .array .int
  | 9 => .array .int
  | 10 => .int
  | 11 => .int
  | 12 => .int
  | 13 => .int
  | 14 => .int
  | 15 => .int
  | _ => .int
theorem nmX1 : ∀ a, a < 17 → ∀ b, b < 17 → a ≠ b → (TX1 a).2.1 ≠ (TX1 b).2.1 := by decide +kernel
theorem tyX1_ok : ∀ k, k < 17 → parseFieldDescriptor (TX1 k).2.2.1 = some (tyX1 k) := by decide +kernel
abbrev cX1_init : ByteArray := prog_3_method_1_code
def yX1_init : MethodName := ⟨RX1, "<init>", "()V"⟩
abbrev cX1_become : ByteArray := prog_3_method_2_code
def yX1_become : MethodName := ⟨RX1, "become", "(LStrawHouse$House;)V"⟩
abbrev cX1_raise : ByteArray := prog_3_method_3_code
def yX1_raise : MethodName := ⟨RX1, "raise", "(IIII)I"⟩
abbrev cX1_bring : ByteArray := prog_3_method_4_code
def yX1_bring : MethodName := ⟨RX1, "bring", "(II)I"⟩
abbrev cX1_turnByHand : ByteArray := prog_3_method_5_code
def yX1_turnByHand : MethodName := ⟨RX1, "turnByHand", "(II)I"⟩
abbrev cX1_takeCrow : ByteArray := prog_3_method_6_code
def yX1_takeCrow : MethodName := ⟨RX1, "takeCrow", "(II)I"⟩
abbrev cX1_scareOff : ByteArray := prog_3_method_7_code
def yX1_scareOff : MethodName := ⟨RX1, "scareOff", "(I)I"⟩
abbrev cX1_stuff : ByteArray := prog_3_method_8_code
def yX1_stuff : MethodName := ⟨RX1, "stuff", "(II)I"⟩
abbrev cX1_giveSeats : ByteArray := prog_3_method_9_code
def yX1_giveSeats : MethodName := ⟨RX1, "giveSeats", "(II)I"⟩
abbrev cX1_blow : ByteArray := prog_3_method_10_code
def yX1_blow : MethodName := ⟨RX1, "blow", "(II)I"⟩
abbrev cX1_adjust : ByteArray := prog_3_method_11_code
def yX1_adjust : MethodName := ⟨RX1, "adjust", "(II)I"⟩
abbrev cX1_countVote : ByteArray := prog_3_method_12_code
def yX1_countVote : MethodName := ⟨RX1, "countVote", "(I)I"⟩
abbrev cX1_goOn : ByteArray := prog_3_method_13_code
def yX1_goOn : MethodName := ⟨RX1, "goOn", "(I)I"⟩
abbrev cX1_doTicks : ByteArray := prog_3_method_14_code
def yX1_doTicks : MethodName := ⟨RX1, "doTicks", "(I)I"⟩
abbrev cX1_doTick : ByteArray := prog_3_method_15_code
def yX1_doTick : MethodName := ⟨RX1, "doTick", "()I"⟩
abbrev cX1_turnByWind : ByteArray := prog_3_method_16_code
def yX1_turnByWind : MethodName := ⟨RX1, "turnByWind", "(I)I"⟩
abbrev cX1_pluck : ByteArray := prog_3_method_17_code
def yX1_pluck : MethodName := ⟨RX1, "pluck", "(I)V"⟩
abbrev cX1_shiftWind : ByteArray := prog_3_method_18_code
def yX1_shiftWind : MethodName := ⟨RX1, "shiftWind", "()V"⟩
abbrev cX1_letCrowsFly : ByteArray := prog_3_method_19_code
def yX1_letCrowsFly : MethodName := ⟨RX1, "letCrowsFly", "(I)V"⟩
abbrev cX1_isScarecrow : ByteArray := prog_3_method_20_code
def yX1_isScarecrow : MethodName := ⟨RX1, "isScarecrow", "(I)Z"⟩
abbrev cX1_crowsOn : ByteArray := prog_3_method_21_code
def yX1_crowsOn : MethodName := ⟨RX1, "crowsOn", "(I)I"⟩
abbrev cX1_strawAsFloat : ByteArray := prog_3_method_22_code
def yX1_strawAsFloat : MethodName := ⟨RX1, "strawAsFloat", "(I)F"⟩
abbrev cX1_lobbyFor : ByteArray := prog_3_method_23_code
def yX1_lobbyFor : MethodName := ⟨RX1, "lobbyFor", "(II)F"⟩
abbrev cX1_standingIn : ByteArray := prog_3_method_24_code
def yX1_standingIn : MethodName := ⟨RX1, "standingIn", "(I)I"⟩
abbrev cX1_tellScarecrow : ByteArray := prog_3_method_25_code
def yX1_tellScarecrow : MethodName := ⟨RX1, "tellScarecrow", "(II)I"⟩
abbrev cX1_tellCount : ByteArray := prog_3_method_26_code
def yX1_tellCount : MethodName := ⟨RX1, "tellCount", "(I)I"⟩
def RX2 : String := "StrawHouse$Past"
def TX2 : u_T := fun k => match k with
  | 0 => ("StrawHouse$Past", "states", "[LStrawHouse$House;", true)
  | _ => ("StrawHouse$Past", "size", "I", false)
def tyX2 : Nat → FieldType := fun k => match k with
  | 0 => .array (.object "StrawHouse$House")
  | _ => .int
theorem nmX2 : ∀ a, a < 2 → ∀ b, b < 2 → a ≠ b → (TX2 a).2.1 ≠ (TX2 b).2.1 := by decide +kernel
theorem tyX2_ok : ∀ k, k < 2 → parseFieldDescriptor (TX2 k).2.2.1 = some (tyX2 k) := by decide +kernel
abbrev cX2_init : ByteArray := prog_4_method_1_code
def yX2_init : MethodName := ⟨RX2, "<init>", "()V"⟩
abbrev cX2_remember : ByteArray := prog_4_method_2_code
def yX2_remember : MethodName := ⟨RX2, "remember", "(LStrawHouse$House;)V"⟩
abbrev cX2_dropOldest : ByteArray := prog_4_method_3_code
def yX2_dropOldest : MethodName := ⟨RX2, "dropOldest", "()V"⟩
abbrev cX2_bringBack : ByteArray := prog_4_method_4_code
def yX2_bringBack : MethodName := ⟨RX2, "bringBack", "(LStrawHouse$House;)I"⟩
def RX3 : String := "StrawHouse$Sitting"
def TX3 : u_T := fun k => match k with
  | 0 => ("StrawHouse$Sitting", "characters", "[C", true)
  | 1 => ("StrawHouse$Sitting", "kinds", "[I", true)
  | 2 => ("StrawHouse$Sitting", "firsts", "[I", true)
  | 3 => ("StrawHouse$Sitting", "seconds", "[I", true)
  | 4 => ("StrawHouse$Sitting", "length", "I", false)
  | 5 => ("StrawHouse$Sitting", "things", "I", false)
  | _ => ("StrawHouse$Sitting", "at", "I", false)
def tyX3 : Nat → FieldType := fun k => match k with
  | 0 => .array .char
  | 1 => .array .int
  | 2 => .array .int
  | 3 => .array .int
  | 4 => .int
  | 5 => .int
  | _ => .int
theorem nmX3 : ∀ a, a < 7 → ∀ b, b < 7 → a ≠ b → (TX3 a).2.1 ≠ (TX3 b).2.1 := by decide +kernel
theorem tyX3_ok : ∀ k, k < 7 → parseFieldDescriptor (TX3 k).2.2.1 = some (tyX3 k) := by decide +kernel
abbrev cX3_init : ByteArray := prog_5_method_1_code
def yX3_init : MethodName := ⟨RX3, "<init>", "()V"⟩
abbrev cX3_append : ByteArray := prog_5_method_2_code
def yX3_append : MethodName := ⟨RX3, "append", "(C)I"⟩
abbrev cX3_empty : ByteArray := prog_5_method_3_code
def yX3_empty : MethodName := ⟨RX3, "empty", "()I"⟩
abbrev cX3_kindOf : ByteArray := prog_5_method_4_code
def yX3_kindOf : MethodName := ⟨RX3, "kindOf", "(I)I"⟩
abbrev cX3_firstOf : ByteArray := prog_5_method_5_code
def yX3_firstOf : MethodName := ⟨RX3, "firstOf", "(I)I"⟩
abbrev cX3_secondOf : ByteArray := prog_5_method_6_code
def yX3_secondOf : MethodName := ⟨RX3, "secondOf", "(I)I"⟩
abbrev cX3_read : ByteArray := prog_5_method_7_code
def yX3_read : MethodName := ⟨RX3, "read", "()I"⟩
abbrev cX3_readThing : ByteArray := prog_5_method_8_code
def yX3_readThing : MethodName := ⟨RX3, "readThing", "()Z"⟩
abbrev cX3_readPair : ByteArray := prog_5_method_9_code
def yX3_readPair : MethodName := ⟨RX3, "readPair", "(IIII)Z"⟩
abbrev cX3_readVote : ByteArray := prog_5_method_10_code
def yX3_readVote : MethodName := ⟨RX3, "readVote", "()Z"⟩
abbrev cX3_readTicks : ByteArray := prog_5_method_11_code
def yX3_readTicks : MethodName := ⟨RX3, "readTicks", "()Z"⟩
abbrev cX3_add : ByteArray := prog_5_method_12_code
def yX3_add : MethodName := ⟨RX3, "add", "(III)Z"⟩
abbrev cX3_readSign : ByteArray := prog_5_method_13_code
def yX3_readSign : MethodName := ⟨RX3, "readSign", "(I)Z"⟩
abbrev cX3_readNumber : ByteArray := prog_5_method_14_code
def yX3_readNumber : MethodName := ⟨RX3, "readNumber", "(II)I"⟩
abbrev cX3_digitAt : ByteArray := prog_5_method_15_code
def yX3_digitAt : MethodName := ⟨RX3, "digitAt", "(I)I"⟩
abbrev cX3_characterAt : ByteArray := prog_5_method_16_code
def yX3_characterAt : MethodName := ⟨RX3, "characterAt", "(I)I"⟩
def RX4 : String := "StrawHouse"
def TX4 : u_T := fun k => match k with
  | 0 => ("StrawHouse", "now", "LStrawHouse$House;", true)
  | 1 => ("StrawHouse", "before", "LStrawHouse$House;", true)
  | 2 => ("StrawHouse", "trial", "LStrawHouse$House;", true)
  | 3 => ("StrawHouse", "snapshot", "LStrawHouse$House;", true)
  | 4 => ("StrawHouse", "past", "LStrawHouse$Past;", true)
  | 5 => ("StrawHouse", "sitting", "LStrawHouse$Sitting;", true)
  | 6 => ("StrawHouse", "ballot", "LStrawHouse$Ballot;", true)
  | 7 => ("StrawHouse", "quietBallot", "LStrawHouse$Ballot;", true)
  | 8 => ("StrawHouse", "kept", "Z", false)
  | 9 => ("StrawHouse", "stopNumber", "I", false)
  | _ => ("StrawHouse", "stopError", "I", false)
def tyX4 : Nat → FieldType := fun k => match k with
  | 0 => .object "StrawHouse$House"
  | 1 => .object "StrawHouse$House"
  | 2 => .object "StrawHouse$House"
  | 3 => .object "StrawHouse$House"
  | 4 => .object "StrawHouse$Past"
  | 5 => .object "StrawHouse$Sitting"
  | 6 => .object "StrawHouse$Ballot"
  | 7 => .object "StrawHouse$Ballot"
  | 8 => .boolean
  | 9 => .int
  | _ => .int
theorem nmX4 : ∀ a, a < 11 → ∀ b, b < 11 → a ≠ b → (TX4 a).2.1 ≠ (TX4 b).2.1 := by decide +kernel
theorem tyX4_ok : ∀ k, k < 11 → parseFieldDescriptor (TX4 k).2.2.1 = some (tyX4 k) := by decide +kernel
abbrev cX4_init : ByteArray := prog_1_method_1_code
def yX4_init : MethodName := ⟨RX4, "<init>", "()V"⟩
abbrev cX4_setUp : ByteArray := prog_1_method_2_code
def yX4_setUp : MethodName := ⟨RX4, "setUp", "(IIII)I"⟩
abbrev cX4_carry : ByteArray := prog_1_method_3_code
def yX4_carry : MethodName := ⟨RX4, "carry", "(II)I"⟩
abbrev cX4_face : ByteArray := prog_1_method_4_code
def yX4_face : MethodName := ⟨RX4, "face", "(II)I"⟩
abbrev cX4_crow : ByteArray := prog_1_method_5_code
def yX4_crow : MethodName := ⟨RX4, "crow", "(II)I"⟩
abbrev cX4_scare : ByteArray := prog_1_method_6_code
def yX4_scare : MethodName := ⟨RX4, "scare", "(I)I"⟩
abbrev cX4_fill : ByteArray := prog_1_method_7_code
def yX4_fill : MethodName := ⟨RX4, "fill", "(II)I"⟩
abbrev cX4_seats : ByteArray := prog_1_method_8_code
def yX4_seats : MethodName := ⟨RX4, "seats", "(II)I"⟩
abbrev cX4_wind : ByteArray := prog_1_method_9_code
def yX4_wind : MethodName := ⟨RX4, "wind", "(II)I"⟩
abbrev cX4_set : ByteArray := prog_1_method_10_code
def yX4_set : MethodName := ⟨RX4, "set", "(II)I"⟩
abbrev cX4_vote : ByteArray := prog_1_method_11_code
def yX4_vote : MethodName := ⟨RX4, "vote", "()I"⟩
abbrev cX4_pass : ByteArray := prog_1_method_12_code
def yX4_pass : MethodName := ⟨RX4, "pass", "(I)I"⟩
abbrev cX4_type : ByteArray := prog_1_method_13_code
def yX4_type : MethodName := ⟨RX4, "type", "(C)I"⟩
abbrev cX4_clearText : ByteArray := prog_1_method_14_code
def yX4_clearText : MethodName := ⟨RX4, "clearText", "()I"⟩
abbrev cX4_perform : ByteArray := prog_1_method_15_code
def yX4_perform : MethodName := ⟨RX4, "perform", "()I"⟩
abbrev cX4_stopped : ByteArray := prog_1_method_16_code
def yX4_stopped : MethodName := ⟨RX4, "stopped", "(I)I"⟩
abbrev cX4_undo : ByteArray := prog_1_method_17_code
def yX4_undo : MethodName := ⟨RX4, "undo", "()I"⟩
abbrev cX4_keep : ByteArray := prog_1_method_18_code
def yX4_keep : MethodName := ⟨RX4, "keep", "()I"⟩
abbrev cX4_restore : ByteArray := prog_1_method_19_code
def yX4_restore : MethodName := ⟨RX4, "restore", "()I"⟩
abbrev cX4_scarecrow : ByteArray := prog_1_method_20_code
def yX4_scarecrow : MethodName := ⟨RX4, "scarecrow", "(II)I"⟩
abbrev cX4_straw : ByteArray := prog_1_method_21_code
def yX4_straw : MethodName := ⟨RX4, "straw", "(I)D"⟩
abbrev cX4_weight : ByteArray := prog_1_method_22_code
def yX4_weight : MethodName := ⟨RX4, "weight", "(II)D"⟩
abbrev cX4_field : ByteArray := prog_1_method_23_code
def yX4_field : MethodName := ⟨RX4, "field", "(II)I"⟩
abbrev cX4_reason : ByteArray := prog_1_method_24_code
def yX4_reason : MethodName := ⟨RX4, "reason", "(I)I"⟩
abbrev cX4_decision : ByteArray := prog_1_method_25_code
def yX4_decision : MethodName := ⟨RX4, "decision", "(I)I"⟩
abbrev cX4_swings : ByteArray := prog_1_method_26_code
def yX4_swings : MethodName := ⟨RX4, "swings", "()I"⟩
abbrev cX4_withoutCrows : ByteArray := prog_1_method_27_code
def yX4_withoutCrows : MethodName := ⟨RX4, "withoutCrows", "()I"⟩
abbrev cX4_turnsIn : ByteArray := prog_1_method_28_code
def yX4_turnsIn : MethodName := ⟨RX4, "turnsIn", "(I)I"⟩
abbrev cX4_ifTicks : ByteArray := prog_1_method_29_code
def yX4_ifTicks : MethodName := ⟨RX4, "ifTicks", "(II)I"⟩
abbrev cX4_count : ByteArray := prog_1_method_30_code
def yX4_count : MethodName := ⟨RX4, "count", "(I)I"⟩
abbrev cX4_recorded : ByteArray := prog_1_method_31_code
def yX4_recorded : MethodName := ⟨RX4, "recorded", "(I)I"⟩
abbrev cX4_doThing : ByteArray := prog_1_method_32_code
def yX4_doThing : MethodName := ⟨RX4, "doThing", "(I)I"⟩
abbrev cX4_couldSwing : ByteArray := prog_1_method_33_code
def yX4_couldSwing : MethodName := ⟨RX4, "couldSwing", "(II)Z"⟩
abbrev cX4_isError : ByteArray := prog_1_method_34_code
def yX4_isError : MethodName := ⟨RX4, "isError", "(I)Z"⟩
abbrev cX4_isIn : ByteArray := prog_1_method_35_code
def yX4_isIn : MethodName := ⟨RX4, "isIn", "(III)Z"⟩
abbrev cX4_isField : ByteArray := prog_1_method_36_code
def yX4_isField : MethodName := ⟨RX4, "isField", "(I)Z"⟩
abbrev cX4_isWay : ByteArray := prog_1_method_37_code
def yX4_isWay : MethodName := ⟨RX4, "isWay", "(I)Z"⟩
abbrev cX4_sumOf : ByteArray := prog_1_method_38_code
def yX4_sumOf : MethodName := ⟨RX4, "sumOf", "([I)I"⟩
abbrev cX4_copyRow : ByteArray := prog_1_method_39_code
def yX4_copyRow : MethodName := ⟨RX4, "copyRow", "([I[I)V"⟩
def RX5 : String := "StrawHouseModel"
def TX5 : u_T := fun k => match k with
  | 0 => ("StrawHouseModel", "state", "[I", true)
  | 1 => ("StrawHouseModel", "spare", "[I", true)
  | 2 => ("StrawHouseModel", "history", "[I", true)
  | 3 => ("StrawHouseModel", "states", "I", false)
  | 4 => ("StrawHouseModel", "snapshot", "[I", true)
  | 5 => ("StrawHouseModel", "hasSnapshot", "Z", false)
  | 6 => ("StrawHouseModel", "text", "[I", true)
  | 7 => ("StrawHouseModel", "length", "I", false)
  | 8 => ("StrawHouseModel", "at", "I", false)
  | 9 => ("StrawHouseModel", "sign", "I", false)
  | 10 => ("StrawHouseModel", "first", "I", false)
  | 11 => ("StrawHouseModel", "second", "I", false)
  | 12 => ("StrawHouseModel", "stopNumber", "I", false)
  | _ => ("StrawHouseModel", "stopError", "I", false)
def tyX5 : Nat → FieldType := fun k => match k with
  | 0 => .array .int
  | 1 => .array .int
  | 2 => .array .int
  | 3 => .int
  | 4 => .array .int
  | 5 => .boolean
  | 6 => .array .int
  | 7 => .int
  | 8 => .int
  | 9 => .int
  | 10 => .int
  | 11 => .int
  | 12 => .int
  | _ => .int
theorem nmX5 : ∀ a, a < 14 → ∀ b, b < 14 → a ≠ b → (TX5 a).2.1 ≠ (TX5 b).2.1 := by decide +kernel
theorem tyX5_ok : ∀ k, k < 14 → parseFieldDescriptor (TX5 k).2.2.1 = some (tyX5 k) := by decide +kernel
abbrev cX5_init : ByteArray := prog_7_method_1_code
def yX5_init : MethodName := ⟨RX5, "<init>", "()V"⟩
abbrev cX5_within : ByteArray := prog_7_method_2_code
def yX5_within : MethodName := ⟨RX5, "within", "(III)Z"⟩
abbrev cX5_isScarecrow : ByteArray := prog_7_method_3_code
def yX5_isScarecrow : MethodName := ⟨RX5, "isScarecrow", "(I)Z"⟩
abbrev cX5_isField : ByteArray := prog_7_method_4_code
def yX5_isField : MethodName := ⟨RX5, "isField", "(I)Z"⟩
abbrev cX5_isWay : ByteArray := prog_7_method_5_code
def yX5_isWay : MethodName := ⟨RX5, "isWay", "(I)Z"⟩
abbrev cX5_of : ByteArray := prog_7_method_6_code
def yX5_of : MethodName := ⟨RX5, "of", "(II)I"⟩
abbrev cX5_setOf : ByteArray := prog_7_method_7_code
def yX5_setOf : MethodName := ⟨RX5, "setOf", "(III)V"⟩
abbrev cX5_crowsOn : ByteArray := prog_7_method_8_code
def yX5_crowsOn : MethodName := ⟨RX5, "crowsOn", "(I)I"⟩
abbrev cX5_putAside : ByteArray := prog_7_method_9_code
def yX5_putAside : MethodName := ⟨RX5, "putAside", "()V"⟩
abbrev cX5_takeBack : ByteArray := prog_7_method_10_code
def yX5_takeBack : MethodName := ⟨RX5, "takeBack", "()V"⟩
abbrev cX5_push : ByteArray := prog_7_method_11_code
def yX5_push : MethodName := ⟨RX5, "push", "()V"⟩
abbrev cX5_isNothing : ByteArray := prog_7_method_12_code
def yX5_isNothing : MethodName := ⟨RX5, "isNothing", "(I)Z"⟩
abbrev cX5_recorded : ByteArray := prog_7_method_13_code
def yX5_recorded : MethodName := ⟨RX5, "recorded", "(I)I"⟩
abbrev cX5_undo : ByteArray := prog_7_method_14_code
def yX5_undo : MethodName := ⟨RX5, "undo", "()I"⟩
abbrev cX5_keep : ByteArray := prog_7_method_15_code
def yX5_keep : MethodName := ⟨RX5, "keep", "()I"⟩
abbrev cX5_restore : ByteArray := prog_7_method_16_code
def yX5_restore : MethodName := ⟨RX5, "restore", "()I"⟩
abbrev cX5_weighs : ByteArray := prog_7_method_17_code
def yX5_weighs : MethodName := ⟨RX5, "weighs", "(III)I"⟩
abbrev cX5_speaker : ByteArray := prog_7_method_18_code
def yX5_speaker : MethodName := ⟨RX5, "speaker", "(I)I"⟩
abbrev cX5_greatest : ByteArray := prog_7_method_19_code
def yX5_greatest : MethodName := ⟨RX5, "greatest", "(II)I"⟩
abbrev cX5_leaders : ByteArray := prog_7_method_20_code
def yX5_leaders : MethodName := ⟨RX5, "leaders", "(II)I"⟩
abbrev cX5_lowest : ByteArray := prog_7_method_21_code
def yX5_lowest : MethodName := ⟨RX5, "lowest", "(I)I"⟩
abbrev cX5_votes : ByteArray := prog_7_method_22_code
def yX5_votes : MethodName := ⟨RX5, "votes", "(II)I"⟩
abbrev cX5_allSeats : ByteArray := prog_7_method_23_code
def yX5_allSeats : MethodName := ⟨RX5, "allSeats", "()I"⟩
abbrev cX5_decides : ByteArray := prog_7_method_24_code
def yX5_decides : MethodName := ⟨RX5, "decides", "(I)I"⟩
abbrev cX5_blowOn : ByteArray := prog_7_method_25_code
def yX5_blowOn : MethodName := ⟨RX5, "blowOn", "(I)I"⟩
abbrev cX5_pluck : ByteArray := prog_7_method_26_code
def yX5_pluck : MethodName := ⟨RX5, "pluck", "(I)V"⟩
abbrev cX5_flyOff : ByteArray := prog_7_method_27_code
def yX5_flyOff : MethodName := ⟨RX5, "flyOff", "(I)V"⟩
abbrev cX5_passOne : ByteArray := prog_7_method_28_code
def yX5_passOne : MethodName := ⟨RX5, "passOne", "()I"⟩
abbrev cX5_passMany : ByteArray := prog_7_method_29_code
def yX5_passMany : MethodName := ⟨RX5, "passMany", "(I)I"⟩
abbrev cX5_doCrow : ByteArray := prog_7_method_30_code
def yX5_doCrow : MethodName := ⟨RX5, "doCrow", "(II)I"⟩
abbrev cX5_doFill : ByteArray := prog_7_method_31_code
def yX5_doFill : MethodName := ⟨RX5, "doFill", "(II)I"⟩
abbrev cX5_doWind : ByteArray := prog_7_method_32_code
def yX5_doWind : MethodName := ⟨RX5, "doWind", "(II)I"⟩
abbrev cX5_doVote : ByteArray := prog_7_method_33_code
def yX5_doVote : MethodName := ⟨RX5, "doVote", "()I"⟩
abbrev cX5_doPass : ByteArray := prog_7_method_34_code
def yX5_doPass : MethodName := ⟨RX5, "doPass", "(I)I"⟩
abbrev cX5_setUp : ByteArray := prog_7_method_35_code
def yX5_setUp : MethodName := ⟨RX5, "setUp", "(IIII)I"⟩
abbrev cX5_carry : ByteArray := prog_7_method_36_code
def yX5_carry : MethodName := ⟨RX5, "carry", "(II)I"⟩
abbrev cX5_face : ByteArray := prog_7_method_37_code
def yX5_face : MethodName := ⟨RX5, "face", "(II)I"⟩
abbrev cX5_crow : ByteArray := prog_7_method_38_code
def yX5_crow : MethodName := ⟨RX5, "crow", "(II)I"⟩
abbrev cX5_scare : ByteArray := prog_7_method_39_code
def yX5_scare : MethodName := ⟨RX5, "scare", "(I)I"⟩
abbrev cX5_fill : ByteArray := prog_7_method_40_code
def yX5_fill : MethodName := ⟨RX5, "fill", "(II)I"⟩
abbrev cX5_seats : ByteArray := prog_7_method_41_code
def yX5_seats : MethodName := ⟨RX5, "seats", "(II)I"⟩
abbrev cX5_wind : ByteArray := prog_7_method_42_code
def yX5_wind : MethodName := ⟨RX5, "wind", "(II)I"⟩
abbrev cX5_set : ByteArray := prog_7_method_43_code
def yX5_set : MethodName := ⟨RX5, "set", "(II)I"⟩
abbrev cX5_vote : ByteArray := prog_7_method_44_code
def yX5_vote : MethodName := ⟨RX5, "vote", "()I"⟩
abbrev cX5_pass : ByteArray := prog_7_method_45_code
def yX5_pass : MethodName := ⟨RX5, "pass", "(I)I"⟩
abbrev cX5_type : ByteArray := prog_7_method_46_code
def yX5_type : MethodName := ⟨RX5, "type", "(C)I"⟩
abbrev cX5_clearText : ByteArray := prog_7_method_47_code
def yX5_clearText : MethodName := ⟨RX5, "clearText", "()I"⟩
abbrev cX5_code : ByteArray := prog_7_method_48_code
def yX5_code : MethodName := ⟨RX5, "code", "()I"⟩
abbrev cX5_takes : ByteArray := prog_7_method_49_code
def yX5_takes : MethodName := ⟨RX5, "takes", "(I)Z"⟩
abbrev cX5_readNumber : ByteArray := prog_7_method_50_code
def yX5_readNumber : MethodName := ⟨RX5, "readNumber", "(II)I"⟩
abbrev cX5_readsBoth : ByteArray := prog_7_method_51_code
def yX5_readsBoth : MethodName := ⟨RX5, "readsBoth", "(IIII)Z"⟩
abbrev cX5_readsThing : ByteArray := prog_7_method_52_code
def yX5_readsThing : MethodName := ⟨RX5, "readsThing", "()Z"⟩
abbrev cX5_findFault : ByteArray := prog_7_method_53_code
def yX5_findFault : MethodName := ⟨RX5, "findFault", "()I"⟩
abbrev cX5_doThing : ByteArray := prog_7_method_54_code
def yX5_doThing : MethodName := ⟨RX5, "doThing", "()I"⟩
abbrev cX5_perform : ByteArray := prog_7_method_55_code
def yX5_perform : MethodName := ⟨RX5, "perform", "()I"⟩
abbrev cX5_stopped : ByteArray := prog_7_method_56_code
def yX5_stopped : MethodName := ⟨RX5, "stopped", "(I)I"⟩
abbrev cX5_scarecrow : ByteArray := prog_7_method_57_code
def yX5_scarecrow : MethodName := ⟨RX5, "scarecrow", "(II)I"⟩
abbrev cX5_straw : ByteArray := prog_7_method_58_code
def yX5_straw : MethodName := ⟨RX5, "straw", "(I)D"⟩
abbrev cX5_weight : ByteArray := prog_7_method_59_code
def yX5_weight : MethodName := ⟨RX5, "weight", "(II)D"⟩
abbrev cX5_standing : ByteArray := prog_7_method_60_code
def yX5_standing : MethodName := ⟨RX5, "standing", "(I)I"⟩
abbrev cX5_field : ByteArray := prog_7_method_61_code
def yX5_field : MethodName := ⟨RX5, "field", "(II)I"⟩
abbrev cX5_reason : ByteArray := prog_7_method_62_code
def yX5_reason : MethodName := ⟨RX5, "reason", "(I)I"⟩
abbrev cX5_decision : ByteArray := prog_7_method_63_code
def yX5_decision : MethodName := ⟨RX5, "decision", "(I)I"⟩
abbrev cX5_swingsWith : ByteArray := prog_7_method_64_code
def yX5_swingsWith : MethodName := ⟨RX5, "swingsWith", "(II)Z"⟩
abbrev cX5_swings : ByteArray := prog_7_method_65_code
def yX5_swings : MethodName := ⟨RX5, "swings", "()I"⟩
abbrev cX5_withoutCrows : ByteArray := prog_7_method_66_code
def yX5_withoutCrows : MethodName := ⟨RX5, "withoutCrows", "()I"⟩
abbrev cX5_turnsIn : ByteArray := prog_7_method_67_code
def yX5_turnsIn : MethodName := ⟨RX5, "turnsIn", "(I)I"⟩
abbrev cX5_ifTicks : ByteArray := prog_7_method_68_code
def yX5_ifTicks : MethodName := ⟨RX5, "ifTicks", "(II)I"⟩
abbrev cX5_sumOf : ByteArray := prog_7_method_69_code
def yX5_sumOf : MethodName := ⟨RX5, "sumOf", "(I)I"⟩
abbrev cX5_count : ByteArray := prog_7_method_70_code
def yX5_count : MethodName := ⟨RX5, "count", "(I)I"⟩
abbrev cJ9_min_7cf53 : ByteArray := prog_8_method_69_code
def RL : String := "StrawHouseLaw"
abbrev cL_law : ByteArray := code
def yL_law : MethodName := ⟨RL, "law", "([I)Z"⟩
abbrev vwCl : List vw_C := [(RX0, TX0, 3), (RX1, TX1, 17), (RX2, TX2, 2), (RX3, TX3, 7), (RX4, TX4, 11), (RX5, TX5, 14)]
end
section
theorem dX0_init_0 : decode cX0_init 0 = .ok (.aload_n 0, 1) := by decide +kernel
theorem dX0_init_1 : decode cX0_init 1 = .ok (.invokespecial 3, 3) := by decide +kernel
theorem dX0_init_4 : decode cX0_init 4 = .ok (.aload_n 0, 1) := by decide +kernel
theorem dX0_init_5 : decode cX0_init 5 = .ok (.iconst 4, 1) := by decide +kernel
theorem dX0_init_6 : decode cX0_init 6 = .ok (.newarray .float, 2) := by decide +kernel
theorem dX0_init_8 : decode cX0_init 8 = .ok (.putfield 9, 3) := by decide +kernel
theorem dX0_init_11 : decode cX0_init 11 = .ok (.aload_n 0, 1) := by decide +kernel
theorem dX0_init_12 : decode cX0_init 12 = .ok (.bipush 6, 2) := by decide +kernel
theorem dX0_init_14 : decode cX0_init 14 = .ok (.newarray .int, 2) := by decide +kernel
theorem dX0_init_16 : decode cX0_init 16 = .ok (.putfield 15, 3) := by decide +kernel
theorem dX0_init_19 : decode cX0_init 19 = .ok (.aload_n 0, 1) := by decide +kernel
theorem dX0_init_20 : decode cX0_init 20 = .ok (.iload_n 1, 1) := by decide +kernel
theorem dX0_init_21 : decode cX0_init 21 = .ok (.putfield 19, 3) := by decide +kernel
theorem dX0_init_24 : decode cX0_init 24 = .ok (.return_, 1) := by decide +kernel
theorem dX0_weigh_0 : decode cX0_weigh 0 = .ok (.iconst 0, 1) := by decide +kernel
theorem dX0_weigh_1 : decode cX0_weigh 1 = .ok (.istore_n 3, 1) := by decide +kernel
theorem dX0_weigh_2 : decode cX0_weigh 2 = .ok (.iload_n 3, 1) := by decide +kernel
theorem dX0_weigh_3 : decode cX0_weigh 3 = .ok (.iconst 4, 1) := by decide +kernel
theorem dX0_weigh_4 : decode cX0_weigh 4 = .ok (.if_icmp .ge 16, 3) := by decide +kernel
theorem dX0_weigh_7 : decode cX0_weigh 7 = .ok (.aload_n 0, 1) := by decide +kernel
theorem dX0_weigh_8 : decode cX0_weigh 8 = .ok (.getfield 9, 3) := by decide +kernel
theorem dX0_weigh_11 : decode cX0_weigh 11 = .ok (.iload_n 3, 1) := by decide +kernel
theorem dX0_weigh_12 : decode cX0_weigh 12 = .ok (.fconst 0, 1) := by decide +kernel
theorem dX0_weigh_13 : decode cX0_weigh 13 = .ok (.fastore, 1) := by decide +kernel
theorem dX0_weigh_14 : decode cX0_weigh 14 = .ok (.iinc 3 1, 3) := by decide +kernel
theorem dX0_weigh_17 : decode cX0_weigh 17 = .ok (.goto (-15), 3) := by decide +kernel
theorem dX0_weigh_20 : decode cX0_weigh 20 = .ok (.iconst 0, 1) := by decide +kernel
theorem dX0_weigh_21 : decode cX0_weigh 21 = .ok (.istore_n 3, 1) := by decide +kernel
theorem dX0_weigh_22 : decode cX0_weigh 22 = .ok (.iload_n 3, 1) := by decide +kernel
theorem dX0_weigh_23 : decode cX0_weigh 23 = .ok (.aload_n 1, 1) := by decide +kernel
theorem dX0_weigh_24 : decode cX0_weigh 24 = .ok (.getfield 23, 3) := by decide +kernel
theorem dX0_weigh_27 : decode cX0_weigh 27 = .ok (.if_icmp .ge 88, 3) := by decide +kernel
theorem dX0_weigh_30 : decode cX0_weigh 30 = .ok (.aload_n 1, 1) := by decide +kernel
theorem dX0_weigh_31 : decode cX0_weigh 31 = .ok (.getfield 29, 3) := by decide +kernel
theorem dX0_weigh_34 : decode cX0_weigh 34 = .ok (.iload_n 3, 1) := by decide +kernel
theorem dX0_weigh_35 : decode cX0_weigh 35 = .ok (.iaload, 1) := by decide +kernel
theorem dX0_weigh_36 : decode cX0_weigh 36 = .ok (.iload_n 2, 1) := by decide +kernel
theorem dX0_weigh_37 : decode cX0_weigh 37 = .ok (.if_icmp .eq 6, 3) := by decide +kernel
theorem dX0_weigh_40 : decode cX0_weigh 40 = .ok (.goto 69, 3) := by decide +kernel
theorem dX0_weigh_43 : decode cX0_weigh 43 = .ok (.aload_n 0, 1) := by decide +kernel
theorem dX0_weigh_44 : decode cX0_weigh 44 = .ok (.getfield 9, 3) := by decide +kernel
theorem dX0_weigh_47 : decode cX0_weigh 47 = .ok (.aload_n 1, 1) := by decide +kernel
theorem dX0_weigh_48 : decode cX0_weigh 48 = .ok (.getfield 32, 3) := by decide +kernel
theorem dX0_weigh_51 : decode cX0_weigh 51 = .ok (.iload_n 3, 1) := by decide +kernel
theorem dX0_weigh_52 : decode cX0_weigh 52 = .ok (.iaload, 1) := by decide +kernel
theorem dX0_weigh_53 : decode cX0_weigh 53 = .ok (.dup2, 1) := by decide +kernel
theorem dX0_weigh_54 : decode cX0_weigh 54 = .ok (.faload, 1) := by decide +kernel
theorem dX0_weigh_55 : decode cX0_weigh 55 = .ok (.aload_n 1, 1) := by decide +kernel
theorem dX0_weigh_56 : decode cX0_weigh 56 = .ok (.iload_n 3, 1) := by decide +kernel
theorem dX0_weigh_57 : decode cX0_weigh 57 = .ok (.invokevirtual 35, 3) := by decide +kernel
theorem dX0_weigh_60 : decode cX0_weigh 60 = .ok (.aload_n 1, 1) := by decide +kernel
theorem dX0_weigh_61 : decode cX0_weigh 61 = .ok (.getfield 39, 3) := by decide +kernel
theorem dX0_weigh_64 : decode cX0_weigh 64 = .ok (.iload_n 3, 1) := by decide +kernel
theorem dX0_weigh_65 : decode cX0_weigh 65 = .ok (.iaload, 1) := by decide +kernel
theorem dX0_weigh_66 : decode cX0_weigh 66 = .ok (.i2f, 1) := by decide +kernel
theorem dX0_weigh_67 : decode cX0_weigh 67 = .ok (.fmul, 1) := by decide +kernel
theorem dX0_weigh_68 : decode cX0_weigh 68 = .ok (.fadd, 1) := by decide +kernel
theorem dX0_weigh_69 : decode cX0_weigh 69 = .ok (.fastore, 1) := by decide +kernel
theorem dX0_weigh_70 : decode cX0_weigh 70 = .ok (.iconst 0, 1) := by decide +kernel
theorem dX0_weigh_71 : decode cX0_weigh 71 = .ok (.istore 4, 2) := by decide +kernel
theorem dX0_weigh_73 : decode cX0_weigh 73 = .ok (.aload_n 0, 1) := by decide +kernel
theorem dX0_weigh_74 : decode cX0_weigh 74 = .ok (.getfield 19, 3) := by decide +kernel
theorem dX0_weigh_77 : decode cX0_weigh 77 = .ok (.ifCond .eq 32, 3) := by decide +kernel
theorem dX0_weigh_80 : decode cX0_weigh 80 = .ok (.iload 4, 2) := by decide +kernel
theorem dX0_weigh_82 : decode cX0_weigh 82 = .ok (.iconst 4, 1) := by decide +kernel
theorem dX0_weigh_83 : decode cX0_weigh 83 = .ok (.if_icmp .ge 26, 3) := by decide +kernel
theorem dX0_weigh_86 : decode cX0_weigh 86 = .ok (.aload_n 0, 1) := by decide +kernel
theorem dX0_weigh_87 : decode cX0_weigh 87 = .ok (.getfield 9, 3) := by decide +kernel
theorem dX0_weigh_90 : decode cX0_weigh 90 = .ok (.iload 4, 2) := by decide +kernel
theorem dX0_weigh_92 : decode cX0_weigh 92 = .ok (.dup2, 1) := by decide +kernel
theorem dX0_weigh_93 : decode cX0_weigh 93 = .ok (.faload, 1) := by decide +kernel
theorem dX0_weigh_94 : decode cX0_weigh 94 = .ok (.aload_n 1, 1) := by decide +kernel
theorem dX0_weigh_95 : decode cX0_weigh 95 = .ok (.iload_n 3, 1) := by decide +kernel
theorem dX0_weigh_96 : decode cX0_weigh 96 = .ok (.iload 4, 2) := by decide +kernel
theorem dX0_weigh_98 : decode cX0_weigh 98 = .ok (.invokevirtual 42, 3) := by decide +kernel
theorem dX0_weigh_101 : decode cX0_weigh 101 = .ok (.fadd, 1) := by decide +kernel
theorem dX0_weigh_102 : decode cX0_weigh 102 = .ok (.fastore, 1) := by decide +kernel
theorem dX0_weigh_103 : decode cX0_weigh 103 = .ok (.iinc 4 1, 3) := by decide +kernel
theorem dX0_weigh_106 : decode cX0_weigh 106 = .ok (.goto (-33), 3) := by decide +kernel
theorem dX0_weigh_109 : decode cX0_weigh 109 = .ok (.iinc 3 1, 3) := by decide +kernel
theorem dX0_weigh_112 : decode cX0_weigh 112 = .ok (.goto (-90), 3) := by decide +kernel
theorem dX0_weigh_115 : decode cX0_weigh 115 = .ok (.return_, 1) := by decide +kernel
theorem dX0_greatestWeight_0 : decode cX0_greatestWeight 0 = .ok (.fconst 0, 1) := by decide +kernel
theorem dX0_greatestWeight_1 : decode cX0_greatestWeight 1 = .ok (.fstore_n 1, 1) := by decide +kernel
theorem dX0_greatestWeight_2 : decode cX0_greatestWeight 2 = .ok (.iconst 0, 1) := by decide +kernel
theorem dX0_greatestWeight_3 : decode cX0_greatestWeight 3 = .ok (.istore_n 2, 1) := by decide +kernel
theorem dX0_greatestWeight_4 : decode cX0_greatestWeight 4 = .ok (.iload_n 2, 1) := by decide +kernel
theorem dX0_greatestWeight_5 : decode cX0_greatestWeight 5 = .ok (.iconst 4, 1) := by decide +kernel
theorem dX0_greatestWeight_6 : decode cX0_greatestWeight 6 = .ok (.if_icmp .ge 27, 3) := by decide +kernel
theorem dX0_greatestWeight_9 : decode cX0_greatestWeight 9 = .ok (.aload_n 0, 1) := by decide +kernel
theorem dX0_greatestWeight_10 : decode cX0_greatestWeight 10 = .ok (.getfield 9, 3) := by decide +kernel
theorem dX0_greatestWeight_13 : decode cX0_greatestWeight 13 = .ok (.iload_n 2, 1) := by decide +kernel
theorem dX0_greatestWeight_14 : decode cX0_greatestWeight 14 = .ok (.faload, 1) := by decide +kernel
theorem dX0_greatestWeight_15 : decode cX0_greatestWeight 15 = .ok (.fload_n 1, 1) := by decide +kernel
theorem dX0_greatestWeight_16 : decode cX0_greatestWeight 16 = .ok (.fcmp .l, 1) := by decide +kernel
theorem dX0_greatestWeight_17 : decode cX0_greatestWeight 17 = .ok (.ifCond .le 10, 3) := by decide +kernel
theorem dX0_greatestWeight_20 : decode cX0_greatestWeight 20 = .ok (.aload_n 0, 1) := by decide +kernel
theorem dX0_greatestWeight_21 : decode cX0_greatestWeight 21 = .ok (.getfield 9, 3) := by decide +kernel
theorem dX0_greatestWeight_24 : decode cX0_greatestWeight 24 = .ok (.iload_n 2, 1) := by decide +kernel
theorem dX0_greatestWeight_25 : decode cX0_greatestWeight 25 = .ok (.faload, 1) := by decide +kernel
theorem dX0_greatestWeight_26 : decode cX0_greatestWeight 26 = .ok (.fstore_n 1, 1) := by decide +kernel
theorem dX0_greatestWeight_27 : decode cX0_greatestWeight 27 = .ok (.iinc 2 1, 3) := by decide +kernel
theorem dX0_greatestWeight_30 : decode cX0_greatestWeight 30 = .ok (.goto (-26), 3) := by decide +kernel
theorem dX0_greatestWeight_33 : decode cX0_greatestWeight 33 = .ok (.fload_n 1, 1) := by decide +kernel
theorem dX0_greatestWeight_34 : decode cX0_greatestWeight 34 = .ok (.freturn, 1) := by decide +kernel
theorem dX0_speakerOf_0 : decode cX0_speakerOf 0 = .ok (.bipush (-5), 2) := by decide +kernel
theorem dX0_speakerOf_2 : decode cX0_speakerOf 2 = .ok (.istore_n 3, 1) := by decide +kernel
theorem dX0_speakerOf_3 : decode cX0_speakerOf 3 = .ok (.iconst 0, 1) := by decide +kernel
theorem dX0_speakerOf_4 : decode cX0_speakerOf 4 = .ok (.istore 4, 2) := by decide +kernel
theorem dX0_speakerOf_6 : decode cX0_speakerOf 6 = .ok (.iload 4, 2) := by decide +kernel
theorem dX0_speakerOf_8 : decode cX0_speakerOf 8 = .ok (.aload_n 1, 1) := by decide +kernel
theorem dX0_speakerOf_9 : decode cX0_speakerOf 9 = .ok (.getfield 23, 3) := by decide +kernel
theorem dX0_speakerOf_12 : decode cX0_speakerOf 12 = .ok (.if_icmp .ge 37, 3) := by decide +kernel
theorem dX0_speakerOf_15 : decode cX0_speakerOf 15 = .ok (.aload_n 1, 1) := by decide +kernel
theorem dX0_speakerOf_16 : decode cX0_speakerOf 16 = .ok (.getfield 29, 3) := by decide +kernel
theorem dX0_speakerOf_19 : decode cX0_speakerOf 19 = .ok (.iload 4, 2) := by decide +kernel
theorem dX0_speakerOf_21 : decode cX0_speakerOf 21 = .ok (.iaload, 1) := by decide +kernel
theorem dX0_speakerOf_22 : decode cX0_speakerOf 22 = .ok (.iload_n 2, 1) := by decide +kernel
theorem dX0_speakerOf_23 : decode cX0_speakerOf 23 = .ok (.if_icmp .ne 20, 3) := by decide +kernel
theorem dX0_speakerOf_26 : decode cX0_speakerOf 26 = .ok (.iload_n 3, 1) := by decide +kernel
theorem dX0_speakerOf_27 : decode cX0_speakerOf 27 = .ok (.ifCond .lt 13, 3) := by decide +kernel
theorem dX0_speakerOf_30 : decode cX0_speakerOf 30 = .ok (.aload_n 1, 1) := by decide +kernel
theorem dX0_speakerOf_31 : decode cX0_speakerOf 31 = .ok (.iload 4, 2) := by decide +kernel
theorem dX0_speakerOf_33 : decode cX0_speakerOf 33 = .ok (.iload_n 3, 1) := by decide +kernel
theorem dX0_speakerOf_34 : decode cX0_speakerOf 34 = .ok (.invokestatic 46, 3) := by decide +kernel
theorem dX0_speakerOf_37 : decode cX0_speakerOf 37 = .ok (.ifCond .eq 6, 3) := by decide +kernel
theorem dX0_speakerOf_40 : decode cX0_speakerOf 40 = .ok (.iload 4, 2) := by decide +kernel
theorem dX0_speakerOf_42 : decode cX0_speakerOf 42 = .ok (.istore_n 3, 1) := by decide +kernel
theorem dX0_speakerOf_43 : decode cX0_speakerOf 43 = .ok (.iinc 4 1, 3) := by decide +kernel
theorem dX0_speakerOf_46 : decode cX0_speakerOf 46 = .ok (.goto (-40), 3) := by decide +kernel
theorem dX0_speakerOf_49 : decode cX0_speakerOf 49 = .ok (.iload_n 3, 1) := by decide +kernel
theorem dX0_speakerOf_50 : decode cX0_speakerOf 50 = .ok (.ireturn, 1) := by decide +kernel
theorem dX0_speaksBefore_0 : decode cX0_speaksBefore 0 = .ok (.aload_n 0, 1) := by decide +kernel
theorem dX0_speaksBefore_1 : decode cX0_speaksBefore 1 = .ok (.getfield 39, 3) := by decide +kernel
theorem dX0_speaksBefore_4 : decode cX0_speaksBefore 4 = .ok (.iload_n 1, 1) := by decide +kernel
theorem dX0_speaksBefore_5 : decode cX0_speaksBefore 5 = .ok (.iaload, 1) := by decide +kernel
theorem dX0_speaksBefore_6 : decode cX0_speaksBefore 6 = .ok (.aload_n 0, 1) := by decide +kernel
theorem dX0_speaksBefore_7 : decode cX0_speaksBefore 7 = .ok (.getfield 39, 3) := by decide +kernel
theorem dX0_speaksBefore_10 : decode cX0_speaksBefore 10 = .ok (.iload_n 2, 1) := by decide +kernel
theorem dX0_speaksBefore_11 : decode cX0_speaksBefore 11 = .ok (.iaload, 1) := by decide +kernel
theorem dX0_speaksBefore_12 : decode cX0_speaksBefore 12 = .ok (.if_icmp .eq 24, 3) := by decide +kernel
theorem dX0_speaksBefore_15 : decode cX0_speaksBefore 15 = .ok (.aload_n 0, 1) := by decide +kernel
theorem dX0_speaksBefore_16 : decode cX0_speaksBefore 16 = .ok (.getfield 39, 3) := by decide +kernel
theorem dX0_speaksBefore_19 : decode cX0_speaksBefore 19 = .ok (.iload_n 1, 1) := by decide +kernel
theorem dX0_speaksBefore_20 : decode cX0_speaksBefore 20 = .ok (.iaload, 1) := by decide +kernel
theorem dX0_speaksBefore_21 : decode cX0_speaksBefore 21 = .ok (.aload_n 0, 1) := by decide +kernel
theorem dX0_speaksBefore_22 : decode cX0_speaksBefore 22 = .ok (.getfield 39, 3) := by decide +kernel
theorem dX0_speaksBefore_25 : decode cX0_speaksBefore 25 = .ok (.iload_n 2, 1) := by decide +kernel
theorem dX0_speaksBefore_26 : decode cX0_speaksBefore 26 = .ok (.iaload, 1) := by decide +kernel
theorem dX0_speaksBefore_27 : decode cX0_speaksBefore 27 = .ok (.if_icmp .le 7, 3) := by decide +kernel
theorem dX0_speaksBefore_30 : decode cX0_speaksBefore 30 = .ok (.iconst 1, 1) := by decide +kernel
theorem dX0_speaksBefore_31 : decode cX0_speaksBefore 31 = .ok (.goto 4, 3) := by decide +kernel
theorem dX0_speaksBefore_34 : decode cX0_speaksBefore 34 = .ok (.iconst 0, 1) := by decide +kernel
theorem dX0_speaksBefore_35 : decode cX0_speaksBefore 35 = .ok (.ireturn, 1) := by decide +kernel
theorem dX0_speaksBefore_36 : decode cX0_speaksBefore 36 = .ok (.aload_n 0, 1) := by decide +kernel
theorem dX0_speaksBefore_37 : decode cX0_speaksBefore 37 = .ok (.getfield 50, 3) := by decide +kernel
theorem dX0_speaksBefore_40 : decode cX0_speaksBefore 40 = .ok (.iload_n 1, 1) := by decide +kernel
theorem dX0_speaksBefore_41 : decode cX0_speaksBefore 41 = .ok (.iaload, 1) := by decide +kernel
theorem dX0_speaksBefore_42 : decode cX0_speaksBefore 42 = .ok (.aload_n 0, 1) := by decide +kernel
theorem dX0_speaksBefore_43 : decode cX0_speaksBefore 43 = .ok (.getfield 50, 3) := by decide +kernel
theorem dX0_speaksBefore_46 : decode cX0_speaksBefore 46 = .ok (.iload_n 2, 1) := by decide +kernel
theorem dX0_speaksBefore_47 : decode cX0_speaksBefore 47 = .ok (.iaload, 1) := by decide +kernel
theorem dX0_speaksBefore_48 : decode cX0_speaksBefore 48 = .ok (.if_icmp .le 7, 3) := by decide +kernel
theorem dX0_speaksBefore_51 : decode cX0_speaksBefore 51 = .ok (.iconst 1, 1) := by decide +kernel
theorem dX0_speaksBefore_52 : decode cX0_speaksBefore 52 = .ok (.goto 4, 3) := by decide +kernel
theorem dX0_speaksBefore_55 : decode cX0_speaksBefore 55 = .ok (.iconst 0, 1) := by decide +kernel
theorem dX0_speaksBefore_56 : decode cX0_speaksBefore 56 = .ok (.ireturn, 1) := by decide +kernel
theorem dX0_voteOf_0 : decode cX0_voteOf 0 = .ok (.aload_n 0, 1) := by decide +kernel
theorem dX0_voteOf_1 : decode cX0_voteOf 1 = .ok (.aload_n 1, 1) := by decide +kernel
theorem dX0_voteOf_2 : decode cX0_voteOf 2 = .ok (.iload_n 2, 1) := by decide +kernel
theorem dX0_voteOf_3 : decode cX0_voteOf 3 = .ok (.invokevirtual 53, 3) := by decide +kernel
theorem dX0_voteOf_6 : decode cX0_voteOf 6 = .ok (.istore_n 3, 1) := by decide +kernel
theorem dX0_voteOf_7 : decode cX0_voteOf 7 = .ok (.iload_n 3, 1) := by decide +kernel
theorem dX0_voteOf_8 : decode cX0_voteOf 8 = .ok (.ifCond .ge 6, 3) := by decide +kernel
theorem dX0_voteOf_11 : decode cX0_voteOf 11 = .ok (.bipush (-5), 2) := by decide +kernel
theorem dX0_voteOf_13 : decode cX0_voteOf 13 = .ok (.ireturn, 1) := by decide +kernel
theorem dX0_voteOf_14 : decode cX0_voteOf 14 = .ok (.aload_n 0, 1) := by decide +kernel
theorem dX0_voteOf_15 : decode cX0_voteOf 15 = .ok (.aload_n 1, 1) := by decide +kernel
theorem dX0_voteOf_16 : decode cX0_voteOf 16 = .ok (.iload_n 2, 1) := by decide +kernel
theorem dX0_voteOf_17 : decode cX0_voteOf 17 = .ok (.invokevirtual 57, 3) := by decide +kernel
theorem dX0_voteOf_20 : decode cX0_voteOf 20 = .ok (.aload_n 0, 1) := by decide +kernel
theorem dX0_voteOf_21 : decode cX0_voteOf 21 = .ok (.invokevirtual 61, 3) := by decide +kernel
theorem dX0_voteOf_24 : decode cX0_voteOf 24 = .ok (.fstore 4, 2) := by decide +kernel
theorem dX0_voteOf_26 : decode cX0_voteOf 26 = .ok (.fload 4, 2) := by decide +kernel
theorem dX0_voteOf_28 : decode cX0_voteOf 28 = .ok (.fconst 0, 1) := by decide +kernel
theorem dX0_voteOf_29 : decode cX0_voteOf 29 = .ok (.fcmp .g, 1) := by decide +kernel
theorem dX0_voteOf_30 : decode cX0_voteOf 30 = .ok (.ifCond .gt 6, 3) := by decide +kernel
theorem dX0_voteOf_33 : decode cX0_voteOf 33 = .ok (.bipush (-5), 2) := by decide +kernel
theorem dX0_voteOf_35 : decode cX0_voteOf 35 = .ok (.ireturn, 1) := by decide +kernel
theorem dX0_voteOf_36 : decode cX0_voteOf 36 = .ok (.aload_n 1, 1) := by decide +kernel
theorem dX0_voteOf_37 : decode cX0_voteOf 37 = .ok (.getfield 32, 3) := by decide +kernel
theorem dX0_voteOf_40 : decode cX0_voteOf 40 = .ok (.iload_n 3, 1) := by decide +kernel
theorem dX0_voteOf_41 : decode cX0_voteOf 41 = .ok (.iaload, 1) := by decide +kernel
theorem dX0_voteOf_42 : decode cX0_voteOf 42 = .ok (.istore 5, 2) := by decide +kernel
theorem dX0_voteOf_44 : decode cX0_voteOf 44 = .ok (.aload_n 0, 1) := by decide +kernel
theorem dX0_voteOf_45 : decode cX0_voteOf 45 = .ok (.getfield 9, 3) := by decide +kernel
theorem dX0_voteOf_48 : decode cX0_voteOf 48 = .ok (.iload 5, 2) := by decide +kernel
theorem dX0_voteOf_50 : decode cX0_voteOf 50 = .ok (.faload, 1) := by decide +kernel
theorem dX0_voteOf_51 : decode cX0_voteOf 51 = .ok (.fload 4, 2) := by decide +kernel
theorem dX0_voteOf_53 : decode cX0_voteOf 53 = .ok (.fcmp .l, 1) := by decide +kernel
theorem dX0_voteOf_54 : decode cX0_voteOf 54 = .ok (.ifCond .ne 8, 3) := by decide +kernel
theorem dX0_voteOf_57 : decode cX0_voteOf 57 = .ok (.iload 5, 2) := by decide +kernel
theorem dX0_voteOf_59 : decode cX0_voteOf 59 = .ok (.goto 9, 3) := by decide +kernel
theorem dX0_voteOf_62 : decode cX0_voteOf 62 = .ok (.aload_n 0, 1) := by decide +kernel
theorem dX0_voteOf_63 : decode cX0_voteOf 63 = .ok (.fload 4, 2) := by decide +kernel
theorem dX0_voteOf_65 : decode cX0_voteOf 65 = .ok (.invokevirtual 65, 3) := by decide +kernel
theorem dX0_voteOf_68 : decode cX0_voteOf 68 = .ok (.ireturn, 1) := by decide +kernel
theorem dX0_lowestOf_0 : decode cX0_lowestOf 0 = .ok (.iconst 0, 1) := by decide +kernel
theorem dX0_lowestOf_1 : decode cX0_lowestOf 1 = .ok (.istore_n 2, 1) := by decide +kernel
theorem dX0_lowestOf_2 : decode cX0_lowestOf 2 = .ok (.iload_n 2, 1) := by decide +kernel
theorem dX0_lowestOf_3 : decode cX0_lowestOf 3 = .ok (.iconst 4, 1) := by decide +kernel
theorem dX0_lowestOf_4 : decode cX0_lowestOf 4 = .ok (.if_icmp .ge 22, 3) := by decide +kernel
theorem dX0_lowestOf_7 : decode cX0_lowestOf 7 = .ok (.aload_n 0, 1) := by decide +kernel
theorem dX0_lowestOf_8 : decode cX0_lowestOf 8 = .ok (.getfield 9, 3) := by decide +kernel
theorem dX0_lowestOf_11 : decode cX0_lowestOf 11 = .ok (.iload_n 2, 1) := by decide +kernel
theorem dX0_lowestOf_12 : decode cX0_lowestOf 12 = .ok (.faload, 1) := by decide +kernel
theorem dX0_lowestOf_13 : decode cX0_lowestOf 13 = .ok (.fload_n 1, 1) := by decide +kernel
theorem dX0_lowestOf_14 : decode cX0_lowestOf 14 = .ok (.fcmp .l, 1) := by decide +kernel
theorem dX0_lowestOf_15 : decode cX0_lowestOf 15 = .ok (.ifCond .ne 5, 3) := by decide +kernel
theorem dX0_lowestOf_18 : decode cX0_lowestOf 18 = .ok (.iload_n 2, 1) := by decide +kernel
theorem dX0_lowestOf_19 : decode cX0_lowestOf 19 = .ok (.ireturn, 1) := by decide +kernel
theorem dX0_lowestOf_20 : decode cX0_lowestOf 20 = .ok (.iinc 2 1, 3) := by decide +kernel
theorem dX0_lowestOf_23 : decode cX0_lowestOf 23 = .ok (.goto (-21), 3) := by decide +kernel
theorem dX0_lowestOf_26 : decode cX0_lowestOf 26 = .ok (.bipush (-5), 2) := by decide +kernel
theorem dX0_lowestOf_28 : decode cX0_lowestOf 28 = .ok (.ireturn, 1) := by decide +kernel
theorem dX0_howManyOf_0 : decode cX0_howManyOf 0 = .ok (.iconst 0, 1) := by decide +kernel
theorem dX0_howManyOf_1 : decode cX0_howManyOf 1 = .ok (.istore_n 2, 1) := by decide +kernel
theorem dX0_howManyOf_2 : decode cX0_howManyOf 2 = .ok (.iconst 0, 1) := by decide +kernel
theorem dX0_howManyOf_3 : decode cX0_howManyOf 3 = .ok (.istore_n 3, 1) := by decide +kernel
theorem dX0_howManyOf_4 : decode cX0_howManyOf 4 = .ok (.iload_n 3, 1) := by decide +kernel
theorem dX0_howManyOf_5 : decode cX0_howManyOf 5 = .ok (.iconst 4, 1) := by decide +kernel
theorem dX0_howManyOf_6 : decode cX0_howManyOf 6 = .ok (.if_icmp .ge 23, 3) := by decide +kernel
theorem dX0_howManyOf_9 : decode cX0_howManyOf 9 = .ok (.aload_n 0, 1) := by decide +kernel
theorem dX0_howManyOf_10 : decode cX0_howManyOf 10 = .ok (.getfield 9, 3) := by decide +kernel
theorem dX0_howManyOf_13 : decode cX0_howManyOf 13 = .ok (.iload_n 3, 1) := by decide +kernel
theorem dX0_howManyOf_14 : decode cX0_howManyOf 14 = .ok (.faload, 1) := by decide +kernel
theorem dX0_howManyOf_15 : decode cX0_howManyOf 15 = .ok (.fload_n 1, 1) := by decide +kernel
theorem dX0_howManyOf_16 : decode cX0_howManyOf 16 = .ok (.fcmp .l, 1) := by decide +kernel
theorem dX0_howManyOf_17 : decode cX0_howManyOf 17 = .ok (.ifCond .ne 6, 3) := by decide +kernel
theorem dX0_howManyOf_20 : decode cX0_howManyOf 20 = .ok (.iinc 2 1, 3) := by decide +kernel
theorem dX0_howManyOf_23 : decode cX0_howManyOf 23 = .ok (.iinc 3 1, 3) := by decide +kernel
theorem dX0_howManyOf_26 : decode cX0_howManyOf 26 = .ok (.goto (-22), 3) := by decide +kernel
theorem dX0_howManyOf_29 : decode cX0_howManyOf 29 = .ok (.iload_n 2, 1) := by decide +kernel
theorem dX0_howManyOf_30 : decode cX0_howManyOf 30 = .ok (.ireturn, 1) := by decide +kernel
theorem dX0_reasonOf_0 : decode cX0_reasonOf 0 = .ok (.aload_n 0, 1) := by decide +kernel
theorem dX0_reasonOf_1 : decode cX0_reasonOf 1 = .ok (.aload_n 1, 1) := by decide +kernel
theorem dX0_reasonOf_2 : decode cX0_reasonOf 2 = .ok (.iload_n 2, 1) := by decide +kernel
theorem dX0_reasonOf_3 : decode cX0_reasonOf 3 = .ok (.invokevirtual 53, 3) := by decide +kernel
theorem dX0_reasonOf_6 : decode cX0_reasonOf 6 = .ok (.istore_n 3, 1) := by decide +kernel
theorem dX0_reasonOf_7 : decode cX0_reasonOf 7 = .ok (.iload_n 3, 1) := by decide +kernel
theorem dX0_reasonOf_8 : decode cX0_reasonOf 8 = .ok (.ifCond .ge 5, 3) := by decide +kernel
theorem dX0_reasonOf_11 : decode cX0_reasonOf 11 = .ok (.iconst 3, 1) := by decide +kernel
theorem dX0_reasonOf_12 : decode cX0_reasonOf 12 = .ok (.ireturn, 1) := by decide +kernel
theorem dX0_reasonOf_13 : decode cX0_reasonOf 13 = .ok (.aload_n 0, 1) := by decide +kernel
theorem dX0_reasonOf_14 : decode cX0_reasonOf 14 = .ok (.aload_n 1, 1) := by decide +kernel
theorem dX0_reasonOf_15 : decode cX0_reasonOf 15 = .ok (.iload_n 2, 1) := by decide +kernel
theorem dX0_reasonOf_16 : decode cX0_reasonOf 16 = .ok (.invokevirtual 57, 3) := by decide +kernel
theorem dX0_reasonOf_19 : decode cX0_reasonOf 19 = .ok (.aload_n 0, 1) := by decide +kernel
theorem dX0_reasonOf_20 : decode cX0_reasonOf 20 = .ok (.invokevirtual 61, 3) := by decide +kernel
theorem dX0_reasonOf_23 : decode cX0_reasonOf 23 = .ok (.fstore 4, 2) := by decide +kernel
theorem dX0_reasonOf_25 : decode cX0_reasonOf 25 = .ok (.fload 4, 2) := by decide +kernel
theorem dX0_reasonOf_27 : decode cX0_reasonOf 27 = .ok (.fconst 0, 1) := by decide +kernel
theorem dX0_reasonOf_28 : decode cX0_reasonOf 28 = .ok (.fcmp .g, 1) := by decide +kernel
theorem dX0_reasonOf_29 : decode cX0_reasonOf 29 = .ok (.ifCond .gt 5, 3) := by decide +kernel
theorem dX0_reasonOf_32 : decode cX0_reasonOf 32 = .ok (.iconst 4, 1) := by decide +kernel
theorem dX0_reasonOf_33 : decode cX0_reasonOf 33 = .ok (.ireturn, 1) := by decide +kernel
theorem dX0_reasonOf_34 : decode cX0_reasonOf 34 = .ok (.aload_n 0, 1) := by decide +kernel
theorem dX0_reasonOf_35 : decode cX0_reasonOf 35 = .ok (.fload 4, 2) := by decide +kernel
theorem dX0_reasonOf_37 : decode cX0_reasonOf 37 = .ok (.invokevirtual 69, 3) := by decide +kernel
theorem dX0_reasonOf_40 : decode cX0_reasonOf 40 = .ok (.iconst 1, 1) := by decide +kernel
theorem dX0_reasonOf_41 : decode cX0_reasonOf 41 = .ok (.if_icmp .ne 5, 3) := by decide +kernel
theorem dX0_reasonOf_44 : decode cX0_reasonOf 44 = .ok (.iconst 0, 1) := by decide +kernel
theorem dX0_reasonOf_45 : decode cX0_reasonOf 45 = .ok (.ireturn, 1) := by decide +kernel
theorem dX0_reasonOf_46 : decode cX0_reasonOf 46 = .ok (.aload_n 0, 1) := by decide +kernel
theorem dX0_reasonOf_47 : decode cX0_reasonOf 47 = .ok (.getfield 9, 3) := by decide +kernel
theorem dX0_reasonOf_50 : decode cX0_reasonOf 50 = .ok (.aload_n 1, 1) := by decide +kernel
theorem dX0_reasonOf_51 : decode cX0_reasonOf 51 = .ok (.getfield 32, 3) := by decide +kernel
theorem dX0_reasonOf_54 : decode cX0_reasonOf 54 = .ok (.iload_n 3, 1) := by decide +kernel
theorem dX0_reasonOf_55 : decode cX0_reasonOf 55 = .ok (.iaload, 1) := by decide +kernel
theorem dX0_reasonOf_56 : decode cX0_reasonOf 56 = .ok (.faload, 1) := by decide +kernel
theorem dX0_reasonOf_57 : decode cX0_reasonOf 57 = .ok (.fload 4, 2) := by decide +kernel
theorem dX0_reasonOf_59 : decode cX0_reasonOf 59 = .ok (.fcmp .l, 1) := by decide +kernel
theorem dX0_reasonOf_60 : decode cX0_reasonOf 60 = .ok (.ifCond .ne 7, 3) := by decide +kernel
theorem dX0_reasonOf_63 : decode cX0_reasonOf 63 = .ok (.iconst 1, 1) := by decide +kernel
theorem dX0_reasonOf_64 : decode cX0_reasonOf 64 = .ok (.goto 4, 3) := by decide +kernel
theorem dX0_reasonOf_67 : decode cX0_reasonOf 67 = .ok (.iconst 2, 1) := by decide +kernel
theorem dX0_reasonOf_68 : decode cX0_reasonOf 68 = .ok (.ireturn, 1) := by decide +kernel
theorem dX0_poll_0 : decode cX0_poll 0 = .ok (.iconst 0, 1) := by decide +kernel
theorem dX0_poll_1 : decode cX0_poll 1 = .ok (.istore_n 2, 1) := by decide +kernel
theorem dX0_poll_2 : decode cX0_poll 2 = .ok (.iload_n 2, 1) := by decide +kernel
theorem dX0_poll_3 : decode cX0_poll 3 = .ok (.bipush 6, 2) := by decide +kernel
theorem dX0_poll_5 : decode cX0_poll 5 = .ok (.if_icmp .ge 21, 3) := by decide +kernel
theorem dX0_poll_8 : decode cX0_poll 8 = .ok (.aload_n 0, 1) := by decide +kernel
theorem dX0_poll_9 : decode cX0_poll 9 = .ok (.getfield 15, 3) := by decide +kernel
theorem dX0_poll_12 : decode cX0_poll 12 = .ok (.iload_n 2, 1) := by decide +kernel
theorem dX0_poll_13 : decode cX0_poll 13 = .ok (.aload_n 0, 1) := by decide +kernel
theorem dX0_poll_14 : decode cX0_poll 14 = .ok (.aload_n 1, 1) := by decide +kernel
theorem dX0_poll_15 : decode cX0_poll 15 = .ok (.iload_n 2, 1) := by decide +kernel
theorem dX0_poll_16 : decode cX0_poll 16 = .ok (.invokevirtual 72, 3) := by decide +kernel
theorem dX0_poll_19 : decode cX0_poll 19 = .ok (.iastore, 1) := by decide +kernel
theorem dX0_poll_20 : decode cX0_poll 20 = .ok (.iinc 2 1, 3) := by decide +kernel
theorem dX0_poll_23 : decode cX0_poll 23 = .ok (.goto (-21), 3) := by decide +kernel
theorem dX0_poll_26 : decode cX0_poll 26 = .ok (.return_, 1) := by decide +kernel
theorem dX0_decide_0 : decode cX0_decide 0 = .ok (.aload_n 0, 1) := by decide +kernel
theorem dX0_decide_1 : decode cX0_decide 1 = .ok (.aload_n 1, 1) := by decide +kernel
theorem dX0_decide_2 : decode cX0_decide 2 = .ok (.invokevirtual 75, 3) := by decide +kernel
theorem dX0_decide_5 : decode cX0_decide 5 = .ok (.aload_n 0, 1) := by decide +kernel
theorem dX0_decide_6 : decode cX0_decide 6 = .ok (.aload_n 1, 1) := by decide +kernel
theorem dX0_decide_7 : decode cX0_decide 7 = .ok (.invokevirtual 79, 3) := by decide +kernel
theorem dX0_decide_10 : decode cX0_decide 10 = .ok (.ireturn, 1) := by decide +kernel
theorem dX0_bySeats_0 : decode cX0_bySeats 0 = .ok (.iconst 0, 1) := by decide +kernel
theorem dX0_bySeats_1 : decode cX0_bySeats 1 = .ok (.istore_n 2, 1) := by decide +kernel
theorem dX0_bySeats_2 : decode cX0_bySeats 2 = .ok (.iload_n 2, 1) := by decide +kernel
theorem dX0_bySeats_3 : decode cX0_bySeats 3 = .ok (.iconst 4, 1) := by decide +kernel
theorem dX0_bySeats_4 : decode cX0_bySeats 4 = .ok (.if_icmp .ge 20, 3) := by decide +kernel
theorem dX0_bySeats_7 : decode cX0_bySeats 7 = .ok (.aload_n 0, 1) := by decide +kernel
theorem dX0_bySeats_8 : decode cX0_bySeats 8 = .ok (.aload_n 1, 1) := by decide +kernel
theorem dX0_bySeats_9 : decode cX0_bySeats 9 = .ok (.iload_n 2, 1) := by decide +kernel
theorem dX0_bySeats_10 : decode cX0_bySeats 10 = .ok (.invokevirtual 83, 3) := by decide +kernel
theorem dX0_bySeats_13 : decode cX0_bySeats 13 = .ok (.ifCond .eq 5, 3) := by decide +kernel
theorem dX0_bySeats_16 : decode cX0_bySeats 16 = .ok (.iload_n 2, 1) := by decide +kernel
theorem dX0_bySeats_17 : decode cX0_bySeats 17 = .ok (.ireturn, 1) := by decide +kernel
theorem dX0_bySeats_18 : decode cX0_bySeats 18 = .ok (.iinc 2 1, 3) := by decide +kernel
theorem dX0_bySeats_21 : decode cX0_bySeats 21 = .ok (.goto (-19), 3) := by decide +kernel
theorem dX0_bySeats_24 : decode cX0_bySeats 24 = .ok (.bipush (-5), 2) := by decide +kernel
theorem dX0_bySeats_26 : decode cX0_bySeats 26 = .ok (.ireturn, 1) := by decide +kernel
theorem dX0_decideByPairs_0 : decode cX0_decideByPairs 0 = .ok (.aload_n 0, 1) := by decide +kernel
theorem dX0_decideByPairs_1 : decode cX0_decideByPairs 1 = .ok (.aload_n 1, 1) := by decide +kernel
theorem dX0_decideByPairs_2 : decode cX0_decideByPairs 2 = .ok (.invokevirtual 75, 3) := by decide +kernel
theorem dX0_decideByPairs_5 : decode cX0_decideByPairs 5 = .ok (.aload_n 0, 1) := by decide +kernel
theorem dX0_decideByPairs_6 : decode cX0_decideByPairs 6 = .ok (.aload_n 1, 1) := by decide +kernel
theorem dX0_decideByPairs_7 : decode cX0_decideByPairs 7 = .ok (.invokevirtual 87, 3) := by decide +kernel
theorem dX0_decideByPairs_10 : decode cX0_decideByPairs 10 = .ok (.istore_n 2, 1) := by decide +kernel
theorem dX0_decideByPairs_11 : decode cX0_decideByPairs 11 = .ok (.iload_n 2, 1) := by decide +kernel
theorem dX0_decideByPairs_12 : decode cX0_decideByPairs 12 = .ok (.invokestatic 90, 3) := by decide +kernel
theorem dX0_decideByPairs_15 : decode cX0_decideByPairs 15 = .ok (.ifCond .eq 16, 3) := by decide +kernel
theorem dX0_decideByPairs_18 : decode cX0_decideByPairs 18 = .ok (.aload_n 0, 1) := by decide +kernel
theorem dX0_decideByPairs_19 : decode cX0_decideByPairs 19 = .ok (.aload_n 1, 1) := by decide +kernel
theorem dX0_decideByPairs_20 : decode cX0_decideByPairs 20 = .ok (.iload_n 2, 1) := by decide +kernel
theorem dX0_decideByPairs_21 : decode cX0_decideByPairs 21 = .ok (.invokevirtual 83, 3) := by decide +kernel
theorem dX0_decideByPairs_24 : decode cX0_decideByPairs 24 = .ok (.ifCond .eq 7, 3) := by decide +kernel
theorem dX0_decideByPairs_27 : decode cX0_decideByPairs 27 = .ok (.iload_n 2, 1) := by decide +kernel
theorem dX0_decideByPairs_28 : decode cX0_decideByPairs 28 = .ok (.goto 5, 3) := by decide +kernel
theorem dX0_decideByPairs_31 : decode cX0_decideByPairs 31 = .ok (.bipush (-5), 2) := by decide +kernel
theorem dX0_decideByPairs_33 : decode cX0_decideByPairs 33 = .ok (.ireturn, 1) := by decide +kernel
theorem dX0_leftByPairs_0 : decode cX0_leftByPairs 0 = .ok (.bipush (-5), 2) := by decide +kernel
theorem dX0_leftByPairs_2 : decode cX0_leftByPairs 2 = .ok (.istore_n 2, 1) := by decide +kernel
theorem dX0_leftByPairs_3 : decode cX0_leftByPairs 3 = .ok (.iconst 0, 1) := by decide +kernel
theorem dX0_leftByPairs_4 : decode cX0_leftByPairs 4 = .ok (.istore_n 3, 1) := by decide +kernel
theorem dX0_leftByPairs_5 : decode cX0_leftByPairs 5 = .ok (.iconst 0, 1) := by decide +kernel
theorem dX0_leftByPairs_6 : decode cX0_leftByPairs 6 = .ok (.istore 4, 2) := by decide +kernel
theorem dX0_leftByPairs_8 : decode cX0_leftByPairs 8 = .ok (.iload 4, 2) := by decide +kernel
theorem dX0_leftByPairs_10 : decode cX0_leftByPairs 10 = .ok (.bipush 6, 2) := by decide +kernel
theorem dX0_leftByPairs_12 : decode cX0_leftByPairs 12 = .ok (.if_icmp .ge 64, 3) := by decide +kernel
theorem dX0_leftByPairs_15 : decode cX0_leftByPairs 15 = .ok (.aload_n 0, 1) := by decide +kernel
theorem dX0_leftByPairs_16 : decode cX0_leftByPairs 16 = .ok (.getfield 15, 3) := by decide +kernel
theorem dX0_leftByPairs_19 : decode cX0_leftByPairs 19 = .ok (.iload 4, 2) := by decide +kernel
theorem dX0_leftByPairs_21 : decode cX0_leftByPairs 21 = .ok (.iaload, 1) := by decide +kernel
theorem dX0_leftByPairs_22 : decode cX0_leftByPairs 22 = .ok (.istore 5, 2) := by decide +kernel
theorem dX0_leftByPairs_24 : decode cX0_leftByPairs 24 = .ok (.iload 5, 2) := by decide +kernel
theorem dX0_leftByPairs_26 : decode cX0_leftByPairs 26 = .ok (.invokestatic 90, 3) := by decide +kernel
theorem dX0_leftByPairs_29 : decode cX0_leftByPairs 29 = .ok (.ifCond .eq 31, 3) := by decide +kernel
theorem dX0_leftByPairs_32 : decode cX0_leftByPairs 32 = .ok (.iload 5, 2) := by decide +kernel
theorem dX0_leftByPairs_34 : decode cX0_leftByPairs 34 = .ok (.iload_n 2, 1) := by decide +kernel
theorem dX0_leftByPairs_35 : decode cX0_leftByPairs 35 = .ok (.if_icmp .ne 15, 3) := by decide +kernel
theorem dX0_leftByPairs_38 : decode cX0_leftByPairs 38 = .ok (.iload_n 3, 1) := by decide +kernel
theorem dX0_leftByPairs_39 : decode cX0_leftByPairs 39 = .ok (.aload_n 1, 1) := by decide +kernel
theorem dX0_leftByPairs_40 : decode cX0_leftByPairs 40 = .ok (.getfield 94, 3) := by decide +kernel
theorem dX0_leftByPairs_43 : decode cX0_leftByPairs 43 = .ok (.iload 4, 2) := by decide +kernel
theorem dX0_leftByPairs_45 : decode cX0_leftByPairs 45 = .ok (.iaload, 1) := by decide +kernel
theorem dX0_leftByPairs_46 : decode cX0_leftByPairs 46 = .ok (.iadd, 1) := by decide +kernel
theorem dX0_leftByPairs_47 : decode cX0_leftByPairs 47 = .ok (.goto 12, 3) := by decide +kernel
theorem dX0_leftByPairs_50 : decode cX0_leftByPairs 50 = .ok (.iload_n 3, 1) := by decide +kernel
theorem dX0_leftByPairs_51 : decode cX0_leftByPairs 51 = .ok (.aload_n 1, 1) := by decide +kernel
theorem dX0_leftByPairs_52 : decode cX0_leftByPairs 52 = .ok (.getfield 94, 3) := by decide +kernel
theorem dX0_leftByPairs_55 : decode cX0_leftByPairs 55 = .ok (.iload 4, 2) := by decide +kernel
theorem dX0_leftByPairs_57 : decode cX0_leftByPairs 57 = .ok (.iaload, 1) := by decide +kernel
theorem dX0_leftByPairs_58 : decode cX0_leftByPairs 58 = .ok (.isub, 1) := by decide +kernel
theorem dX0_leftByPairs_59 : decode cX0_leftByPairs 59 = .ok (.istore_n 3, 1) := by decide +kernel
theorem dX0_leftByPairs_60 : decode cX0_leftByPairs 60 = .ok (.iload_n 3, 1) := by decide +kernel
theorem dX0_leftByPairs_61 : decode cX0_leftByPairs 61 = .ok (.ifCond .ge 9, 3) := by decide +kernel
theorem dX0_leftByPairs_64 : decode cX0_leftByPairs 64 = .ok (.iload 5, 2) := by decide +kernel
theorem dX0_leftByPairs_66 : decode cX0_leftByPairs 66 = .ok (.istore_n 2, 1) := by decide +kernel
theorem dX0_leftByPairs_67 : decode cX0_leftByPairs 67 = .ok (.iload_n 3, 1) := by decide +kernel
theorem dX0_leftByPairs_68 : decode cX0_leftByPairs 68 = .ok (.ineg, 1) := by decide +kernel
theorem dX0_leftByPairs_69 : decode cX0_leftByPairs 69 = .ok (.istore_n 3, 1) := by decide +kernel
theorem dX0_leftByPairs_70 : decode cX0_leftByPairs 70 = .ok (.iinc 4 1, 3) := by decide +kernel
theorem dX0_leftByPairs_73 : decode cX0_leftByPairs 73 = .ok (.goto (-65), 3) := by decide +kernel
theorem dX0_leftByPairs_76 : decode cX0_leftByPairs 76 = .ok (.iload_n 2, 1) := by decide +kernel
theorem dX0_leftByPairs_77 : decode cX0_leftByPairs 77 = .ok (.ireturn, 1) := by decide +kernel
theorem dX0_hasMajority_0 : decode cX0_hasMajority 0 = .ok (.iconst 0, 1) := by decide +kernel
theorem dX0_hasMajority_1 : decode cX0_hasMajority 1 = .ok (.istore_n 3, 1) := by decide +kernel
theorem dX0_hasMajority_2 : decode cX0_hasMajority 2 = .ok (.iconst 0, 1) := by decide +kernel
theorem dX0_hasMajority_3 : decode cX0_hasMajority 3 = .ok (.istore 4, 2) := by decide +kernel
theorem dX0_hasMajority_5 : decode cX0_hasMajority 5 = .ok (.iload 4, 2) := by decide +kernel
theorem dX0_hasMajority_7 : decode cX0_hasMajority 7 = .ok (.bipush 6, 2) := by decide +kernel
theorem dX0_hasMajority_9 : decode cX0_hasMajority 9 = .ok (.if_icmp .ge 30, 3) := by decide +kernel
theorem dX0_hasMajority_12 : decode cX0_hasMajority 12 = .ok (.aload_n 0, 1) := by decide +kernel
theorem dX0_hasMajority_13 : decode cX0_hasMajority 13 = .ok (.getfield 15, 3) := by decide +kernel
theorem dX0_hasMajority_16 : decode cX0_hasMajority 16 = .ok (.iload 4, 2) := by decide +kernel
theorem dX0_hasMajority_18 : decode cX0_hasMajority 18 = .ok (.iaload, 1) := by decide +kernel
theorem dX0_hasMajority_19 : decode cX0_hasMajority 19 = .ok (.iload_n 2, 1) := by decide +kernel
theorem dX0_hasMajority_20 : decode cX0_hasMajority 20 = .ok (.if_icmp .ne 13, 3) := by decide +kernel
theorem dX0_hasMajority_23 : decode cX0_hasMajority 23 = .ok (.iload_n 3, 1) := by decide +kernel
theorem dX0_hasMajority_24 : decode cX0_hasMajority 24 = .ok (.aload_n 1, 1) := by decide +kernel
theorem dX0_hasMajority_25 : decode cX0_hasMajority 25 = .ok (.getfield 94, 3) := by decide +kernel
theorem dX0_hasMajority_28 : decode cX0_hasMajority 28 = .ok (.iload 4, 2) := by decide +kernel
theorem dX0_hasMajority_30 : decode cX0_hasMajority 30 = .ok (.iaload, 1) := by decide +kernel
theorem dX0_hasMajority_31 : decode cX0_hasMajority 31 = .ok (.iadd, 1) := by decide +kernel
theorem dX0_hasMajority_32 : decode cX0_hasMajority 32 = .ok (.istore_n 3, 1) := by decide +kernel
theorem dX0_hasMajority_33 : decode cX0_hasMajority 33 = .ok (.iinc 4 1, 3) := by decide +kernel
theorem dX0_hasMajority_36 : decode cX0_hasMajority 36 = .ok (.goto (-31), 3) := by decide +kernel
theorem dX0_hasMajority_39 : decode cX0_hasMajority 39 = .ok (.iconst 2, 1) := by decide +kernel
theorem dX0_hasMajority_40 : decode cX0_hasMajority 40 = .ok (.iload_n 3, 1) := by decide +kernel
theorem dX0_hasMajority_41 : decode cX0_hasMajority 41 = .ok (.imul, 1) := by decide +kernel
theorem dX0_hasMajority_42 : decode cX0_hasMajority 42 = .ok (.aload_n 1, 1) := by decide +kernel
theorem dX0_hasMajority_43 : decode cX0_hasMajority 43 = .ok (.getfield 94, 3) := by decide +kernel
theorem dX0_hasMajority_46 : decode cX0_hasMajority 46 = .ok (.invokestatic 97, 3) := by decide +kernel
theorem dX0_hasMajority_49 : decode cX0_hasMajority 49 = .ok (.if_icmp .le 7, 3) := by decide +kernel
theorem dX0_hasMajority_52 : decode cX0_hasMajority 52 = .ok (.iconst 1, 1) := by decide +kernel
theorem dX0_hasMajority_53 : decode cX0_hasMajority 53 = .ok (.goto 4, 3) := by decide +kernel
theorem dX0_hasMajority_56 : decode cX0_hasMajority 56 = .ok (.iconst 0, 1) := by decide +kernel
theorem dX0_hasMajority_57 : decode cX0_hasMajority 57 = .ok (.ireturn, 1) := by decide +kernel
theorem dX1_init_0 : decode cX1_init 0 = .ok (.aload_n 0, 1) := by decide +kernel
theorem dX1_init_1 : decode cX1_init 1 = .ok (.invokespecial 3, 3) := by decide +kernel
theorem dX1_init_4 : decode cX1_init 4 = .ok (.aload_n 0, 1) := by decide +kernel
theorem dX1_init_5 : decode cX1_init 5 = .ok (.bipush 12, 2) := by decide +kernel
theorem dX1_init_7 : decode cX1_init 7 = .ok (.newarray .int, 2) := by decide +kernel
theorem dX1_init_9 : decode cX1_init 9 = .ok (.putfield 9, 3) := by decide +kernel
theorem dX1_init_12 : decode cX1_init 12 = .ok (.aload_n 0, 1) := by decide +kernel
theorem dX1_init_13 : decode cX1_init 13 = .ok (.bipush 12, 2) := by decide +kernel
theorem dX1_init_15 : decode cX1_init 15 = .ok (.newarray .int, 2) := by decide +kernel
theorem dX1_init_17 : decode cX1_init 17 = .ok (.putfield 15, 3) := by decide +kernel
theorem dX1_init_20 : decode cX1_init 20 = .ok (.aload_n 0, 1) := by decide +kernel
theorem dX1_init_21 : decode cX1_init 21 = .ok (.bipush 12, 2) := by decide +kernel
theorem dX1_init_23 : decode cX1_init 23 = .ok (.newarray .int, 2) := by decide +kernel
theorem dX1_init_25 : decode cX1_init 25 = .ok (.putfield 18, 3) := by decide +kernel
theorem dX1_init_28 : decode cX1_init 28 = .ok (.aload_n 0, 1) := by decide +kernel
theorem dX1_init_29 : decode cX1_init 29 = .ok (.bipush 12, 2) := by decide +kernel
theorem dX1_init_31 : decode cX1_init 31 = .ok (.newarray .int, 2) := by decide +kernel
theorem dX1_init_33 : decode cX1_init 33 = .ok (.putfield 21, 3) := by decide +kernel
theorem dX1_init_36 : decode cX1_init 36 = .ok (.aload_n 0, 1) := by decide +kernel
theorem dX1_init_37 : decode cX1_init 37 = .ok (.bipush 12, 2) := by decide +kernel
theorem dX1_init_39 : decode cX1_init 39 = .ok (.newarray .int, 2) := by decide +kernel
theorem dX1_init_41 : decode cX1_init 41 = .ok (.putfield 24, 3) := by decide +kernel
theorem dX1_init_44 : decode cX1_init 44 = .ok (.aload_n 0, 1) := by decide +kernel
theorem dX1_init_45 : decode cX1_init 45 = .ok (.bipush 12, 2) := by decide +kernel
theorem dX1_init_47 : decode cX1_init 47 = .ok (.newarray .int, 2) := by decide +kernel
theorem dX1_init_49 : decode cX1_init 49 = .ok (.putfield 27, 3) := by decide +kernel
theorem dX1_init_52 : decode cX1_init 52 = .ok (.aload_n 0, 1) := by decide +kernel
theorem dX1_init_53 : decode cX1_init 53 = .ok (.bipush 12, 2) := by decide +kernel
theorem dX1_init_55 : decode cX1_init 55 = .ok (.newarray .int, 2) := by decide +kernel
theorem dX1_init_57 : decode cX1_init 57 = .ok (.putfield 30, 3) := by decide +kernel
theorem dX1_init_60 : decode cX1_init 60 = .ok (.aload_n 0, 1) := by decide +kernel
theorem dX1_init_61 : decode cX1_init 61 = .ok (.bipush 48, 2) := by decide +kernel
theorem dX1_init_63 : decode cX1_init 63 = .ok (.newarray .int, 2) := by decide +kernel
theorem dX1_init_65 : decode cX1_init 65 = .ok (.putfield 33, 3) := by decide +kernel
theorem dX1_init_68 : decode cX1_init 68 = .ok (.aload_n 0, 1) := by decide +kernel
theorem dX1_init_69 : decode cX1_init 69 = .ok (.bipush 6, 2) := by decide +kernel
theorem dX1_init_71 : decode cX1_init 71 = .ok (.newarray .int, 2) := by decide +kernel
theorem dX1_init_73 : decode cX1_init 73 = .ok (.putfield 36, 3) := by decide +kernel
theorem dX1_init_76 : decode cX1_init 76 = .ok (.aload_n 0, 1) := by decide +kernel
theorem dX1_init_77 : decode cX1_init 77 = .ok (.iconst 2, 1) := by decide +kernel
theorem dX1_init_78 : decode cX1_init 78 = .ok (.newarray .int, 2) := by decide +kernel
theorem dX1_init_80 : decode cX1_init 80 = .ok (.putfield 39, 3) := by decide +kernel
theorem dX1_init_83 : decode cX1_init 83 = .ok (.aload_n 0, 1) := by decide +kernel
theorem dX1_init_84 : decode cX1_init 84 = .ok (.sipush 640, 3) := by decide +kernel
theorem dX1_init_87 : decode cX1_init 87 = .ok (.putfield 42, 3) := by decide +kernel
theorem dX1_init_90 : decode cX1_init 90 = .ok (.aload_n 0, 1) := by decide +kernel
theorem dX1_init_91 : decode cX1_init 91 = .ok (.bipush (-5), 2) := by decide +kernel
theorem dX1_init_93 : decode cX1_init 93 = .ok (.putfield 46, 3) := by decide +kernel
theorem dX1_init_96 : decode cX1_init 96 = .ok (.iconst 0, 1) := by decide +kernel
theorem dX1_init_97 : decode cX1_init 97 = .ok (.istore_n 1, 1) := by decide +kernel
theorem dX1_init_98 : decode cX1_init 98 = .ok (.iload_n 1, 1) := by decide +kernel
theorem dX1_init_99 : decode cX1_init 99 = .ok (.bipush 6, 2) := by decide +kernel
theorem dX1_init_101 : decode cX1_init 101 = .ok (.if_icmp .ge 16, 3) := by decide +kernel
theorem dX1_init_104 : decode cX1_init 104 = .ok (.aload_n 0, 1) := by decide +kernel
theorem dX1_init_105 : decode cX1_init 105 = .ok (.getfield 36, 3) := by decide +kernel
theorem dX1_init_108 : decode cX1_init 108 = .ok (.iload_n 1, 1) := by decide +kernel
theorem dX1_init_109 : decode cX1_init 109 = .ok (.iconst 1, 1) := by decide +kernel
theorem dX1_init_110 : decode cX1_init 110 = .ok (.iastore, 1) := by decide +kernel
theorem dX1_init_111 : decode cX1_init 111 = .ok (.iinc 1 1, 3) := by decide +kernel
theorem dX1_init_114 : decode cX1_init 114 = .ok (.goto (-16), 3) := by decide +kernel
theorem dX1_init_117 : decode cX1_init 117 = .ok (.aload_n 0, 1) := by decide +kernel
theorem dX1_init_118 : decode cX1_init 118 = .ok (.getfield 39, 3) := by decide +kernel
theorem dX1_init_121 : decode cX1_init 121 = .ok (.iconst 1, 1) := by decide +kernel
theorem dX1_init_122 : decode cX1_init 122 = .ok (.iconst 2, 1) := by decide +kernel
theorem dX1_init_123 : decode cX1_init 123 = .ok (.iastore, 1) := by decide +kernel
theorem dX1_init_124 : decode cX1_init 124 = .ok (.return_, 1) := by decide +kernel
theorem dX1_become_0 : decode cX1_become 0 = .ok (.aload_n 1, 1) := by decide +kernel
theorem dX1_become_1 : decode cX1_become 1 = .ok (.getfield 9, 3) := by decide +kernel
theorem dX1_become_4 : decode cX1_become 4 = .ok (.aload_n 0, 1) := by decide +kernel
theorem dX1_become_5 : decode cX1_become 5 = .ok (.getfield 9, 3) := by decide +kernel
theorem dX1_become_8 : decode cX1_become 8 = .ok (.invokestatic 49, 3) := by decide +kernel
theorem dX1_become_11 : decode cX1_become 11 = .ok (.aload_n 1, 1) := by decide +kernel
theorem dX1_become_12 : decode cX1_become 12 = .ok (.getfield 15, 3) := by decide +kernel
theorem dX1_become_15 : decode cX1_become 15 = .ok (.aload_n 0, 1) := by decide +kernel
theorem dX1_become_16 : decode cX1_become 16 = .ok (.getfield 15, 3) := by decide +kernel
theorem dX1_become_19 : decode cX1_become 19 = .ok (.invokestatic 49, 3) := by decide +kernel
theorem dX1_become_22 : decode cX1_become 22 = .ok (.aload_n 1, 1) := by decide +kernel
theorem dX1_become_23 : decode cX1_become 23 = .ok (.getfield 18, 3) := by decide +kernel
theorem dX1_become_26 : decode cX1_become 26 = .ok (.aload_n 0, 1) := by decide +kernel
theorem dX1_become_27 : decode cX1_become 27 = .ok (.getfield 18, 3) := by decide +kernel
theorem dX1_become_30 : decode cX1_become 30 = .ok (.invokestatic 49, 3) := by decide +kernel
theorem dX1_become_33 : decode cX1_become 33 = .ok (.aload_n 1, 1) := by decide +kernel
theorem dX1_become_34 : decode cX1_become 34 = .ok (.getfield 21, 3) := by decide +kernel
theorem dX1_become_37 : decode cX1_become 37 = .ok (.aload_n 0, 1) := by decide +kernel
theorem dX1_become_38 : decode cX1_become 38 = .ok (.getfield 21, 3) := by decide +kernel
theorem dX1_become_41 : decode cX1_become 41 = .ok (.invokestatic 49, 3) := by decide +kernel
theorem dX1_become_44 : decode cX1_become 44 = .ok (.aload_n 1, 1) := by decide +kernel
theorem dX1_become_45 : decode cX1_become 45 = .ok (.getfield 24, 3) := by decide +kernel
theorem dX1_become_48 : decode cX1_become 48 = .ok (.aload_n 0, 1) := by decide +kernel
theorem dX1_become_49 : decode cX1_become 49 = .ok (.getfield 24, 3) := by decide +kernel
theorem dX1_become_52 : decode cX1_become 52 = .ok (.invokestatic 49, 3) := by decide +kernel
theorem dX1_become_55 : decode cX1_become 55 = .ok (.aload_n 1, 1) := by decide +kernel
theorem dX1_become_56 : decode cX1_become 56 = .ok (.getfield 27, 3) := by decide +kernel
theorem dX1_become_59 : decode cX1_become 59 = .ok (.aload_n 0, 1) := by decide +kernel
theorem dX1_become_60 : decode cX1_become 60 = .ok (.getfield 27, 3) := by decide +kernel
theorem dX1_become_63 : decode cX1_become 63 = .ok (.invokestatic 49, 3) := by decide +kernel
theorem dX1_become_66 : decode cX1_become 66 = .ok (.aload_n 1, 1) := by decide +kernel
theorem dX1_become_67 : decode cX1_become 67 = .ok (.getfield 30, 3) := by decide +kernel
theorem dX1_become_70 : decode cX1_become 70 = .ok (.aload_n 0, 1) := by decide +kernel
theorem dX1_become_71 : decode cX1_become 71 = .ok (.getfield 30, 3) := by decide +kernel
theorem dX1_become_74 : decode cX1_become 74 = .ok (.invokestatic 49, 3) := by decide +kernel
theorem dX1_become_77 : decode cX1_become 77 = .ok (.aload_n 1, 1) := by decide +kernel
theorem dX1_become_78 : decode cX1_become 78 = .ok (.getfield 33, 3) := by decide +kernel
theorem dX1_become_81 : decode cX1_become 81 = .ok (.aload_n 0, 1) := by decide +kernel
theorem dX1_become_82 : decode cX1_become 82 = .ok (.getfield 33, 3) := by decide +kernel
theorem dX1_become_85 : decode cX1_become 85 = .ok (.invokestatic 49, 3) := by decide +kernel
theorem dX1_become_88 : decode cX1_become 88 = .ok (.aload_n 1, 1) := by decide +kernel
theorem dX1_become_89 : decode cX1_become 89 = .ok (.getfield 36, 3) := by decide +kernel
theorem dX1_become_92 : decode cX1_become 92 = .ok (.aload_n 0, 1) := by decide +kernel
theorem dX1_become_93 : decode cX1_become 93 = .ok (.getfield 36, 3) := by decide +kernel
theorem dX1_become_96 : decode cX1_become 96 = .ok (.invokestatic 49, 3) := by decide +kernel
theorem dX1_become_99 : decode cX1_become 99 = .ok (.aload_n 1, 1) := by decide +kernel
theorem dX1_become_100 : decode cX1_become 100 = .ok (.getfield 39, 3) := by decide +kernel
theorem dX1_become_103 : decode cX1_become 103 = .ok (.aload_n 0, 1) := by decide +kernel
theorem dX1_become_104 : decode cX1_become 104 = .ok (.getfield 39, 3) := by decide +kernel
theorem dX1_become_107 : decode cX1_become 107 = .ok (.invokestatic 49, 3) := by decide +kernel
theorem dX1_become_110 : decode cX1_become 110 = .ok (.aload_n 0, 1) := by decide +kernel
theorem dX1_become_111 : decode cX1_become 111 = .ok (.aload_n 1, 1) := by decide +kernel
theorem dX1_become_112 : decode cX1_become 112 = .ok (.getfield 53, 3) := by decide +kernel
theorem dX1_become_115 : decode cX1_become 115 = .ok (.putfield 53, 3) := by decide +kernel
theorem dX1_become_118 : decode cX1_become 118 = .ok (.aload_n 0, 1) := by decide +kernel
theorem dX1_become_119 : decode cX1_become 119 = .ok (.aload_n 1, 1) := by decide +kernel
theorem dX1_become_120 : decode cX1_become 120 = .ok (.getfield 56, 3) := by decide +kernel
theorem dX1_become_123 : decode cX1_become 123 = .ok (.putfield 56, 3) := by decide +kernel
theorem dX1_become_126 : decode cX1_become 126 = .ok (.aload_n 0, 1) := by decide +kernel
theorem dX1_become_127 : decode cX1_become 127 = .ok (.aload_n 1, 1) := by decide +kernel
theorem dX1_become_128 : decode cX1_become 128 = .ok (.getfield 59, 3) := by decide +kernel
theorem dX1_become_131 : decode cX1_become 131 = .ok (.putfield 59, 3) := by decide +kernel
theorem dX1_become_134 : decode cX1_become 134 = .ok (.aload_n 0, 1) := by decide +kernel
theorem dX1_become_135 : decode cX1_become 135 = .ok (.aload_n 1, 1) := by decide +kernel
theorem dX1_become_136 : decode cX1_become 136 = .ok (.getfield 42, 3) := by decide +kernel
theorem dX1_become_139 : decode cX1_become 139 = .ok (.putfield 42, 3) := by decide +kernel
theorem dX1_become_142 : decode cX1_become 142 = .ok (.aload_n 0, 1) := by decide +kernel
theorem dX1_become_143 : decode cX1_become 143 = .ok (.aload_n 1, 1) := by decide +kernel
theorem dX1_become_144 : decode cX1_become 144 = .ok (.getfield 62, 3) := by decide +kernel
theorem dX1_become_147 : decode cX1_become 147 = .ok (.putfield 62, 3) := by decide +kernel
theorem dX1_become_150 : decode cX1_become 150 = .ok (.aload_n 0, 1) := by decide +kernel
theorem dX1_become_151 : decode cX1_become 151 = .ok (.aload_n 1, 1) := by decide +kernel
theorem dX1_become_152 : decode cX1_become 152 = .ok (.getfield 65, 3) := by decide +kernel
theorem dX1_become_155 : decode cX1_become 155 = .ok (.putfield 65, 3) := by decide +kernel
theorem dX1_become_158 : decode cX1_become 158 = .ok (.aload_n 0, 1) := by decide +kernel
theorem dX1_become_159 : decode cX1_become 159 = .ok (.aload_n 1, 1) := by decide +kernel
theorem dX1_become_160 : decode cX1_become 160 = .ok (.getfield 46, 3) := by decide +kernel
theorem dX1_become_163 : decode cX1_become 163 = .ok (.putfield 46, 3) := by decide +kernel
theorem dX1_become_166 : decode cX1_become 166 = .ok (.return_, 1) := by decide +kernel
theorem dX1_raise_0 : decode cX1_raise 0 = .ok (.iload_n 1, 1) := by decide +kernel
theorem dX1_raise_1 : decode cX1_raise 1 = .ok (.invokestatic 68, 3) := by decide +kernel
theorem dX1_raise_4 : decode cX1_raise 4 = .ok (.ifCond .eq 11, 3) := by decide +kernel
theorem dX1_raise_7 : decode cX1_raise 7 = .ok (.iload 4, 2) := by decide +kernel
theorem dX1_raise_9 : decode cX1_raise 9 = .ok (.invokestatic 72, 3) := by decide +kernel
theorem dX1_raise_12 : decode cX1_raise 12 = .ok (.ifCond .ne 5, 3) := by decide +kernel
theorem dX1_raise_15 : decode cX1_raise 15 = .ok (.iconst (-1), 1) := by decide +kernel
theorem dX1_raise_16 : decode cX1_raise 16 = .ok (.ireturn, 1) := by decide +kernel
theorem dX1_raise_17 : decode cX1_raise 17 = .ok (.iload_n 2, 1) := by decide +kernel
theorem dX1_raise_18 : decode cX1_raise 18 = .ok (.iconst 1, 1) := by decide +kernel
theorem dX1_raise_19 : decode cX1_raise 19 = .ok (.iconst 5, 1) := by decide +kernel
theorem dX1_raise_20 : decode cX1_raise 20 = .ok (.invokestatic 75, 3) := by decide +kernel
theorem dX1_raise_23 : decode cX1_raise 23 = .ok (.ifCond .eq 13, 3) := by decide +kernel
theorem dX1_raise_26 : decode cX1_raise 26 = .ok (.iload_n 3, 1) := by decide +kernel
theorem dX1_raise_27 : decode cX1_raise 27 = .ok (.iconst 1, 1) := by decide +kernel
theorem dX1_raise_28 : decode cX1_raise 28 = .ok (.bipush 9, 2) := by decide +kernel
theorem dX1_raise_30 : decode cX1_raise 30 = .ok (.invokestatic 75, 3) := by decide +kernel
theorem dX1_raise_33 : decode cX1_raise 33 = .ok (.ifCond .ne 6, 3) := by decide +kernel
theorem dX1_raise_36 : decode cX1_raise 36 = .ok (.bipush (-2), 2) := by decide +kernel
theorem dX1_raise_38 : decode cX1_raise 38 = .ok (.ireturn, 1) := by decide +kernel
theorem dX1_raise_39 : decode cX1_raise 39 = .ok (.aload_n 0, 1) := by decide +kernel
theorem dX1_raise_40 : decode cX1_raise 40 = .ok (.getfield 53, 3) := by decide +kernel
theorem dX1_raise_43 : decode cX1_raise 43 = .ok (.bipush 12, 2) := by decide +kernel
theorem dX1_raise_45 : decode cX1_raise 45 = .ok (.if_icmp .lt 6, 3) := by decide +kernel
theorem dX1_raise_48 : decode cX1_raise 48 = .ok (.bipush (-3), 2) := by decide +kernel
theorem dX1_raise_50 : decode cX1_raise 50 = .ok (.ireturn, 1) := by decide +kernel
theorem dX1_raise_51 : decode cX1_raise 51 = .ok (.aload_n 0, 1) := by decide +kernel
theorem dX1_raise_52 : decode cX1_raise 52 = .ok (.getfield 53, 3) := by decide +kernel
theorem dX1_raise_55 : decode cX1_raise 55 = .ok (.istore 5, 2) := by decide +kernel
theorem dX1_raise_57 : decode cX1_raise 57 = .ok (.aload_n 0, 1) := by decide +kernel
theorem dX1_raise_58 : decode cX1_raise 58 = .ok (.getfield 9, 3) := by decide +kernel
theorem dX1_raise_61 : decode cX1_raise 61 = .ok (.iload 5, 2) := by decide +kernel
theorem dX1_raise_63 : decode cX1_raise 63 = .ok (.iload_n 1, 1) := by decide +kernel
theorem dX1_raise_64 : decode cX1_raise 64 = .ok (.iastore, 1) := by decide +kernel
theorem dX1_raise_65 : decode cX1_raise 65 = .ok (.aload_n 0, 1) := by decide +kernel
theorem dX1_raise_66 : decode cX1_raise 66 = .ok (.getfield 15, 3) := by decide +kernel
theorem dX1_raise_69 : decode cX1_raise 69 = .ok (.iload 5, 2) := by decide +kernel
theorem dX1_raise_71 : decode cX1_raise 71 = .ok (.iload_n 2, 1) := by decide +kernel
theorem dX1_raise_72 : decode cX1_raise 72 = .ok (.iastore, 1) := by decide +kernel
theorem dX1_raise_73 : decode cX1_raise 73 = .ok (.aload_n 0, 1) := by decide +kernel
theorem dX1_raise_74 : decode cX1_raise 74 = .ok (.getfield 18, 3) := by decide +kernel
theorem dX1_raise_77 : decode cX1_raise 77 = .ok (.iload 5, 2) := by decide +kernel
theorem dX1_raise_79 : decode cX1_raise 79 = .ok (.iload_n 3, 1) := by decide +kernel
theorem dX1_raise_80 : decode cX1_raise 80 = .ok (.iastore, 1) := by decide +kernel
theorem dX1_raise_81 : decode cX1_raise 81 = .ok (.aload_n 0, 1) := by decide +kernel
theorem dX1_raise_82 : decode cX1_raise 82 = .ok (.getfield 21, 3) := by decide +kernel
theorem dX1_raise_85 : decode cX1_raise 85 = .ok (.iload 5, 2) := by decide +kernel
theorem dX1_raise_87 : decode cX1_raise 87 = .ok (.iload 4, 2) := by decide +kernel
theorem dX1_raise_89 : decode cX1_raise 89 = .ok (.iastore, 1) := by decide +kernel
theorem dX1_raise_90 : decode cX1_raise 90 = .ok (.aload_n 0, 1) := by decide +kernel
theorem dX1_raise_91 : decode cX1_raise 91 = .ok (.getfield 24, 3) := by decide +kernel
theorem dX1_raise_94 : decode cX1_raise 94 = .ok (.iload 5, 2) := by decide +kernel
theorem dX1_raise_96 : decode cX1_raise 96 = .ok (.bipush 64, 2) := by decide +kernel
theorem dX1_raise_98 : decode cX1_raise 98 = .ok (.iastore, 1) := by decide +kernel
theorem dX1_raise_99 : decode cX1_raise 99 = .ok (.aload_n 0, 1) := by decide +kernel
theorem dX1_raise_100 : decode cX1_raise 100 = .ok (.dup, 1) := by decide +kernel
theorem dX1_raise_101 : decode cX1_raise 101 = .ok (.getfield 53, 3) := by decide +kernel
theorem dX1_raise_104 : decode cX1_raise 104 = .ok (.iconst 1, 1) := by decide +kernel
theorem dX1_raise_105 : decode cX1_raise 105 = .ok (.iadd, 1) := by decide +kernel
theorem dX1_raise_106 : decode cX1_raise 106 = .ok (.putfield 53, 3) := by decide +kernel
theorem dX1_raise_109 : decode cX1_raise 109 = .ok (.iload 5, 2) := by decide +kernel
theorem dX1_raise_111 : decode cX1_raise 111 = .ok (.ireturn, 1) := by decide +kernel
theorem dX1_bring_0 : decode cX1_bring 0 = .ok (.aload_n 0, 1) := by decide +kernel
theorem dX1_bring_1 : decode cX1_bring 1 = .ok (.iload_n 1, 1) := by decide +kernel
theorem dX1_bring_2 : decode cX1_bring 2 = .ok (.invokevirtual 79, 3) := by decide +kernel
theorem dX1_bring_5 : decode cX1_bring 5 = .ok (.ifCond .eq 10, 3) := by decide +kernel
theorem dX1_bring_8 : decode cX1_bring 8 = .ok (.iload_n 2, 1) := by decide +kernel
theorem dX1_bring_9 : decode cX1_bring 9 = .ok (.invokestatic 68, 3) := by decide +kernel
theorem dX1_bring_12 : decode cX1_bring 12 = .ok (.ifCond .ne 5, 3) := by decide +kernel
theorem dX1_bring_15 : decode cX1_bring 15 = .ok (.iconst (-1), 1) := by decide +kernel
theorem dX1_bring_16 : decode cX1_bring 16 = .ok (.ireturn, 1) := by decide +kernel
theorem dX1_bring_17 : decode cX1_bring 17 = .ok (.aload_n 0, 1) := by decide +kernel
theorem dX1_bring_18 : decode cX1_bring 18 = .ok (.getfield 9, 3) := by decide +kernel
theorem dX1_bring_21 : decode cX1_bring 21 = .ok (.iload_n 1, 1) := by decide +kernel
theorem dX1_bring_22 : decode cX1_bring 22 = .ok (.iaload, 1) := by decide +kernel
theorem dX1_bring_23 : decode cX1_bring 23 = .ok (.istore_n 3, 1) := by decide +kernel
theorem dX1_bring_24 : decode cX1_bring 24 = .ok (.iload_n 3, 1) := by decide +kernel
theorem dX1_bring_25 : decode cX1_bring 25 = .ok (.iload_n 2, 1) := by decide +kernel
theorem dX1_bring_26 : decode cX1_bring 26 = .ok (.if_icmp .ne 6, 3) := by decide +kernel
theorem dX1_bring_29 : decode cX1_bring 29 = .ok (.bipush (-5), 2) := by decide +kernel
theorem dX1_bring_31 : decode cX1_bring 31 = .ok (.ireturn, 1) := by decide +kernel
theorem dX1_bring_32 : decode cX1_bring 32 = .ok (.aload_n 0, 1) := by decide +kernel
theorem dX1_bring_33 : decode cX1_bring 33 = .ok (.getfield 9, 3) := by decide +kernel
theorem dX1_bring_36 : decode cX1_bring 36 = .ok (.iload_n 1, 1) := by decide +kernel
theorem dX1_bring_37 : decode cX1_bring 37 = .ok (.iload_n 2, 1) := by decide +kernel
theorem dX1_bring_38 : decode cX1_bring 38 = .ok (.iastore, 1) := by decide +kernel
theorem dX1_bring_39 : decode cX1_bring 39 = .ok (.iload_n 3, 1) := by decide +kernel
theorem dX1_bring_40 : decode cX1_bring 40 = .ok (.ireturn, 1) := by decide +kernel
theorem dX1_turnByHand_0 : decode cX1_turnByHand 0 = .ok (.aload_n 0, 1) := by decide +kernel
theorem dX1_turnByHand_1 : decode cX1_turnByHand 1 = .ok (.iload_n 1, 1) := by decide +kernel
theorem dX1_turnByHand_2 : decode cX1_turnByHand 2 = .ok (.invokevirtual 79, 3) := by decide +kernel
theorem dX1_turnByHand_5 : decode cX1_turnByHand 5 = .ok (.ifCond .eq 10, 3) := by decide +kernel
theorem dX1_turnByHand_8 : decode cX1_turnByHand 8 = .ok (.iload_n 2, 1) := by decide +kernel
theorem dX1_turnByHand_9 : decode cX1_turnByHand 9 = .ok (.invokestatic 72, 3) := by decide +kernel
theorem dX1_turnByHand_12 : decode cX1_turnByHand 12 = .ok (.ifCond .ne 5, 3) := by decide +kernel
theorem dX1_turnByHand_15 : decode cX1_turnByHand 15 = .ok (.iconst (-1), 1) := by decide +kernel
theorem dX1_turnByHand_16 : decode cX1_turnByHand 16 = .ok (.ireturn, 1) := by decide +kernel
theorem dX1_turnByHand_17 : decode cX1_turnByHand 17 = .ok (.aload_n 0, 1) := by decide +kernel
theorem dX1_turnByHand_18 : decode cX1_turnByHand 18 = .ok (.getfield 21, 3) := by decide +kernel
theorem dX1_turnByHand_21 : decode cX1_turnByHand 21 = .ok (.iload_n 1, 1) := by decide +kernel
theorem dX1_turnByHand_22 : decode cX1_turnByHand 22 = .ok (.iaload, 1) := by decide +kernel
theorem dX1_turnByHand_23 : decode cX1_turnByHand 23 = .ok (.istore_n 3, 1) := by decide +kernel
theorem dX1_turnByHand_24 : decode cX1_turnByHand 24 = .ok (.iload_n 3, 1) := by decide +kernel
theorem dX1_turnByHand_25 : decode cX1_turnByHand 25 = .ok (.iload_n 2, 1) := by decide +kernel
theorem dX1_turnByHand_26 : decode cX1_turnByHand 26 = .ok (.if_icmp .ne 6, 3) := by decide +kernel
theorem dX1_turnByHand_29 : decode cX1_turnByHand 29 = .ok (.bipush (-5), 2) := by decide +kernel
theorem dX1_turnByHand_31 : decode cX1_turnByHand 31 = .ok (.ireturn, 1) := by decide +kernel
theorem dX1_turnByHand_32 : decode cX1_turnByHand 32 = .ok (.aload_n 0, 1) := by decide +kernel
theorem dX1_turnByHand_33 : decode cX1_turnByHand 33 = .ok (.getfield 21, 3) := by decide +kernel
theorem dX1_turnByHand_36 : decode cX1_turnByHand 36 = .ok (.iload_n 1, 1) := by decide +kernel
theorem dX1_turnByHand_37 : decode cX1_turnByHand 37 = .ok (.iload_n 2, 1) := by decide +kernel
theorem dX1_turnByHand_38 : decode cX1_turnByHand 38 = .ok (.iastore, 1) := by decide +kernel
theorem dX1_turnByHand_39 : decode cX1_turnByHand 39 = .ok (.iload_n 3, 1) := by decide +kernel
theorem dX1_turnByHand_40 : decode cX1_turnByHand 40 = .ok (.ireturn, 1) := by decide +kernel
theorem dX1_takeCrow_0 : decode cX1_takeCrow 0 = .ok (.aload_n 0, 1) := by decide +kernel
theorem dX1_takeCrow_1 : decode cX1_takeCrow 1 = .ok (.iload_n 1, 1) := by decide +kernel
theorem dX1_takeCrow_2 : decode cX1_takeCrow 2 = .ok (.invokevirtual 79, 3) := by decide +kernel
theorem dX1_takeCrow_5 : decode cX1_takeCrow 5 = .ok (.ifCond .eq 10, 3) := by decide +kernel
theorem dX1_takeCrow_8 : decode cX1_takeCrow 8 = .ok (.iload_n 2, 1) := by decide +kernel
theorem dX1_takeCrow_9 : decode cX1_takeCrow 9 = .ok (.invokestatic 72, 3) := by decide +kernel
theorem dX1_takeCrow_12 : decode cX1_takeCrow 12 = .ok (.ifCond .ne 5, 3) := by decide +kernel
theorem dX1_takeCrow_15 : decode cX1_takeCrow 15 = .ok (.iconst (-1), 1) := by decide +kernel
theorem dX1_takeCrow_16 : decode cX1_takeCrow 16 = .ok (.ireturn, 1) := by decide +kernel
theorem dX1_takeCrow_17 : decode cX1_takeCrow 17 = .ok (.aload_n 0, 1) := by decide +kernel
theorem dX1_takeCrow_18 : decode cX1_takeCrow 18 = .ok (.getfield 24, 3) := by decide +kernel
theorem dX1_takeCrow_21 : decode cX1_takeCrow 21 = .ok (.iload_n 1, 1) := by decide +kernel
theorem dX1_takeCrow_22 : decode cX1_takeCrow 22 = .ok (.iaload, 1) := by decide +kernel
theorem dX1_takeCrow_23 : decode cX1_takeCrow 23 = .ok (.ifCond .ne 6, 3) := by decide +kernel
theorem dX1_takeCrow_26 : decode cX1_takeCrow 26 = .ok (.bipush (-4), 2) := by decide +kernel
theorem dX1_takeCrow_28 : decode cX1_takeCrow 28 = .ok (.ireturn, 1) := by decide +kernel
theorem dX1_takeCrow_29 : decode cX1_takeCrow 29 = .ok (.aload_n 0, 1) := by decide +kernel
theorem dX1_takeCrow_30 : decode cX1_takeCrow 30 = .ok (.iload_n 1, 1) := by decide +kernel
theorem dX1_takeCrow_31 : decode cX1_takeCrow 31 = .ok (.invokevirtual 82, 3) := by decide +kernel
theorem dX1_takeCrow_34 : decode cX1_takeCrow 34 = .ok (.istore_n 3, 1) := by decide +kernel
theorem dX1_takeCrow_35 : decode cX1_takeCrow 35 = .ok (.iload_n 3, 1) := by decide +kernel
theorem dX1_takeCrow_36 : decode cX1_takeCrow 36 = .ok (.bipush 9, 2) := by decide +kernel
theorem dX1_takeCrow_38 : decode cX1_takeCrow 38 = .ok (.if_icmp .lt 6, 3) := by decide +kernel
theorem dX1_takeCrow_41 : decode cX1_takeCrow 41 = .ok (.bipush (-3), 2) := by decide +kernel
theorem dX1_takeCrow_43 : decode cX1_takeCrow 43 = .ok (.ireturn, 1) := by decide +kernel
theorem dX1_takeCrow_44 : decode cX1_takeCrow 44 = .ok (.aload_n 0, 1) := by decide +kernel
theorem dX1_takeCrow_45 : decode cX1_takeCrow 45 = .ok (.getfield 33, 3) := by decide +kernel
theorem dX1_takeCrow_48 : decode cX1_takeCrow 48 = .ok (.iload_n 1, 1) := by decide +kernel
theorem dX1_takeCrow_49 : decode cX1_takeCrow 49 = .ok (.iconst 4, 1) := by decide +kernel
theorem dX1_takeCrow_50 : decode cX1_takeCrow 50 = .ok (.imul, 1) := by decide +kernel
theorem dX1_takeCrow_51 : decode cX1_takeCrow 51 = .ok (.iload_n 2, 1) := by decide +kernel
theorem dX1_takeCrow_52 : decode cX1_takeCrow 52 = .ok (.iadd, 1) := by decide +kernel
theorem dX1_takeCrow_53 : decode cX1_takeCrow 53 = .ok (.dup2, 1) := by decide +kernel
theorem dX1_takeCrow_54 : decode cX1_takeCrow 54 = .ok (.iaload, 1) := by decide +kernel
theorem dX1_takeCrow_55 : decode cX1_takeCrow 55 = .ok (.iconst 1, 1) := by decide +kernel
theorem dX1_takeCrow_56 : decode cX1_takeCrow 56 = .ok (.iadd, 1) := by decide +kernel
theorem dX1_takeCrow_57 : decode cX1_takeCrow 57 = .ok (.iastore, 1) := by decide +kernel
theorem dX1_takeCrow_58 : decode cX1_takeCrow 58 = .ok (.iload_n 3, 1) := by decide +kernel
theorem dX1_takeCrow_59 : decode cX1_takeCrow 59 = .ok (.iconst 1, 1) := by decide +kernel
theorem dX1_takeCrow_60 : decode cX1_takeCrow 60 = .ok (.iadd, 1) := by decide +kernel
theorem dX1_takeCrow_61 : decode cX1_takeCrow 61 = .ok (.ireturn, 1) := by decide +kernel
theorem dX1_scareOff_0 : decode cX1_scareOff 0 = .ok (.aload_n 0, 1) := by decide +kernel
theorem dX1_scareOff_1 : decode cX1_scareOff 1 = .ok (.iload_n 1, 1) := by decide +kernel
theorem dX1_scareOff_2 : decode cX1_scareOff 2 = .ok (.invokevirtual 79, 3) := by decide +kernel
theorem dX1_scareOff_5 : decode cX1_scareOff 5 = .ok (.ifCond .ne 5, 3) := by decide +kernel
theorem dX1_scareOff_8 : decode cX1_scareOff 8 = .ok (.iconst (-1), 1) := by decide +kernel
theorem dX1_scareOff_9 : decode cX1_scareOff 9 = .ok (.ireturn, 1) := by decide +kernel
theorem dX1_scareOff_10 : decode cX1_scareOff 10 = .ok (.aload_n 0, 1) := by decide +kernel
theorem dX1_scareOff_11 : decode cX1_scareOff 11 = .ok (.iload_n 1, 1) := by decide +kernel
theorem dX1_scareOff_12 : decode cX1_scareOff 12 = .ok (.invokevirtual 82, 3) := by decide +kernel
theorem dX1_scareOff_15 : decode cX1_scareOff 15 = .ok (.istore_n 2, 1) := by decide +kernel
theorem dX1_scareOff_16 : decode cX1_scareOff 16 = .ok (.iload_n 2, 1) := by decide +kernel
theorem dX1_scareOff_17 : decode cX1_scareOff 17 = .ok (.ifCond .ne 6, 3) := by decide +kernel
theorem dX1_scareOff_20 : decode cX1_scareOff 20 = .ok (.bipush (-5), 2) := by decide +kernel
theorem dX1_scareOff_22 : decode cX1_scareOff 22 = .ok (.ireturn, 1) := by decide +kernel
theorem dX1_scareOff_23 : decode cX1_scareOff 23 = .ok (.aload_n 0, 1) := by decide +kernel
theorem dX1_scareOff_24 : decode cX1_scareOff 24 = .ok (.iload_n 1, 1) := by decide +kernel
theorem dX1_scareOff_25 : decode cX1_scareOff 25 = .ok (.invokevirtual 86, 3) := by decide +kernel
theorem dX1_scareOff_28 : decode cX1_scareOff 28 = .ok (.iload_n 2, 1) := by decide +kernel
theorem dX1_scareOff_29 : decode cX1_scareOff 29 = .ok (.ireturn, 1) := by decide +kernel
theorem dX1_stuff_0 : decode cX1_stuff 0 = .ok (.aload_n 0, 1) := by decide +kernel
theorem dX1_stuff_1 : decode cX1_stuff 1 = .ok (.iload_n 1, 1) := by decide +kernel
theorem dX1_stuff_2 : decode cX1_stuff 2 = .ok (.invokevirtual 79, 3) := by decide +kernel
theorem dX1_stuff_5 : decode cX1_stuff 5 = .ok (.ifCond .ne 5, 3) := by decide +kernel
theorem dX1_stuff_8 : decode cX1_stuff 8 = .ok (.iconst (-1), 1) := by decide +kernel
theorem dX1_stuff_9 : decode cX1_stuff 9 = .ok (.ireturn, 1) := by decide +kernel
theorem dX1_stuff_10 : decode cX1_stuff 10 = .ok (.iload_n 2, 1) := by decide +kernel
theorem dX1_stuff_11 : decode cX1_stuff 11 = .ok (.iconst 1, 1) := by decide +kernel
theorem dX1_stuff_12 : decode cX1_stuff 12 = .ok (.bipush 64, 2) := by decide +kernel
theorem dX1_stuff_14 : decode cX1_stuff 14 = .ok (.invokestatic 75, 3) := by decide +kernel
theorem dX1_stuff_17 : decode cX1_stuff 17 = .ok (.ifCond .ne 6, 3) := by decide +kernel
theorem dX1_stuff_20 : decode cX1_stuff 20 = .ok (.bipush (-2), 2) := by decide +kernel
theorem dX1_stuff_22 : decode cX1_stuff 22 = .ok (.ireturn, 1) := by decide +kernel
theorem dX1_stuff_23 : decode cX1_stuff 23 = .ok (.iload_n 2, 1) := by decide +kernel
theorem dX1_stuff_24 : decode cX1_stuff 24 = .ok (.bipush 64, 2) := by decide +kernel
theorem dX1_stuff_26 : decode cX1_stuff 26 = .ok (.aload_n 0, 1) := by decide +kernel
theorem dX1_stuff_27 : decode cX1_stuff 27 = .ok (.getfield 24, 3) := by decide +kernel
theorem dX1_stuff_30 : decode cX1_stuff 30 = .ok (.iload_n 1, 1) := by decide +kernel
theorem dX1_stuff_31 : decode cX1_stuff 31 = .ok (.iaload, 1) := by decide +kernel
theorem dX1_stuff_32 : decode cX1_stuff 32 = .ok (.isub, 1) := by decide +kernel
theorem dX1_stuff_33 : decode cX1_stuff 33 = .ok (.aload_n 0, 1) := by decide +kernel
theorem dX1_stuff_34 : decode cX1_stuff 34 = .ok (.getfield 42, 3) := by decide +kernel
theorem dX1_stuff_37 : decode cX1_stuff 37 = .ok (.invokestatic 90, 3) := by decide +kernel
theorem dX1_stuff_40 : decode cX1_stuff 40 = .ok (.invokestatic 90, 3) := by decide +kernel
theorem dX1_stuff_43 : decode cX1_stuff 43 = .ok (.istore_n 3, 1) := by decide +kernel
theorem dX1_stuff_44 : decode cX1_stuff 44 = .ok (.iload_n 3, 1) := by decide +kernel
theorem dX1_stuff_45 : decode cX1_stuff 45 = .ok (.ifCond .gt 6, 3) := by decide +kernel
theorem dX1_stuff_48 : decode cX1_stuff 48 = .ok (.bipush (-5), 2) := by decide +kernel
theorem dX1_stuff_50 : decode cX1_stuff 50 = .ok (.ireturn, 1) := by decide +kernel
theorem dX1_stuff_51 : decode cX1_stuff 51 = .ok (.aload_n 0, 1) := by decide +kernel
theorem dX1_stuff_52 : decode cX1_stuff 52 = .ok (.getfield 24, 3) := by decide +kernel
theorem dX1_stuff_55 : decode cX1_stuff 55 = .ok (.iload_n 1, 1) := by decide +kernel
theorem dX1_stuff_56 : decode cX1_stuff 56 = .ok (.dup2, 1) := by decide +kernel
theorem dX1_stuff_57 : decode cX1_stuff 57 = .ok (.iaload, 1) := by decide +kernel
theorem dX1_stuff_58 : decode cX1_stuff 58 = .ok (.iload_n 3, 1) := by decide +kernel
theorem dX1_stuff_59 : decode cX1_stuff 59 = .ok (.iadd, 1) := by decide +kernel
theorem dX1_stuff_60 : decode cX1_stuff 60 = .ok (.iastore, 1) := by decide +kernel
theorem dX1_stuff_61 : decode cX1_stuff 61 = .ok (.aload_n 0, 1) := by decide +kernel
theorem dX1_stuff_62 : decode cX1_stuff 62 = .ok (.dup, 1) := by decide +kernel
theorem dX1_stuff_63 : decode cX1_stuff 63 = .ok (.getfield 42, 3) := by decide +kernel
theorem dX1_stuff_66 : decode cX1_stuff 66 = .ok (.iload_n 3, 1) := by decide +kernel
theorem dX1_stuff_67 : decode cX1_stuff 67 = .ok (.isub, 1) := by decide +kernel
theorem dX1_stuff_68 : decode cX1_stuff 68 = .ok (.putfield 42, 3) := by decide +kernel
theorem dX1_stuff_71 : decode cX1_stuff 71 = .ok (.iload_n 3, 1) := by decide +kernel
theorem dX1_stuff_72 : decode cX1_stuff 72 = .ok (.ireturn, 1) := by decide +kernel
theorem dX1_giveSeats_0 : decode cX1_giveSeats 0 = .ok (.iload_n 1, 1) := by decide +kernel
theorem dX1_giveSeats_1 : decode cX1_giveSeats 1 = .ok (.invokestatic 68, 3) := by decide +kernel
theorem dX1_giveSeats_4 : decode cX1_giveSeats 4 = .ok (.ifCond .ne 5, 3) := by decide +kernel
theorem dX1_giveSeats_7 : decode cX1_giveSeats 7 = .ok (.iconst (-1), 1) := by decide +kernel
theorem dX1_giveSeats_8 : decode cX1_giveSeats 8 = .ok (.ireturn, 1) := by decide +kernel
theorem dX1_giveSeats_9 : decode cX1_giveSeats 9 = .ok (.iload_n 2, 1) := by decide +kernel
theorem dX1_giveSeats_10 : decode cX1_giveSeats 10 = .ok (.iconst 1, 1) := by decide +kernel
theorem dX1_giveSeats_11 : decode cX1_giveSeats 11 = .ok (.bipush 9, 2) := by decide +kernel
theorem dX1_giveSeats_13 : decode cX1_giveSeats 13 = .ok (.invokestatic 75, 3) := by decide +kernel
theorem dX1_giveSeats_16 : decode cX1_giveSeats 16 = .ok (.ifCond .ne 6, 3) := by decide +kernel
theorem dX1_giveSeats_19 : decode cX1_giveSeats 19 = .ok (.bipush (-2), 2) := by decide +kernel
theorem dX1_giveSeats_21 : decode cX1_giveSeats 21 = .ok (.ireturn, 1) := by decide +kernel
theorem dX1_giveSeats_22 : decode cX1_giveSeats 22 = .ok (.aload_n 0, 1) := by decide +kernel
theorem dX1_giveSeats_23 : decode cX1_giveSeats 23 = .ok (.getfield 36, 3) := by decide +kernel
theorem dX1_giveSeats_26 : decode cX1_giveSeats 26 = .ok (.iload_n 1, 1) := by decide +kernel
theorem dX1_giveSeats_27 : decode cX1_giveSeats 27 = .ok (.iaload, 1) := by decide +kernel
theorem dX1_giveSeats_28 : decode cX1_giveSeats 28 = .ok (.istore_n 3, 1) := by decide +kernel
theorem dX1_giveSeats_29 : decode cX1_giveSeats 29 = .ok (.iload_n 3, 1) := by decide +kernel
theorem dX1_giveSeats_30 : decode cX1_giveSeats 30 = .ok (.iload_n 2, 1) := by decide +kernel
theorem dX1_giveSeats_31 : decode cX1_giveSeats 31 = .ok (.if_icmp .ne 6, 3) := by decide +kernel
theorem dX1_giveSeats_34 : decode cX1_giveSeats 34 = .ok (.bipush (-5), 2) := by decide +kernel
theorem dX1_giveSeats_36 : decode cX1_giveSeats 36 = .ok (.ireturn, 1) := by decide +kernel
theorem dX1_giveSeats_37 : decode cX1_giveSeats 37 = .ok (.aload_n 0, 1) := by decide +kernel
theorem dX1_giveSeats_38 : decode cX1_giveSeats 38 = .ok (.getfield 36, 3) := by decide +kernel
theorem dX1_giveSeats_41 : decode cX1_giveSeats 41 = .ok (.iload_n 1, 1) := by decide +kernel
theorem dX1_giveSeats_42 : decode cX1_giveSeats 42 = .ok (.iload_n 2, 1) := by decide +kernel
theorem dX1_giveSeats_43 : decode cX1_giveSeats 43 = .ok (.iastore, 1) := by decide +kernel
theorem dX1_giveSeats_44 : decode cX1_giveSeats 44 = .ok (.iload_n 3, 1) := by decide +kernel
theorem dX1_giveSeats_45 : decode cX1_giveSeats 45 = .ok (.ireturn, 1) := by decide +kernel
theorem dX1_blow_0 : decode cX1_blow 0 = .ok (.iload_n 1, 1) := by decide +kernel
theorem dX1_blow_1 : decode cX1_blow 1 = .ok (.invokestatic 72, 3) := by decide +kernel
theorem dX1_blow_4 : decode cX1_blow 4 = .ok (.ifCond .ne 5, 3) := by decide +kernel
theorem dX1_blow_7 : decode cX1_blow 7 = .ok (.iconst (-1), 1) := by decide +kernel
theorem dX1_blow_8 : decode cX1_blow 8 = .ok (.ireturn, 1) := by decide +kernel
theorem dX1_blow_9 : decode cX1_blow 9 = .ok (.iload_n 2, 1) := by decide +kernel
theorem dX1_blow_10 : decode cX1_blow 10 = .ok (.iconst 0, 1) := by decide +kernel
theorem dX1_blow_11 : decode cX1_blow 11 = .ok (.bipush 9, 2) := by decide +kernel
theorem dX1_blow_13 : decode cX1_blow 13 = .ok (.invokestatic 75, 3) := by decide +kernel
theorem dX1_blow_16 : decode cX1_blow 16 = .ok (.ifCond .ne 6, 3) := by decide +kernel
theorem dX1_blow_19 : decode cX1_blow 19 = .ok (.bipush (-2), 2) := by decide +kernel
theorem dX1_blow_21 : decode cX1_blow 21 = .ok (.ireturn, 1) := by decide +kernel
theorem dX1_blow_22 : decode cX1_blow 22 = .ok (.aload_n 0, 1) := by decide +kernel
theorem dX1_blow_23 : decode cX1_blow 23 = .ok (.getfield 56, 3) := by decide +kernel
theorem dX1_blow_26 : decode cX1_blow 26 = .ok (.iload_n 1, 1) := by decide +kernel
theorem dX1_blow_27 : decode cX1_blow 27 = .ok (.if_icmp .ne 14, 3) := by decide +kernel
theorem dX1_blow_30 : decode cX1_blow 30 = .ok (.aload_n 0, 1) := by decide +kernel
theorem dX1_blow_31 : decode cX1_blow 31 = .ok (.getfield 59, 3) := by decide +kernel
theorem dX1_blow_34 : decode cX1_blow 34 = .ok (.iload_n 2, 1) := by decide +kernel
theorem dX1_blow_35 : decode cX1_blow 35 = .ok (.if_icmp .ne 6, 3) := by decide +kernel
theorem dX1_blow_38 : decode cX1_blow 38 = .ok (.bipush (-5), 2) := by decide +kernel
theorem dX1_blow_40 : decode cX1_blow 40 = .ok (.ireturn, 1) := by decide +kernel
theorem dX1_blow_41 : decode cX1_blow 41 = .ok (.bipush 10, 2) := by decide +kernel
theorem dX1_blow_43 : decode cX1_blow 43 = .ok (.aload_n 0, 1) := by decide +kernel
theorem dX1_blow_44 : decode cX1_blow 44 = .ok (.getfield 56, 3) := by decide +kernel
theorem dX1_blow_47 : decode cX1_blow 47 = .ok (.imul, 1) := by decide +kernel
theorem dX1_blow_48 : decode cX1_blow 48 = .ok (.aload_n 0, 1) := by decide +kernel
theorem dX1_blow_49 : decode cX1_blow 49 = .ok (.getfield 59, 3) := by decide +kernel
theorem dX1_blow_52 : decode cX1_blow 52 = .ok (.iadd, 1) := by decide +kernel
theorem dX1_blow_53 : decode cX1_blow 53 = .ok (.istore_n 3, 1) := by decide +kernel
theorem dX1_blow_54 : decode cX1_blow 54 = .ok (.aload_n 0, 1) := by decide +kernel
theorem dX1_blow_55 : decode cX1_blow 55 = .ok (.iload_n 1, 1) := by decide +kernel
theorem dX1_blow_56 : decode cX1_blow 56 = .ok (.putfield 56, 3) := by decide +kernel
theorem dX1_blow_59 : decode cX1_blow 59 = .ok (.aload_n 0, 1) := by decide +kernel
theorem dX1_blow_60 : decode cX1_blow 60 = .ok (.iload_n 2, 1) := by decide +kernel
theorem dX1_blow_61 : decode cX1_blow 61 = .ok (.putfield 59, 3) := by decide +kernel
theorem dX1_blow_64 : decode cX1_blow 64 = .ok (.iload_n 3, 1) := by decide +kernel
theorem dX1_blow_65 : decode cX1_blow 65 = .ok (.ireturn, 1) := by decide +kernel
theorem dX1_adjust_0 : decode cX1_adjust 0 = .ok (.iload_n 1, 1) := by decide +kernel
theorem dX1_adjust_1 : decode cX1_adjust 1 = .ok (.iconst 0, 1) := by decide +kernel
theorem dX1_adjust_2 : decode cX1_adjust 2 = .ok (.iconst 1, 1) := by decide +kernel
theorem dX1_adjust_3 : decode cX1_adjust 3 = .ok (.invokestatic 75, 3) := by decide +kernel
theorem dX1_adjust_6 : decode cX1_adjust 6 = .ok (.ifCond .ne 5, 3) := by decide +kernel
theorem dX1_adjust_9 : decode cX1_adjust 9 = .ok (.iconst (-1), 1) := by decide +kernel
theorem dX1_adjust_10 : decode cX1_adjust 10 = .ok (.ireturn, 1) := by decide +kernel
theorem dX1_adjust_11 : decode cX1_adjust 11 = .ok (.iload_n 2, 1) := by decide +kernel
theorem dX1_adjust_12 : decode cX1_adjust 12 = .ok (.iconst 0, 1) := by decide +kernel
theorem dX1_adjust_13 : decode cX1_adjust 13 = .ok (.iload_n 1, 1) := by decide +kernel
theorem dX1_adjust_14 : decode cX1_adjust 14 = .ok (.ifCond .ne 8, 3) := by decide +kernel
theorem dX1_adjust_17 : decode cX1_adjust 17 = .ok (.bipush 50, 2) := by decide +kernel
theorem dX1_adjust_19 : decode cX1_adjust 19 = .ok (.goto 5, 3) := by decide +kernel
theorem dX1_adjust_22 : decode cX1_adjust 22 = .ok (.bipush 8, 2) := by decide +kernel
theorem dX1_adjust_24 : decode cX1_adjust 24 = .ok (.invokestatic 75, 3) := by decide +kernel
theorem dX1_adjust_27 : decode cX1_adjust 27 = .ok (.ifCond .ne 6, 3) := by decide +kernel
theorem dX1_adjust_30 : decode cX1_adjust 30 = .ok (.bipush (-2), 2) := by decide +kernel
theorem dX1_adjust_32 : decode cX1_adjust 32 = .ok (.ireturn, 1) := by decide +kernel
theorem dX1_adjust_33 : decode cX1_adjust 33 = .ok (.aload_n 0, 1) := by decide +kernel
theorem dX1_adjust_34 : decode cX1_adjust 34 = .ok (.getfield 39, 3) := by decide +kernel
theorem dX1_adjust_37 : decode cX1_adjust 37 = .ok (.iload_n 1, 1) := by decide +kernel
theorem dX1_adjust_38 : decode cX1_adjust 38 = .ok (.iaload, 1) := by decide +kernel
theorem dX1_adjust_39 : decode cX1_adjust 39 = .ok (.istore_n 3, 1) := by decide +kernel
theorem dX1_adjust_40 : decode cX1_adjust 40 = .ok (.iload_n 3, 1) := by decide +kernel
theorem dX1_adjust_41 : decode cX1_adjust 41 = .ok (.iload_n 2, 1) := by decide +kernel
theorem dX1_adjust_42 : decode cX1_adjust 42 = .ok (.if_icmp .ne 6, 3) := by decide +kernel
theorem dX1_adjust_45 : decode cX1_adjust 45 = .ok (.bipush (-5), 2) := by decide +kernel
theorem dX1_adjust_47 : decode cX1_adjust 47 = .ok (.ireturn, 1) := by decide +kernel
theorem dX1_adjust_48 : decode cX1_adjust 48 = .ok (.aload_n 0, 1) := by decide +kernel
theorem dX1_adjust_49 : decode cX1_adjust 49 = .ok (.getfield 39, 3) := by decide +kernel
theorem dX1_adjust_52 : decode cX1_adjust 52 = .ok (.iload_n 1, 1) := by decide +kernel
theorem dX1_adjust_53 : decode cX1_adjust 53 = .ok (.iload_n 2, 1) := by decide +kernel
theorem dX1_adjust_54 : decode cX1_adjust 54 = .ok (.iastore, 1) := by decide +kernel
theorem dX1_adjust_55 : decode cX1_adjust 55 = .ok (.iload_n 3, 1) := by decide +kernel
theorem dX1_adjust_56 : decode cX1_adjust 56 = .ok (.ireturn, 1) := by decide +kernel
theorem dX1_countVote_0 : decode cX1_countVote 0 = .ok (.iload_n 1, 1) := by decide +kernel
theorem dX1_countVote_1 : decode cX1_countVote 1 = .ok (.invokestatic 72, 3) := by decide +kernel
theorem dX1_countVote_4 : decode cX1_countVote 4 = .ok (.ifCond .ne 6, 3) := by decide +kernel
theorem dX1_countVote_7 : decode cX1_countVote 7 = .ok (.bipush (-4), 2) := by decide +kernel
theorem dX1_countVote_9 : decode cX1_countVote 9 = .ok (.ireturn, 1) := by decide +kernel
theorem dX1_countVote_10 : decode cX1_countVote 10 = .ok (.aload_n 0, 1) := by decide +kernel
theorem dX1_countVote_11 : decode cX1_countVote 11 = .ok (.dup, 1) := by decide +kernel
theorem dX1_countVote_12 : decode cX1_countVote 12 = .ok (.getfield 65, 3) := by decide +kernel
theorem dX1_countVote_15 : decode cX1_countVote 15 = .ok (.iconst 1, 1) := by decide +kernel
theorem dX1_countVote_16 : decode cX1_countVote 16 = .ok (.iadd, 1) := by decide +kernel
theorem dX1_countVote_17 : decode cX1_countVote 17 = .ok (.putfield 65, 3) := by decide +kernel
theorem dX1_countVote_20 : decode cX1_countVote 20 = .ok (.aload_n 0, 1) := by decide +kernel
theorem dX1_countVote_21 : decode cX1_countVote 21 = .ok (.iload_n 1, 1) := by decide +kernel
theorem dX1_countVote_22 : decode cX1_countVote 22 = .ok (.putfield 46, 3) := by decide +kernel
theorem dX1_countVote_25 : decode cX1_countVote 25 = .ok (.iload_n 1, 1) := by decide +kernel
theorem dX1_countVote_26 : decode cX1_countVote 26 = .ok (.ireturn, 1) := by decide +kernel
theorem dX1_goOn_0 : decode cX1_goOn 0 = .ok (.iload_n 1, 1) := by decide +kernel
theorem dX1_goOn_1 : decode cX1_goOn 1 = .ok (.iconst 1, 1) := by decide +kernel
theorem dX1_goOn_2 : decode cX1_goOn 2 = .ok (.bipush 99, 2) := by decide +kernel
theorem dX1_goOn_4 : decode cX1_goOn 4 = .ok (.invokestatic 75, 3) := by decide +kernel
theorem dX1_goOn_7 : decode cX1_goOn 7 = .ok (.ifCond .ne 6, 3) := by decide +kernel
theorem dX1_goOn_10 : decode cX1_goOn 10 = .ok (.bipush (-2), 2) := by decide +kernel
theorem dX1_goOn_12 : decode cX1_goOn 12 = .ok (.ireturn, 1) := by decide +kernel
theorem dX1_goOn_13 : decode cX1_goOn 13 = .ok (.aload_n 0, 1) := by decide +kernel
theorem dX1_goOn_14 : decode cX1_goOn 14 = .ok (.getfield 62, 3) := by decide +kernel
theorem dX1_goOn_17 : decode cX1_goOn 17 = .ok (.iload_n 1, 1) := by decide +kernel
theorem dX1_goOn_18 : decode cX1_goOn 18 = .ok (.iadd, 1) := by decide +kernel
theorem dX1_goOn_19 : decode cX1_goOn 19 = .ok (.ldc 96, 2) := by decide +kernel
theorem dX1_goOn_21 : decode cX1_goOn 21 = .ok (.if_icmp .le 8, 3) := by decide +kernel
theorem dX1_goOn_24 : decode cX1_goOn 24 = .ok (.bipush (-3), 2) := by decide +kernel
theorem dX1_goOn_26 : decode cX1_goOn 26 = .ok (.goto 8, 3) := by decide +kernel
theorem dX1_goOn_29 : decode cX1_goOn 29 = .ok (.aload_n 0, 1) := by decide +kernel
theorem dX1_goOn_30 : decode cX1_goOn 30 = .ok (.iload_n 1, 1) := by decide +kernel
theorem dX1_goOn_31 : decode cX1_goOn 31 = .ok (.invokevirtual 97, 3) := by decide +kernel
theorem dX1_goOn_34 : decode cX1_goOn 34 = .ok (.ireturn, 1) := by decide +kernel
theorem dX1_doTicks_0 : decode cX1_doTicks 0 = .ok (.iconst 0, 1) := by decide +kernel
theorem dX1_doTicks_1 : decode cX1_doTicks 1 = .ok (.istore_n 2, 1) := by decide +kernel
theorem dX1_doTicks_2 : decode cX1_doTicks 2 = .ok (.iconst 0, 1) := by decide +kernel
theorem dX1_doTicks_3 : decode cX1_doTicks 3 = .ok (.istore_n 3, 1) := by decide +kernel
theorem dX1_doTicks_4 : decode cX1_doTicks 4 = .ok (.iload_n 3, 1) := by decide +kernel
theorem dX1_doTicks_5 : decode cX1_doTicks 5 = .ok (.iload_n 1, 1) := by decide +kernel
theorem dX1_doTicks_6 : decode cX1_doTicks 6 = .ok (.if_icmp .ge 16, 3) := by decide +kernel
theorem dX1_doTicks_9 : decode cX1_doTicks 9 = .ok (.iload_n 2, 1) := by decide +kernel
theorem dX1_doTicks_10 : decode cX1_doTicks 10 = .ok (.aload_n 0, 1) := by decide +kernel
theorem dX1_doTicks_11 : decode cX1_doTicks 11 = .ok (.invokevirtual 100, 3) := by decide +kernel
theorem dX1_doTicks_14 : decode cX1_doTicks 14 = .ok (.iadd, 1) := by decide +kernel
theorem dX1_doTicks_15 : decode cX1_doTicks 15 = .ok (.istore_n 2, 1) := by decide +kernel
theorem dX1_doTicks_16 : decode cX1_doTicks 16 = .ok (.iinc 3 1, 3) := by decide +kernel
theorem dX1_doTicks_19 : decode cX1_doTicks 19 = .ok (.goto (-15), 3) := by decide +kernel
theorem dX1_doTicks_22 : decode cX1_doTicks 22 = .ok (.iload_n 2, 1) := by decide +kernel
theorem dX1_doTicks_23 : decode cX1_doTicks 23 = .ok (.ireturn, 1) := by decide +kernel
theorem dX1_doTick_0 : decode cX1_doTick 0 = .ok (.iconst 0, 1) := by decide +kernel
theorem dX1_doTick_1 : decode cX1_doTick 1 = .ok (.istore_n 1, 1) := by decide +kernel
theorem dX1_doTick_2 : decode cX1_doTick 2 = .ok (.iconst 0, 1) := by decide +kernel
theorem dX1_doTick_3 : decode cX1_doTick 3 = .ok (.istore_n 2, 1) := by decide +kernel
theorem dX1_doTick_4 : decode cX1_doTick 4 = .ok (.iload_n 2, 1) := by decide +kernel
theorem dX1_doTick_5 : decode cX1_doTick 5 = .ok (.aload_n 0, 1) := by decide +kernel
theorem dX1_doTick_6 : decode cX1_doTick 6 = .ok (.getfield 53, 3) := by decide +kernel
theorem dX1_doTick_9 : decode cX1_doTick 9 = .ok (.if_icmp .ge 17, 3) := by decide +kernel
theorem dX1_doTick_12 : decode cX1_doTick 12 = .ok (.iload_n 1, 1) := by decide +kernel
theorem dX1_doTick_13 : decode cX1_doTick 13 = .ok (.aload_n 0, 1) := by decide +kernel
theorem dX1_doTick_14 : decode cX1_doTick 14 = .ok (.iload_n 2, 1) := by decide +kernel
theorem dX1_doTick_15 : decode cX1_doTick 15 = .ok (.invokevirtual 104, 3) := by decide +kernel
theorem dX1_doTick_18 : decode cX1_doTick 18 = .ok (.iadd, 1) := by decide +kernel
theorem dX1_doTick_19 : decode cX1_doTick 19 = .ok (.istore_n 1, 1) := by decide +kernel
theorem dX1_doTick_20 : decode cX1_doTick 20 = .ok (.iinc 2 1, 3) := by decide +kernel
theorem dX1_doTick_23 : decode cX1_doTick 23 = .ok (.goto (-19), 3) := by decide +kernel
theorem dX1_doTick_26 : decode cX1_doTick 26 = .ok (.iconst 0, 1) := by decide +kernel
theorem dX1_doTick_27 : decode cX1_doTick 27 = .ok (.istore_n 2, 1) := by decide +kernel
theorem dX1_doTick_28 : decode cX1_doTick 28 = .ok (.iload_n 2, 1) := by decide +kernel
theorem dX1_doTick_29 : decode cX1_doTick 29 = .ok (.aload_n 0, 1) := by decide +kernel
theorem dX1_doTick_30 : decode cX1_doTick 30 = .ok (.getfield 53, 3) := by decide +kernel
theorem dX1_doTick_33 : decode cX1_doTick 33 = .ok (.if_icmp .ge 14, 3) := by decide +kernel
theorem dX1_doTick_36 : decode cX1_doTick 36 = .ok (.aload_n 0, 1) := by decide +kernel
theorem dX1_doTick_37 : decode cX1_doTick 37 = .ok (.iload_n 2, 1) := by decide +kernel
theorem dX1_doTick_38 : decode cX1_doTick 38 = .ok (.invokevirtual 107, 3) := by decide +kernel
theorem dX1_doTick_41 : decode cX1_doTick 41 = .ok (.iinc 2 1, 3) := by decide +kernel
theorem dX1_doTick_44 : decode cX1_doTick 44 = .ok (.goto (-16), 3) := by decide +kernel
theorem dX1_doTick_47 : decode cX1_doTick 47 = .ok (.aload_n 0, 1) := by decide +kernel
theorem dX1_doTick_48 : decode cX1_doTick 48 = .ok (.dup, 1) := by decide +kernel
theorem dX1_doTick_49 : decode cX1_doTick 49 = .ok (.getfield 62, 3) := by decide +kernel
theorem dX1_doTick_52 : decode cX1_doTick 52 = .ok (.iconst 1, 1) := by decide +kernel
theorem dX1_doTick_53 : decode cX1_doTick 53 = .ok (.iadd, 1) := by decide +kernel
theorem dX1_doTick_54 : decode cX1_doTick 54 = .ok (.putfield 62, 3) := by decide +kernel
theorem dX1_doTick_57 : decode cX1_doTick 57 = .ok (.aload_n 0, 1) := by decide +kernel
theorem dX1_doTick_58 : decode cX1_doTick 58 = .ok (.invokevirtual 110, 3) := by decide +kernel
theorem dX1_doTick_61 : decode cX1_doTick 61 = .ok (.iload_n 1, 1) := by decide +kernel
theorem dX1_doTick_62 : decode cX1_doTick 62 = .ok (.ireturn, 1) := by decide +kernel
theorem dX1_turnByWind_0 : decode cX1_turnByWind 0 = .ok (.aload_n 0, 1) := by decide +kernel
theorem dX1_turnByWind_1 : decode cX1_turnByWind 1 = .ok (.getfield 24, 3) := by decide +kernel
theorem dX1_turnByWind_4 : decode cX1_turnByWind 4 = .ok (.iload_n 1, 1) := by decide +kernel
theorem dX1_turnByWind_5 : decode cX1_turnByWind 5 = .ok (.iaload, 1) := by decide +kernel
theorem dX1_turnByWind_6 : decode cX1_turnByWind 6 = .ok (.bipush 32, 2) := by decide +kernel
theorem dX1_turnByWind_8 : decode cX1_turnByWind 8 = .ok (.if_icmp .ge 12, 3) := by decide +kernel
theorem dX1_turnByWind_11 : decode cX1_turnByWind 11 = .ok (.aload_n 0, 1) := by decide +kernel
theorem dX1_turnByWind_12 : decode cX1_turnByWind 12 = .ok (.getfield 59, 3) := by decide +kernel
theorem dX1_turnByWind_15 : decode cX1_turnByWind 15 = .ok (.iconst 1, 1) := by decide +kernel
theorem dX1_turnByWind_16 : decode cX1_turnByWind 16 = .ok (.iadd, 1) := by decide +kernel
theorem dX1_turnByWind_17 : decode cX1_turnByWind 17 = .ok (.goto 7, 3) := by decide +kernel
theorem dX1_turnByWind_20 : decode cX1_turnByWind 20 = .ok (.aload_n 0, 1) := by decide +kernel
theorem dX1_turnByWind_21 : decode cX1_turnByWind 21 = .ok (.getfield 59, 3) := by decide +kernel
theorem dX1_turnByWind_24 : decode cX1_turnByWind 24 = .ok (.istore_n 2, 1) := by decide +kernel
theorem dX1_turnByWind_25 : decode cX1_turnByWind 25 = .ok (.iload_n 2, 1) := by decide +kernel
theorem dX1_turnByWind_26 : decode cX1_turnByWind 26 = .ok (.aload_n 0, 1) := by decide +kernel
theorem dX1_turnByWind_27 : decode cX1_turnByWind 27 = .ok (.getfield 18, 3) := by decide +kernel
theorem dX1_turnByWind_30 : decode cX1_turnByWind 30 = .ok (.iload_n 1, 1) := by decide +kernel
theorem dX1_turnByWind_31 : decode cX1_turnByWind 31 = .ok (.iaload, 1) := by decide +kernel
theorem dX1_turnByWind_32 : decode cX1_turnByWind 32 = .ok (.if_icmp .le 16, 3) := by decide +kernel
theorem dX1_turnByWind_35 : decode cX1_turnByWind 35 = .ok (.aload_n 0, 1) := by decide +kernel
theorem dX1_turnByWind_36 : decode cX1_turnByWind 36 = .ok (.getfield 21, 3) := by decide +kernel
theorem dX1_turnByWind_39 : decode cX1_turnByWind 39 = .ok (.iload_n 1, 1) := by decide +kernel
theorem dX1_turnByWind_40 : decode cX1_turnByWind 40 = .ok (.iaload, 1) := by decide +kernel
theorem dX1_turnByWind_41 : decode cX1_turnByWind 41 = .ok (.aload_n 0, 1) := by decide +kernel
theorem dX1_turnByWind_42 : decode cX1_turnByWind 42 = .ok (.getfield 56, 3) := by decide +kernel
theorem dX1_turnByWind_45 : decode cX1_turnByWind 45 = .ok (.if_icmp .ne 5, 3) := by decide +kernel
theorem dX1_turnByWind_48 : decode cX1_turnByWind 48 = .ok (.iconst 0, 1) := by decide +kernel
theorem dX1_turnByWind_49 : decode cX1_turnByWind 49 = .ok (.ireturn, 1) := by decide +kernel
theorem dX1_turnByWind_50 : decode cX1_turnByWind 50 = .ok (.aload_n 0, 1) := by decide +kernel
theorem dX1_turnByWind_51 : decode cX1_turnByWind 51 = .ok (.getfield 21, 3) := by decide +kernel
theorem dX1_turnByWind_54 : decode cX1_turnByWind 54 = .ok (.iload_n 1, 1) := by decide +kernel
theorem dX1_turnByWind_55 : decode cX1_turnByWind 55 = .ok (.iaload, 1) := by decide +kernel
theorem dX1_turnByWind_56 : decode cX1_turnByWind 56 = .ok (.iconst 4, 1) := by decide +kernel
theorem dX1_turnByWind_57 : decode cX1_turnByWind 57 = .ok (.iadd, 1) := by decide +kernel
theorem dX1_turnByWind_58 : decode cX1_turnByWind 58 = .ok (.iconst 1, 1) := by decide +kernel
theorem dX1_turnByWind_59 : decode cX1_turnByWind 59 = .ok (.isub, 1) := by decide +kernel
theorem dX1_turnByWind_60 : decode cX1_turnByWind 60 = .ok (.iconst 4, 1) := by decide +kernel
theorem dX1_turnByWind_61 : decode cX1_turnByWind 61 = .ok (.irem, 1) := by decide +kernel
theorem dX1_turnByWind_62 : decode cX1_turnByWind 62 = .ok (.aload_n 0, 1) := by decide +kernel
theorem dX1_turnByWind_63 : decode cX1_turnByWind 63 = .ok (.getfield 56, 3) := by decide +kernel
theorem dX1_turnByWind_66 : decode cX1_turnByWind 66 = .ok (.if_icmp .ne 7, 3) := by decide +kernel
theorem dX1_turnByWind_69 : decode cX1_turnByWind 69 = .ok (.iconst 1, 1) := by decide +kernel
theorem dX1_turnByWind_70 : decode cX1_turnByWind 70 = .ok (.goto 4, 3) := by decide +kernel
theorem dX1_turnByWind_73 : decode cX1_turnByWind 73 = .ok (.iconst 0, 1) := by decide +kernel
theorem dX1_turnByWind_74 : decode cX1_turnByWind 74 = .ok (.istore_n 3, 1) := by decide +kernel
theorem dX1_turnByWind_75 : decode cX1_turnByWind 75 = .ok (.aload_n 0, 1) := by decide +kernel
theorem dX1_turnByWind_76 : decode cX1_turnByWind 76 = .ok (.getfield 21, 3) := by decide +kernel
theorem dX1_turnByWind_79 : decode cX1_turnByWind 79 = .ok (.iload_n 1, 1) := by decide +kernel
theorem dX1_turnByWind_80 : decode cX1_turnByWind 80 = .ok (.aload_n 0, 1) := by decide +kernel
theorem dX1_turnByWind_81 : decode cX1_turnByWind 81 = .ok (.getfield 21, 3) := by decide +kernel
theorem dX1_turnByWind_84 : decode cX1_turnByWind 84 = .ok (.iload_n 1, 1) := by decide +kernel
theorem dX1_turnByWind_85 : decode cX1_turnByWind 85 = .ok (.iaload, 1) := by decide +kernel
theorem dX1_turnByWind_86 : decode cX1_turnByWind 86 = .ok (.iload_n 3, 1) := by decide +kernel
theorem dX1_turnByWind_87 : decode cX1_turnByWind 87 = .ok (.ifCond .eq 7, 3) := by decide +kernel
theorem dX1_turnByWind_90 : decode cX1_turnByWind 90 = .ok (.iconst 3, 1) := by decide +kernel
theorem dX1_turnByWind_91 : decode cX1_turnByWind 91 = .ok (.goto 4, 3) := by decide +kernel
theorem dX1_turnByWind_94 : decode cX1_turnByWind 94 = .ok (.iconst 1, 1) := by decide +kernel
theorem dX1_turnByWind_95 : decode cX1_turnByWind 95 = .ok (.iadd, 1) := by decide +kernel
theorem dX1_turnByWind_96 : decode cX1_turnByWind 96 = .ok (.iconst 4, 1) := by decide +kernel
theorem dX1_turnByWind_97 : decode cX1_turnByWind 97 = .ok (.irem, 1) := by decide +kernel
theorem dX1_turnByWind_98 : decode cX1_turnByWind 98 = .ok (.iastore, 1) := by decide +kernel
theorem dX1_turnByWind_99 : decode cX1_turnByWind 99 = .ok (.aload_n 0, 1) := by decide +kernel
theorem dX1_turnByWind_100 : decode cX1_turnByWind 100 = .ok (.getfield 27, 3) := by decide +kernel
theorem dX1_turnByWind_103 : decode cX1_turnByWind 103 = .ok (.iload_n 1, 1) := by decide +kernel
theorem dX1_turnByWind_104 : decode cX1_turnByWind 104 = .ok (.dup2, 1) := by decide +kernel
theorem dX1_turnByWind_105 : decode cX1_turnByWind 105 = .ok (.iaload, 1) := by decide +kernel
theorem dX1_turnByWind_106 : decode cX1_turnByWind 106 = .ok (.iconst 1, 1) := by decide +kernel
theorem dX1_turnByWind_107 : decode cX1_turnByWind 107 = .ok (.iadd, 1) := by decide +kernel
theorem dX1_turnByWind_108 : decode cX1_turnByWind 108 = .ok (.iastore, 1) := by decide +kernel
theorem dX1_turnByWind_109 : decode cX1_turnByWind 109 = .ok (.iconst 1, 1) := by decide +kernel
theorem dX1_turnByWind_110 : decode cX1_turnByWind 110 = .ok (.ireturn, 1) := by decide +kernel
theorem dX1_pluck_0 : decode cX1_pluck 0 = .ok (.aload_n 0, 1) := by decide +kernel
theorem dX1_pluck_1 : decode cX1_pluck 1 = .ok (.iload_n 1, 1) := by decide +kernel
theorem dX1_pluck_2 : decode cX1_pluck 2 = .ok (.invokevirtual 82, 3) := by decide +kernel
theorem dX1_pluck_5 : decode cX1_pluck 5 = .ok (.aload_n 0, 1) := by decide +kernel
theorem dX1_pluck_6 : decode cX1_pluck 6 = .ok (.getfield 24, 3) := by decide +kernel
theorem dX1_pluck_9 : decode cX1_pluck 9 = .ok (.iload_n 1, 1) := by decide +kernel
theorem dX1_pluck_10 : decode cX1_pluck 10 = .ok (.iaload, 1) := by decide +kernel
theorem dX1_pluck_11 : decode cX1_pluck 11 = .ok (.invokestatic 90, 3) := by decide +kernel
theorem dX1_pluck_14 : decode cX1_pluck 14 = .ok (.istore_n 2, 1) := by decide +kernel
theorem dX1_pluck_15 : decode cX1_pluck 15 = .ok (.aload_n 0, 1) := by decide +kernel
theorem dX1_pluck_16 : decode cX1_pluck 16 = .ok (.getfield 24, 3) := by decide +kernel
theorem dX1_pluck_19 : decode cX1_pluck 19 = .ok (.iload_n 1, 1) := by decide +kernel
theorem dX1_pluck_20 : decode cX1_pluck 20 = .ok (.dup2, 1) := by decide +kernel
theorem dX1_pluck_21 : decode cX1_pluck 21 = .ok (.iaload, 1) := by decide +kernel
theorem dX1_pluck_22 : decode cX1_pluck 22 = .ok (.iload_n 2, 1) := by decide +kernel
theorem dX1_pluck_23 : decode cX1_pluck 23 = .ok (.isub, 1) := by decide +kernel
theorem dX1_pluck_24 : decode cX1_pluck 24 = .ok (.iastore, 1) := by decide +kernel
theorem dX1_pluck_25 : decode cX1_pluck 25 = .ok (.aload_n 0, 1) := by decide +kernel
theorem dX1_pluck_26 : decode cX1_pluck 26 = .ok (.getfield 30, 3) := by decide +kernel
theorem dX1_pluck_29 : decode cX1_pluck 29 = .ok (.iload_n 1, 1) := by decide +kernel
theorem dX1_pluck_30 : decode cX1_pluck 30 = .ok (.dup2, 1) := by decide +kernel
theorem dX1_pluck_31 : decode cX1_pluck 31 = .ok (.iaload, 1) := by decide +kernel
theorem dX1_pluck_32 : decode cX1_pluck 32 = .ok (.iload_n 2, 1) := by decide +kernel
theorem dX1_pluck_33 : decode cX1_pluck 33 = .ok (.iadd, 1) := by decide +kernel
theorem dX1_pluck_34 : decode cX1_pluck 34 = .ok (.iastore, 1) := by decide +kernel
theorem dX1_pluck_35 : decode cX1_pluck 35 = .ok (.aload_n 0, 1) := by decide +kernel
theorem dX1_pluck_36 : decode cX1_pluck 36 = .ok (.getfield 24, 3) := by decide +kernel
theorem dX1_pluck_39 : decode cX1_pluck 39 = .ok (.iload_n 1, 1) := by decide +kernel
theorem dX1_pluck_40 : decode cX1_pluck 40 = .ok (.iaload, 1) := by decide +kernel
theorem dX1_pluck_41 : decode cX1_pluck 41 = .ok (.ifCond .ne 8, 3) := by decide +kernel
theorem dX1_pluck_44 : decode cX1_pluck 44 = .ok (.aload_n 0, 1) := by decide +kernel
theorem dX1_pluck_45 : decode cX1_pluck 45 = .ok (.iload_n 1, 1) := by decide +kernel
theorem dX1_pluck_46 : decode cX1_pluck 46 = .ok (.invokevirtual 86, 3) := by decide +kernel
theorem dX1_pluck_49 : decode cX1_pluck 49 = .ok (.return_, 1) := by decide +kernel
theorem dX1_shiftWind_0 : decode cX1_shiftWind 0 = .ok (.aload_n 0, 1) := by decide +kernel
theorem dX1_shiftWind_1 : decode cX1_shiftWind 1 = .ok (.getfield 39, 3) := by decide +kernel
theorem dX1_shiftWind_4 : decode cX1_shiftWind 4 = .ok (.iconst 0, 1) := by decide +kernel
theorem dX1_shiftWind_5 : decode cX1_shiftWind 5 = .ok (.iaload, 1) := by decide +kernel
theorem dX1_shiftWind_6 : decode cX1_shiftWind 6 = .ok (.istore_n 1, 1) := by decide +kernel
theorem dX1_shiftWind_7 : decode cX1_shiftWind 7 = .ok (.iload_n 1, 1) := by decide +kernel
theorem dX1_shiftWind_8 : decode cX1_shiftWind 8 = .ok (.ifCond .le 24, 3) := by decide +kernel
theorem dX1_shiftWind_11 : decode cX1_shiftWind 11 = .ok (.aload_n 0, 1) := by decide +kernel
theorem dX1_shiftWind_12 : decode cX1_shiftWind 12 = .ok (.getfield 62, 3) := by decide +kernel
theorem dX1_shiftWind_15 : decode cX1_shiftWind 15 = .ok (.iload_n 1, 1) := by decide +kernel
theorem dX1_shiftWind_16 : decode cX1_shiftWind 16 = .ok (.irem, 1) := by decide +kernel
theorem dX1_shiftWind_17 : decode cX1_shiftWind 17 = .ok (.ifCond .ne 15, 3) := by decide +kernel
theorem dX1_shiftWind_20 : decode cX1_shiftWind 20 = .ok (.aload_n 0, 1) := by decide +kernel
theorem dX1_shiftWind_21 : decode cX1_shiftWind 21 = .ok (.aload_n 0, 1) := by decide +kernel
theorem dX1_shiftWind_22 : decode cX1_shiftWind 22 = .ok (.getfield 56, 3) := by decide +kernel
theorem dX1_shiftWind_25 : decode cX1_shiftWind 25 = .ok (.iconst 1, 1) := by decide +kernel
theorem dX1_shiftWind_26 : decode cX1_shiftWind 26 = .ok (.iadd, 1) := by decide +kernel
theorem dX1_shiftWind_27 : decode cX1_shiftWind 27 = .ok (.iconst 4, 1) := by decide +kernel
theorem dX1_shiftWind_28 : decode cX1_shiftWind 28 = .ok (.irem, 1) := by decide +kernel
theorem dX1_shiftWind_29 : decode cX1_shiftWind 29 = .ok (.putfield 56, 3) := by decide +kernel
theorem dX1_shiftWind_32 : decode cX1_shiftWind 32 = .ok (.return_, 1) := by decide +kernel
theorem dX1_letCrowsFly_0 : decode cX1_letCrowsFly 0 = .ok (.iconst 0, 1) := by decide +kernel
theorem dX1_letCrowsFly_1 : decode cX1_letCrowsFly 1 = .ok (.istore_n 2, 1) := by decide +kernel
theorem dX1_letCrowsFly_2 : decode cX1_letCrowsFly 2 = .ok (.iload_n 2, 1) := by decide +kernel
theorem dX1_letCrowsFly_3 : decode cX1_letCrowsFly 3 = .ok (.iconst 4, 1) := by decide +kernel
theorem dX1_letCrowsFly_4 : decode cX1_letCrowsFly 4 = .ok (.if_icmp .ge 20, 3) := by decide +kernel
theorem dX1_letCrowsFly_7 : decode cX1_letCrowsFly 7 = .ok (.aload_n 0, 1) := by decide +kernel
theorem dX1_letCrowsFly_8 : decode cX1_letCrowsFly 8 = .ok (.getfield 33, 3) := by decide +kernel
theorem dX1_letCrowsFly_11 : decode cX1_letCrowsFly 11 = .ok (.iload_n 1, 1) := by decide +kernel
theorem dX1_letCrowsFly_12 : decode cX1_letCrowsFly 12 = .ok (.iconst 4, 1) := by decide +kernel
theorem dX1_letCrowsFly_13 : decode cX1_letCrowsFly 13 = .ok (.imul, 1) := by decide +kernel
theorem dX1_letCrowsFly_14 : decode cX1_letCrowsFly 14 = .ok (.iload_n 2, 1) := by decide +kernel
theorem dX1_letCrowsFly_15 : decode cX1_letCrowsFly 15 = .ok (.iadd, 1) := by decide +kernel
theorem dX1_letCrowsFly_16 : decode cX1_letCrowsFly 16 = .ok (.iconst 0, 1) := by decide +kernel
theorem dX1_letCrowsFly_17 : decode cX1_letCrowsFly 17 = .ok (.iastore, 1) := by decide +kernel
theorem dX1_letCrowsFly_18 : decode cX1_letCrowsFly 18 = .ok (.iinc 2 1, 3) := by decide +kernel
theorem dX1_letCrowsFly_21 : decode cX1_letCrowsFly 21 = .ok (.goto (-19), 3) := by decide +kernel
theorem dX1_letCrowsFly_24 : decode cX1_letCrowsFly 24 = .ok (.return_, 1) := by decide +kernel
theorem dX1_isScarecrow_0 : decode cX1_isScarecrow 0 = .ok (.iload_n 1, 1) := by decide +kernel
theorem dX1_isScarecrow_1 : decode cX1_isScarecrow 1 = .ok (.ifCond .lt 15, 3) := by decide +kernel
theorem dX1_isScarecrow_4 : decode cX1_isScarecrow 4 = .ok (.iload_n 1, 1) := by decide +kernel
theorem dX1_isScarecrow_5 : decode cX1_isScarecrow 5 = .ok (.aload_n 0, 1) := by decide +kernel
theorem dX1_isScarecrow_6 : decode cX1_isScarecrow 6 = .ok (.getfield 53, 3) := by decide +kernel
theorem dX1_isScarecrow_9 : decode cX1_isScarecrow 9 = .ok (.if_icmp .ge 7, 3) := by decide +kernel
theorem dX1_isScarecrow_12 : decode cX1_isScarecrow 12 = .ok (.iconst 1, 1) := by decide +kernel
theorem dX1_isScarecrow_13 : decode cX1_isScarecrow 13 = .ok (.goto 4, 3) := by decide +kernel
theorem dX1_isScarecrow_16 : decode cX1_isScarecrow 16 = .ok (.iconst 0, 1) := by decide +kernel
theorem dX1_isScarecrow_17 : decode cX1_isScarecrow 17 = .ok (.ireturn, 1) := by decide +kernel
theorem dX1_crowsOn_0 : decode cX1_crowsOn 0 = .ok (.iconst 0, 1) := by decide +kernel
theorem dX1_crowsOn_1 : decode cX1_crowsOn 1 = .ok (.istore_n 2, 1) := by decide +kernel
theorem dX1_crowsOn_2 : decode cX1_crowsOn 2 = .ok (.iconst 0, 1) := by decide +kernel
theorem dX1_crowsOn_3 : decode cX1_crowsOn 3 = .ok (.istore_n 3, 1) := by decide +kernel
theorem dX1_crowsOn_4 : decode cX1_crowsOn 4 = .ok (.iload_n 3, 1) := by decide +kernel
theorem dX1_crowsOn_5 : decode cX1_crowsOn 5 = .ok (.iconst 4, 1) := by decide +kernel
theorem dX1_crowsOn_6 : decode cX1_crowsOn 6 = .ok (.if_icmp .ge 22, 3) := by decide +kernel
theorem dX1_crowsOn_9 : decode cX1_crowsOn 9 = .ok (.iload_n 2, 1) := by decide +kernel
theorem dX1_crowsOn_10 : decode cX1_crowsOn 10 = .ok (.aload_n 0, 1) := by decide +kernel
theorem dX1_crowsOn_11 : decode cX1_crowsOn 11 = .ok (.getfield 33, 3) := by decide +kernel
theorem dX1_crowsOn_14 : decode cX1_crowsOn 14 = .ok (.iload_n 1, 1) := by decide +kernel
theorem dX1_crowsOn_15 : decode cX1_crowsOn 15 = .ok (.iconst 4, 1) := by decide +kernel
theorem dX1_crowsOn_16 : decode cX1_crowsOn 16 = .ok (.imul, 1) := by decide +kernel
theorem dX1_crowsOn_17 : decode cX1_crowsOn 17 = .ok (.iload_n 3, 1) := by decide +kernel
theorem dX1_crowsOn_18 : decode cX1_crowsOn 18 = .ok (.iadd, 1) := by decide +kernel
theorem dX1_crowsOn_19 : decode cX1_crowsOn 19 = .ok (.iaload, 1) := by decide +kernel
theorem dX1_crowsOn_20 : decode cX1_crowsOn 20 = .ok (.iadd, 1) := by decide +kernel
theorem dX1_crowsOn_21 : decode cX1_crowsOn 21 = .ok (.istore_n 2, 1) := by decide +kernel
theorem dX1_crowsOn_22 : decode cX1_crowsOn 22 = .ok (.iinc 3 1, 3) := by decide +kernel
theorem dX1_crowsOn_25 : decode cX1_crowsOn 25 = .ok (.goto (-21), 3) := by decide +kernel
theorem dX1_crowsOn_28 : decode cX1_crowsOn 28 = .ok (.iload_n 2, 1) := by decide +kernel
theorem dX1_crowsOn_29 : decode cX1_crowsOn 29 = .ok (.ireturn, 1) := by decide +kernel
theorem dX1_strawAsFloat_0 : decode cX1_strawAsFloat 0 = .ok (.aload_n 0, 1) := by decide +kernel
theorem dX1_strawAsFloat_1 : decode cX1_strawAsFloat 1 = .ok (.getfield 24, 3) := by decide +kernel
theorem dX1_strawAsFloat_4 : decode cX1_strawAsFloat 4 = .ok (.iload_n 1, 1) := by decide +kernel
theorem dX1_strawAsFloat_5 : decode cX1_strawAsFloat 5 = .ok (.iaload, 1) := by decide +kernel
theorem dX1_strawAsFloat_6 : decode cX1_strawAsFloat 6 = .ok (.i2f, 1) := by decide +kernel
theorem dX1_strawAsFloat_7 : decode cX1_strawAsFloat 7 = .ok (.ldc 113, 2) := by decide +kernel
theorem dX1_strawAsFloat_9 : decode cX1_strawAsFloat 9 = .ok (.fdiv, 1) := by decide +kernel
theorem dX1_strawAsFloat_10 : decode cX1_strawAsFloat 10 = .ok (.freturn, 1) := by decide +kernel
theorem dX1_lobbyFor_0 : decode cX1_lobbyFor 0 = .ok (.aload_n 0, 1) := by decide +kernel
theorem dX1_lobbyFor_1 : decode cX1_lobbyFor 1 = .ok (.getfield 33, 3) := by decide +kernel
theorem dX1_lobbyFor_4 : decode cX1_lobbyFor 4 = .ok (.iload_n 1, 1) := by decide +kernel
theorem dX1_lobbyFor_5 : decode cX1_lobbyFor 5 = .ok (.iconst 4, 1) := by decide +kernel
theorem dX1_lobbyFor_6 : decode cX1_lobbyFor 6 = .ok (.imul, 1) := by decide +kernel
theorem dX1_lobbyFor_7 : decode cX1_lobbyFor 7 = .ok (.iload_n 2, 1) := by decide +kernel
theorem dX1_lobbyFor_8 : decode cX1_lobbyFor 8 = .ok (.iadd, 1) := by decide +kernel
theorem dX1_lobbyFor_9 : decode cX1_lobbyFor 9 = .ok (.iaload, 1) := by decide +kernel
theorem dX1_lobbyFor_10 : decode cX1_lobbyFor 10 = .ok (.aload_n 0, 1) := by decide +kernel
theorem dX1_lobbyFor_11 : decode cX1_lobbyFor 11 = .ok (.getfield 39, 3) := by decide +kernel
theorem dX1_lobbyFor_14 : decode cX1_lobbyFor 14 = .ok (.iconst 1, 1) := by decide +kernel
theorem dX1_lobbyFor_15 : decode cX1_lobbyFor 15 = .ok (.iaload, 1) := by decide +kernel
theorem dX1_lobbyFor_16 : decode cX1_lobbyFor 16 = .ok (.imul, 1) := by decide +kernel
theorem dX1_lobbyFor_17 : decode cX1_lobbyFor 17 = .ok (.i2f, 1) := by decide +kernel
theorem dX1_lobbyFor_18 : decode cX1_lobbyFor 18 = .ok (.ldc 114, 2) := by decide +kernel
theorem dX1_lobbyFor_20 : decode cX1_lobbyFor 20 = .ok (.fdiv, 1) := by decide +kernel
theorem dX1_lobbyFor_21 : decode cX1_lobbyFor 21 = .ok (.freturn, 1) := by decide +kernel
theorem dX1_standingIn_0 : decode cX1_standingIn 0 = .ok (.iconst 0, 1) := by decide +kernel
theorem dX1_standingIn_1 : decode cX1_standingIn 1 = .ok (.istore_n 2, 1) := by decide +kernel
theorem dX1_standingIn_2 : decode cX1_standingIn 2 = .ok (.iconst 0, 1) := by decide +kernel
theorem dX1_standingIn_3 : decode cX1_standingIn 3 = .ok (.istore_n 3, 1) := by decide +kernel
theorem dX1_standingIn_4 : decode cX1_standingIn 4 = .ok (.iload_n 3, 1) := by decide +kernel
theorem dX1_standingIn_5 : decode cX1_standingIn 5 = .ok (.aload_n 0, 1) := by decide +kernel
theorem dX1_standingIn_6 : decode cX1_standingIn 6 = .ok (.getfield 53, 3) := by decide +kernel
theorem dX1_standingIn_9 : decode cX1_standingIn 9 = .ok (.if_icmp .ge 25, 3) := by decide +kernel
theorem dX1_standingIn_12 : decode cX1_standingIn 12 = .ok (.aload_n 0, 1) := by decide +kernel
theorem dX1_standingIn_13 : decode cX1_standingIn 13 = .ok (.getfield 9, 3) := by decide +kernel
theorem dX1_standingIn_16 : decode cX1_standingIn 16 = .ok (.iload_n 3, 1) := by decide +kernel
theorem dX1_standingIn_17 : decode cX1_standingIn 17 = .ok (.iaload, 1) := by decide +kernel
theorem dX1_standingIn_18 : decode cX1_standingIn 18 = .ok (.iload_n 1, 1) := by decide +kernel
theorem dX1_standingIn_19 : decode cX1_standingIn 19 = .ok (.if_icmp .ne 9, 3) := by decide +kernel
theorem dX1_standingIn_22 : decode cX1_standingIn 22 = .ok (.iload_n 2, 1) := by decide +kernel
theorem dX1_standingIn_23 : decode cX1_standingIn 23 = .ok (.iconst 1, 1) := by decide +kernel
theorem dX1_standingIn_24 : decode cX1_standingIn 24 = .ok (.iload_n 3, 1) := by decide +kernel
theorem dX1_standingIn_25 : decode cX1_standingIn 25 = .ok (.ishl, 1) := by decide +kernel
theorem dX1_standingIn_26 : decode cX1_standingIn 26 = .ok (.ior, 1) := by decide +kernel
theorem dX1_standingIn_27 : decode cX1_standingIn 27 = .ok (.istore_n 2, 1) := by decide +kernel
theorem dX1_standingIn_28 : decode cX1_standingIn 28 = .ok (.iinc 3 1, 3) := by decide +kernel
theorem dX1_standingIn_31 : decode cX1_standingIn 31 = .ok (.goto (-27), 3) := by decide +kernel
theorem dX1_standingIn_34 : decode cX1_standingIn 34 = .ok (.iload_n 2, 1) := by decide +kernel
theorem dX1_standingIn_35 : decode cX1_standingIn 35 = .ok (.ireturn, 1) := by decide +kernel
theorem dX1_tellScarecrow_0 : decode cX1_tellScarecrow 0 = .ok (.aload_n 0, 1) := by decide +kernel
theorem dX1_tellScarecrow_1 : decode cX1_tellScarecrow 1 = .ok (.iload_n 1, 1) := by decide +kernel
theorem dX1_tellScarecrow_2 : decode cX1_tellScarecrow 2 = .ok (.invokevirtual 79, 3) := by decide +kernel
theorem dX1_tellScarecrow_5 : decode cX1_tellScarecrow 5 = .ok (.ifCond .ne 5, 3) := by decide +kernel
theorem dX1_tellScarecrow_8 : decode cX1_tellScarecrow 8 = .ok (.iconst (-1), 1) := by decide +kernel
theorem dX1_tellScarecrow_9 : decode cX1_tellScarecrow 9 = .ok (.ireturn, 1) := by decide +kernel
theorem dX1_tellScarecrow_10 : decode cX1_tellScarecrow 10 = .ok (.iload_n 2, 1) := by decide +kernel
theorem dX1_tellScarecrow_11 : decode cX1_tellScarecrow 11 = .ok (.tableswitch 118 0 10 #[57, 64, 71, 78, 85, 91, 91, 91, 91, 104, 111], 57) := by decide +kernel
theorem dX1_tellScarecrow_68 : decode cX1_tellScarecrow 68 = .ok (.aload_n 0, 1) := by decide +kernel
theorem dX1_tellScarecrow_69 : decode cX1_tellScarecrow 69 = .ok (.getfield 9, 3) := by decide +kernel
theorem dX1_tellScarecrow_72 : decode cX1_tellScarecrow 72 = .ok (.iload_n 1, 1) := by decide +kernel
theorem dX1_tellScarecrow_73 : decode cX1_tellScarecrow 73 = .ok (.iaload, 1) := by decide +kernel
theorem dX1_tellScarecrow_74 : decode cX1_tellScarecrow 74 = .ok (.ireturn, 1) := by decide +kernel
theorem dX1_tellScarecrow_75 : decode cX1_tellScarecrow 75 = .ok (.aload_n 0, 1) := by decide +kernel
theorem dX1_tellScarecrow_76 : decode cX1_tellScarecrow 76 = .ok (.getfield 15, 3) := by decide +kernel
theorem dX1_tellScarecrow_79 : decode cX1_tellScarecrow 79 = .ok (.iload_n 1, 1) := by decide +kernel
theorem dX1_tellScarecrow_80 : decode cX1_tellScarecrow 80 = .ok (.iaload, 1) := by decide +kernel
theorem dX1_tellScarecrow_81 : decode cX1_tellScarecrow 81 = .ok (.ireturn, 1) := by decide +kernel
theorem dX1_tellScarecrow_82 : decode cX1_tellScarecrow 82 = .ok (.aload_n 0, 1) := by decide +kernel
theorem dX1_tellScarecrow_83 : decode cX1_tellScarecrow 83 = .ok (.getfield 18, 3) := by decide +kernel
theorem dX1_tellScarecrow_86 : decode cX1_tellScarecrow 86 = .ok (.iload_n 1, 1) := by decide +kernel
theorem dX1_tellScarecrow_87 : decode cX1_tellScarecrow 87 = .ok (.iaload, 1) := by decide +kernel
theorem dX1_tellScarecrow_88 : decode cX1_tellScarecrow 88 = .ok (.ireturn, 1) := by decide +kernel
theorem dX1_tellScarecrow_89 : decode cX1_tellScarecrow 89 = .ok (.aload_n 0, 1) := by decide +kernel
theorem dX1_tellScarecrow_90 : decode cX1_tellScarecrow 90 = .ok (.getfield 21, 3) := by decide +kernel
theorem dX1_tellScarecrow_93 : decode cX1_tellScarecrow 93 = .ok (.iload_n 1, 1) := by decide +kernel
theorem dX1_tellScarecrow_94 : decode cX1_tellScarecrow 94 = .ok (.iaload, 1) := by decide +kernel
theorem dX1_tellScarecrow_95 : decode cX1_tellScarecrow 95 = .ok (.ireturn, 1) := by decide +kernel
theorem dX1_tellScarecrow_96 : decode cX1_tellScarecrow 96 = .ok (.aload_n 0, 1) := by decide +kernel
theorem dX1_tellScarecrow_97 : decode cX1_tellScarecrow 97 = .ok (.iload_n 1, 1) := by decide +kernel
theorem dX1_tellScarecrow_98 : decode cX1_tellScarecrow 98 = .ok (.invokevirtual 82, 3) := by decide +kernel
theorem dX1_tellScarecrow_101 : decode cX1_tellScarecrow 101 = .ok (.ireturn, 1) := by decide +kernel
theorem dX1_tellScarecrow_102 : decode cX1_tellScarecrow 102 = .ok (.aload_n 0, 1) := by decide +kernel
theorem dX1_tellScarecrow_103 : decode cX1_tellScarecrow 103 = .ok (.getfield 33, 3) := by decide +kernel
theorem dX1_tellScarecrow_106 : decode cX1_tellScarecrow 106 = .ok (.iload_n 1, 1) := by decide +kernel
theorem dX1_tellScarecrow_107 : decode cX1_tellScarecrow 107 = .ok (.iconst 4, 1) := by decide +kernel
theorem dX1_tellScarecrow_108 : decode cX1_tellScarecrow 108 = .ok (.imul, 1) := by decide +kernel
theorem dX1_tellScarecrow_109 : decode cX1_tellScarecrow 109 = .ok (.iload_n 2, 1) := by decide +kernel
theorem dX1_tellScarecrow_110 : decode cX1_tellScarecrow 110 = .ok (.iadd, 1) := by decide +kernel
theorem dX1_tellScarecrow_111 : decode cX1_tellScarecrow 111 = .ok (.iconst 5, 1) := by decide +kernel
theorem dX1_tellScarecrow_112 : decode cX1_tellScarecrow 112 = .ok (.isub, 1) := by decide +kernel
theorem dX1_tellScarecrow_113 : decode cX1_tellScarecrow 113 = .ok (.iaload, 1) := by decide +kernel
theorem dX1_tellScarecrow_114 : decode cX1_tellScarecrow 114 = .ok (.ireturn, 1) := by decide +kernel
theorem dX1_tellScarecrow_115 : decode cX1_tellScarecrow 115 = .ok (.aload_n 0, 1) := by decide +kernel
theorem dX1_tellScarecrow_116 : decode cX1_tellScarecrow 116 = .ok (.getfield 27, 3) := by decide +kernel
theorem dX1_tellScarecrow_119 : decode cX1_tellScarecrow 119 = .ok (.iload_n 1, 1) := by decide +kernel
theorem dX1_tellScarecrow_120 : decode cX1_tellScarecrow 120 = .ok (.iaload, 1) := by decide +kernel
theorem dX1_tellScarecrow_121 : decode cX1_tellScarecrow 121 = .ok (.ireturn, 1) := by decide +kernel
theorem dX1_tellScarecrow_122 : decode cX1_tellScarecrow 122 = .ok (.aload_n 0, 1) := by decide +kernel
theorem dX1_tellScarecrow_123 : decode cX1_tellScarecrow 123 = .ok (.getfield 30, 3) := by decide +kernel
theorem dX1_tellScarecrow_126 : decode cX1_tellScarecrow 126 = .ok (.iload_n 1, 1) := by decide +kernel
theorem dX1_tellScarecrow_127 : decode cX1_tellScarecrow 127 = .ok (.iaload, 1) := by decide +kernel
theorem dX1_tellScarecrow_128 : decode cX1_tellScarecrow 128 = .ok (.ireturn, 1) := by decide +kernel
theorem dX1_tellScarecrow_129 : decode cX1_tellScarecrow 129 = .ok (.bipush (-2), 2) := by decide +kernel
theorem dX1_tellScarecrow_131 : decode cX1_tellScarecrow 131 = .ok (.ireturn, 1) := by decide +kernel
theorem dX1_tellCount_0 : decode cX1_tellCount 0 = .ok (.iload_n 1, 1) := by decide +kernel
theorem dX1_tellCount_1 : decode cX1_tellCount 1 = .ok (.tableswitch 160 0 13 #[71, 76, 81, 89, 94, 99, 104, 112, 120, 128, 133, 138, 146, 153], 71) := by decide +kernel
theorem dX1_tellCount_72 : decode cX1_tellCount 72 = .ok (.aload_n 0, 1) := by decide +kernel
theorem dX1_tellCount_73 : decode cX1_tellCount 73 = .ok (.getfield 62, 3) := by decide +kernel
theorem dX1_tellCount_76 : decode cX1_tellCount 76 = .ok (.ireturn, 1) := by decide +kernel
theorem dX1_tellCount_77 : decode cX1_tellCount 77 = .ok (.aload_n 0, 1) := by decide +kernel
theorem dX1_tellCount_78 : decode cX1_tellCount 78 = .ok (.getfield 53, 3) := by decide +kernel
theorem dX1_tellCount_81 : decode cX1_tellCount 81 = .ok (.ireturn, 1) := by decide +kernel
theorem dX1_tellCount_82 : decode cX1_tellCount 82 = .ok (.aload_n 0, 1) := by decide +kernel
theorem dX1_tellCount_83 : decode cX1_tellCount 83 = .ok (.getfield 33, 3) := by decide +kernel
theorem dX1_tellCount_86 : decode cX1_tellCount 86 = .ok (.invokestatic 115, 3) := by decide +kernel
theorem dX1_tellCount_89 : decode cX1_tellCount 89 = .ok (.ireturn, 1) := by decide +kernel
theorem dX1_tellCount_90 : decode cX1_tellCount 90 = .ok (.aload_n 0, 1) := by decide +kernel
theorem dX1_tellCount_91 : decode cX1_tellCount 91 = .ok (.getfield 56, 3) := by decide +kernel
theorem dX1_tellCount_94 : decode cX1_tellCount 94 = .ok (.ireturn, 1) := by decide +kernel
theorem dX1_tellCount_95 : decode cX1_tellCount 95 = .ok (.aload_n 0, 1) := by decide +kernel
theorem dX1_tellCount_96 : decode cX1_tellCount 96 = .ok (.getfield 59, 3) := by decide +kernel
theorem dX1_tellCount_99 : decode cX1_tellCount 99 = .ok (.ireturn, 1) := by decide +kernel
theorem dX1_tellCount_100 : decode cX1_tellCount 100 = .ok (.aload_n 0, 1) := by decide +kernel
theorem dX1_tellCount_101 : decode cX1_tellCount 101 = .ok (.getfield 42, 3) := by decide +kernel
theorem dX1_tellCount_104 : decode cX1_tellCount 104 = .ok (.ireturn, 1) := by decide +kernel
theorem dX1_tellCount_105 : decode cX1_tellCount 105 = .ok (.aload_n 0, 1) := by decide +kernel
theorem dX1_tellCount_106 : decode cX1_tellCount 106 = .ok (.getfield 24, 3) := by decide +kernel
theorem dX1_tellCount_109 : decode cX1_tellCount 109 = .ok (.invokestatic 115, 3) := by decide +kernel
theorem dX1_tellCount_112 : decode cX1_tellCount 112 = .ok (.ireturn, 1) := by decide +kernel
theorem dX1_tellCount_113 : decode cX1_tellCount 113 = .ok (.aload_n 0, 1) := by decide +kernel
theorem dX1_tellCount_114 : decode cX1_tellCount 114 = .ok (.getfield 30, 3) := by decide +kernel
theorem dX1_tellCount_117 : decode cX1_tellCount 117 = .ok (.invokestatic 115, 3) := by decide +kernel
theorem dX1_tellCount_120 : decode cX1_tellCount 120 = .ok (.ireturn, 1) := by decide +kernel
theorem dX1_tellCount_121 : decode cX1_tellCount 121 = .ok (.aload_n 0, 1) := by decide +kernel
theorem dX1_tellCount_122 : decode cX1_tellCount 122 = .ok (.getfield 27, 3) := by decide +kernel
theorem dX1_tellCount_125 : decode cX1_tellCount 125 = .ok (.invokestatic 115, 3) := by decide +kernel
theorem dX1_tellCount_128 : decode cX1_tellCount 128 = .ok (.ireturn, 1) := by decide +kernel
theorem dX1_tellCount_129 : decode cX1_tellCount 129 = .ok (.aload_n 0, 1) := by decide +kernel
theorem dX1_tellCount_130 : decode cX1_tellCount 130 = .ok (.getfield 65, 3) := by decide +kernel
theorem dX1_tellCount_133 : decode cX1_tellCount 133 = .ok (.ireturn, 1) := by decide +kernel
theorem dX1_tellCount_134 : decode cX1_tellCount 134 = .ok (.aload_n 0, 1) := by decide +kernel
theorem dX1_tellCount_135 : decode cX1_tellCount 135 = .ok (.getfield 46, 3) := by decide +kernel
theorem dX1_tellCount_138 : decode cX1_tellCount 138 = .ok (.ireturn, 1) := by decide +kernel
theorem dX1_tellCount_139 : decode cX1_tellCount 139 = .ok (.aload_n 0, 1) := by decide +kernel
theorem dX1_tellCount_140 : decode cX1_tellCount 140 = .ok (.getfield 36, 3) := by decide +kernel
theorem dX1_tellCount_143 : decode cX1_tellCount 143 = .ok (.invokestatic 115, 3) := by decide +kernel
theorem dX1_tellCount_146 : decode cX1_tellCount 146 = .ok (.ireturn, 1) := by decide +kernel
theorem dX1_tellCount_147 : decode cX1_tellCount 147 = .ok (.aload_n 0, 1) := by decide +kernel
theorem dX1_tellCount_148 : decode cX1_tellCount 148 = .ok (.getfield 39, 3) := by decide +kernel
theorem dX1_tellCount_151 : decode cX1_tellCount 151 = .ok (.iconst 0, 1) := by decide +kernel
theorem dX1_tellCount_152 : decode cX1_tellCount 152 = .ok (.iaload, 1) := by decide +kernel
theorem dX1_tellCount_153 : decode cX1_tellCount 153 = .ok (.ireturn, 1) := by decide +kernel
theorem dX1_tellCount_154 : decode cX1_tellCount 154 = .ok (.aload_n 0, 1) := by decide +kernel
theorem dX1_tellCount_155 : decode cX1_tellCount 155 = .ok (.getfield 39, 3) := by decide +kernel
theorem dX1_tellCount_158 : decode cX1_tellCount 158 = .ok (.iconst 1, 1) := by decide +kernel
theorem dX1_tellCount_159 : decode cX1_tellCount 159 = .ok (.iaload, 1) := by decide +kernel
theorem dX1_tellCount_160 : decode cX1_tellCount 160 = .ok (.ireturn, 1) := by decide +kernel
theorem dX1_tellCount_161 : decode cX1_tellCount 161 = .ok (.bipush (-2), 2) := by decide +kernel
theorem dX1_tellCount_163 : decode cX1_tellCount 163 = .ok (.ireturn, 1) := by decide +kernel
theorem dX2_init_0 : decode cX2_init 0 = .ok (.aload_n 0, 1) := by decide +kernel
theorem dX2_init_1 : decode cX2_init 1 = .ok (.invokespecial 3, 3) := by decide +kernel
theorem dX2_init_4 : decode cX2_init 4 = .ok (.aload_n 0, 1) := by decide +kernel
theorem dX2_init_5 : decode cX2_init 5 = .ok (.iconst 4, 1) := by decide +kernel
theorem dX2_init_6 : decode cX2_init 6 = .ok (.anewarray 9, 3) := by decide +kernel
theorem dX2_init_9 : decode cX2_init 9 = .ok (.putfield 11, 3) := by decide +kernel
theorem dX2_init_12 : decode cX2_init 12 = .ok (.iconst 0, 1) := by decide +kernel
theorem dX2_init_13 : decode cX2_init 13 = .ok (.istore_n 1, 1) := by decide +kernel
theorem dX2_init_14 : decode cX2_init 14 = .ok (.iload_n 1, 1) := by decide +kernel
theorem dX2_init_15 : decode cX2_init 15 = .ok (.iconst 4, 1) := by decide +kernel
theorem dX2_init_16 : decode cX2_init 16 = .ok (.if_icmp .ge 22, 3) := by decide +kernel
theorem dX2_init_19 : decode cX2_init 19 = .ok (.aload_n 0, 1) := by decide +kernel
theorem dX2_init_20 : decode cX2_init 20 = .ok (.getfield 11, 3) := by decide +kernel
theorem dX2_init_23 : decode cX2_init 23 = .ok (.iload_n 1, 1) := by decide +kernel
theorem dX2_init_24 : decode cX2_init 24 = .ok (.new 9, 3) := by decide +kernel
theorem dX2_init_27 : decode cX2_init 27 = .ok (.dup, 1) := by decide +kernel
theorem dX2_init_28 : decode cX2_init 28 = .ok (.invokespecial 17, 3) := by decide +kernel
theorem dX2_init_31 : decode cX2_init 31 = .ok (.aastore, 1) := by decide +kernel
theorem dX2_init_32 : decode cX2_init 32 = .ok (.iinc 1 1, 3) := by decide +kernel
theorem dX2_init_35 : decode cX2_init 35 = .ok (.goto (-21), 3) := by decide +kernel
theorem dX2_init_38 : decode cX2_init 38 = .ok (.return_, 1) := by decide +kernel
theorem dX2_remember_0 : decode cX2_remember 0 = .ok (.aload_n 0, 1) := by decide +kernel
theorem dX2_remember_1 : decode cX2_remember 1 = .ok (.getfield 18, 3) := by decide +kernel
theorem dX2_remember_4 : decode cX2_remember 4 = .ok (.iconst 4, 1) := by decide +kernel
theorem dX2_remember_5 : decode cX2_remember 5 = .ok (.if_icmp .lt 7, 3) := by decide +kernel
theorem dX2_remember_8 : decode cX2_remember 8 = .ok (.aload_n 0, 1) := by decide +kernel
theorem dX2_remember_9 : decode cX2_remember 9 = .ok (.invokevirtual 22, 3) := by decide +kernel
theorem dX2_remember_12 : decode cX2_remember 12 = .ok (.aload_n 0, 1) := by decide +kernel
theorem dX2_remember_13 : decode cX2_remember 13 = .ok (.getfield 11, 3) := by decide +kernel
theorem dX2_remember_16 : decode cX2_remember 16 = .ok (.aload_n 0, 1) := by decide +kernel
theorem dX2_remember_17 : decode cX2_remember 17 = .ok (.getfield 18, 3) := by decide +kernel
theorem dX2_remember_20 : decode cX2_remember 20 = .ok (.aaload, 1) := by decide +kernel
theorem dX2_remember_21 : decode cX2_remember 21 = .ok (.aload_n 1, 1) := by decide +kernel
theorem dX2_remember_22 : decode cX2_remember 22 = .ok (.invokevirtual 25, 3) := by decide +kernel
theorem dX2_remember_25 : decode cX2_remember 25 = .ok (.aload_n 0, 1) := by decide +kernel
theorem dX2_remember_26 : decode cX2_remember 26 = .ok (.dup, 1) := by decide +kernel
theorem dX2_remember_27 : decode cX2_remember 27 = .ok (.getfield 18, 3) := by decide +kernel
theorem dX2_remember_30 : decode cX2_remember 30 = .ok (.iconst 1, 1) := by decide +kernel
theorem dX2_remember_31 : decode cX2_remember 31 = .ok (.iadd, 1) := by decide +kernel
theorem dX2_remember_32 : decode cX2_remember 32 = .ok (.putfield 18, 3) := by decide +kernel
theorem dX2_remember_35 : decode cX2_remember 35 = .ok (.return_, 1) := by decide +kernel
theorem dX2_dropOldest_0 : decode cX2_dropOldest 0 = .ok (.aload_n 0, 1) := by decide +kernel
theorem dX2_dropOldest_1 : decode cX2_dropOldest 1 = .ok (.getfield 11, 3) := by decide +kernel
theorem dX2_dropOldest_4 : decode cX2_dropOldest 4 = .ok (.iconst 0, 1) := by decide +kernel
theorem dX2_dropOldest_5 : decode cX2_dropOldest 5 = .ok (.aaload, 1) := by decide +kernel
theorem dX2_dropOldest_6 : decode cX2_dropOldest 6 = .ok (.astore_n 1, 1) := by decide +kernel
theorem dX2_dropOldest_7 : decode cX2_dropOldest 7 = .ok (.iconst 1, 1) := by decide +kernel
theorem dX2_dropOldest_8 : decode cX2_dropOldest 8 = .ok (.istore_n 2, 1) := by decide +kernel
theorem dX2_dropOldest_9 : decode cX2_dropOldest 9 = .ok (.iload_n 2, 1) := by decide +kernel
theorem dX2_dropOldest_10 : decode cX2_dropOldest 10 = .ok (.iconst 4, 1) := by decide +kernel
theorem dX2_dropOldest_11 : decode cX2_dropOldest 11 = .ok (.if_icmp .ge 23, 3) := by decide +kernel
theorem dX2_dropOldest_14 : decode cX2_dropOldest 14 = .ok (.aload_n 0, 1) := by decide +kernel
theorem dX2_dropOldest_15 : decode cX2_dropOldest 15 = .ok (.getfield 11, 3) := by decide +kernel
theorem dX2_dropOldest_18 : decode cX2_dropOldest 18 = .ok (.iload_n 2, 1) := by decide +kernel
theorem dX2_dropOldest_19 : decode cX2_dropOldest 19 = .ok (.iconst 1, 1) := by decide +kernel
theorem dX2_dropOldest_20 : decode cX2_dropOldest 20 = .ok (.isub, 1) := by decide +kernel
theorem dX2_dropOldest_21 : decode cX2_dropOldest 21 = .ok (.aload_n 0, 1) := by decide +kernel
theorem dX2_dropOldest_22 : decode cX2_dropOldest 22 = .ok (.getfield 11, 3) := by decide +kernel
theorem dX2_dropOldest_25 : decode cX2_dropOldest 25 = .ok (.iload_n 2, 1) := by decide +kernel
theorem dX2_dropOldest_26 : decode cX2_dropOldest 26 = .ok (.aaload, 1) := by decide +kernel
theorem dX2_dropOldest_27 : decode cX2_dropOldest 27 = .ok (.aastore, 1) := by decide +kernel
theorem dX2_dropOldest_28 : decode cX2_dropOldest 28 = .ok (.iinc 2 1, 3) := by decide +kernel
theorem dX2_dropOldest_31 : decode cX2_dropOldest 31 = .ok (.goto (-22), 3) := by decide +kernel
theorem dX2_dropOldest_34 : decode cX2_dropOldest 34 = .ok (.aload_n 0, 1) := by decide +kernel
theorem dX2_dropOldest_35 : decode cX2_dropOldest 35 = .ok (.getfield 11, 3) := by decide +kernel
theorem dX2_dropOldest_38 : decode cX2_dropOldest 38 = .ok (.iconst 3, 1) := by decide +kernel
theorem dX2_dropOldest_39 : decode cX2_dropOldest 39 = .ok (.aload_n 1, 1) := by decide +kernel
theorem dX2_dropOldest_40 : decode cX2_dropOldest 40 = .ok (.aastore, 1) := by decide +kernel
theorem dX2_dropOldest_41 : decode cX2_dropOldest 41 = .ok (.aload_n 0, 1) := by decide +kernel
theorem dX2_dropOldest_42 : decode cX2_dropOldest 42 = .ok (.iconst 3, 1) := by decide +kernel
theorem dX2_dropOldest_43 : decode cX2_dropOldest 43 = .ok (.putfield 18, 3) := by decide +kernel
theorem dX2_dropOldest_46 : decode cX2_dropOldest 46 = .ok (.return_, 1) := by decide +kernel
theorem dX2_bringBack_0 : decode cX2_bringBack 0 = .ok (.aload_n 0, 1) := by decide +kernel
theorem dX2_bringBack_1 : decode cX2_bringBack 1 = .ok (.getfield 18, 3) := by decide +kernel
theorem dX2_bringBack_4 : decode cX2_bringBack 4 = .ok (.ifCond .gt 6, 3) := by decide +kernel
theorem dX2_bringBack_7 : decode cX2_bringBack 7 = .ok (.bipush (-5), 2) := by decide +kernel
theorem dX2_bringBack_9 : decode cX2_bringBack 9 = .ok (.ireturn, 1) := by decide +kernel
theorem dX2_bringBack_10 : decode cX2_bringBack 10 = .ok (.aload_n 0, 1) := by decide +kernel
theorem dX2_bringBack_11 : decode cX2_bringBack 11 = .ok (.dup, 1) := by decide +kernel
theorem dX2_bringBack_12 : decode cX2_bringBack 12 = .ok (.getfield 18, 3) := by decide +kernel
theorem dX2_bringBack_15 : decode cX2_bringBack 15 = .ok (.iconst 1, 1) := by decide +kernel
theorem dX2_bringBack_16 : decode cX2_bringBack 16 = .ok (.isub, 1) := by decide +kernel
theorem dX2_bringBack_17 : decode cX2_bringBack 17 = .ok (.putfield 18, 3) := by decide +kernel
theorem dX2_bringBack_20 : decode cX2_bringBack 20 = .ok (.aload_n 1, 1) := by decide +kernel
theorem dX2_bringBack_21 : decode cX2_bringBack 21 = .ok (.aload_n 0, 1) := by decide +kernel
theorem dX2_bringBack_22 : decode cX2_bringBack 22 = .ok (.getfield 11, 3) := by decide +kernel
theorem dX2_bringBack_25 : decode cX2_bringBack 25 = .ok (.aload_n 0, 1) := by decide +kernel
theorem dX2_bringBack_26 : decode cX2_bringBack 26 = .ok (.getfield 18, 3) := by decide +kernel
theorem dX2_bringBack_29 : decode cX2_bringBack 29 = .ok (.aaload, 1) := by decide +kernel
theorem dX2_bringBack_30 : decode cX2_bringBack 30 = .ok (.invokevirtual 25, 3) := by decide +kernel
theorem dX2_bringBack_33 : decode cX2_bringBack 33 = .ok (.aload_n 0, 1) := by decide +kernel
theorem dX2_bringBack_34 : decode cX2_bringBack 34 = .ok (.getfield 18, 3) := by decide +kernel
theorem dX2_bringBack_37 : decode cX2_bringBack 37 = .ok (.ireturn, 1) := by decide +kernel
theorem dX3_init_0 : decode cX3_init 0 = .ok (.aload_n 0, 1) := by decide +kernel
theorem dX3_init_1 : decode cX3_init 1 = .ok (.invokespecial 3, 3) := by decide +kernel
theorem dX3_init_4 : decode cX3_init 4 = .ok (.aload_n 0, 1) := by decide +kernel
theorem dX3_init_5 : decode cX3_init 5 = .ok (.bipush 60, 2) := by decide +kernel
theorem dX3_init_7 : decode cX3_init 7 = .ok (.newarray .char, 2) := by decide +kernel
theorem dX3_init_9 : decode cX3_init 9 = .ok (.putfield 9, 3) := by decide +kernel
theorem dX3_init_12 : decode cX3_init 12 = .ok (.aload_n 0, 1) := by decide +kernel
theorem dX3_init_13 : decode cX3_init 13 = .ok (.bipush 30, 2) := by decide +kernel
theorem dX3_init_15 : decode cX3_init 15 = .ok (.newarray .int, 2) := by decide +kernel
theorem dX3_init_17 : decode cX3_init 17 = .ok (.putfield 15, 3) := by decide +kernel
theorem dX3_init_20 : decode cX3_init 20 = .ok (.aload_n 0, 1) := by decide +kernel
theorem dX3_init_21 : decode cX3_init 21 = .ok (.bipush 30, 2) := by decide +kernel
theorem dX3_init_23 : decode cX3_init 23 = .ok (.newarray .int, 2) := by decide +kernel
theorem dX3_init_25 : decode cX3_init 25 = .ok (.putfield 19, 3) := by decide +kernel
theorem dX3_init_28 : decode cX3_init 28 = .ok (.aload_n 0, 1) := by decide +kernel
theorem dX3_init_29 : decode cX3_init 29 = .ok (.bipush 30, 2) := by decide +kernel
theorem dX3_init_31 : decode cX3_init 31 = .ok (.newarray .int, 2) := by decide +kernel
theorem dX3_init_33 : decode cX3_init 33 = .ok (.putfield 22, 3) := by decide +kernel
theorem dX3_init_36 : decode cX3_init 36 = .ok (.return_, 1) := by decide +kernel
theorem dX3_append_0 : decode cX3_append 0 = .ok (.aload_n 0, 1) := by decide +kernel
theorem dX3_append_1 : decode cX3_append 1 = .ok (.getfield 25, 3) := by decide +kernel
theorem dX3_append_4 : decode cX3_append 4 = .ok (.bipush 60, 2) := by decide +kernel
theorem dX3_append_6 : decode cX3_append 6 = .ok (.if_icmp .lt 6, 3) := by decide +kernel
theorem dX3_append_9 : decode cX3_append 9 = .ok (.bipush (-3), 2) := by decide +kernel
theorem dX3_append_11 : decode cX3_append 11 = .ok (.ireturn, 1) := by decide +kernel
theorem dX3_append_12 : decode cX3_append 12 = .ok (.aload_n 0, 1) := by decide +kernel
theorem dX3_append_13 : decode cX3_append 13 = .ok (.getfield 9, 3) := by decide +kernel
theorem dX3_append_16 : decode cX3_append 16 = .ok (.aload_n 0, 1) := by decide +kernel
theorem dX3_append_17 : decode cX3_append 17 = .ok (.getfield 25, 3) := by decide +kernel
theorem dX3_append_20 : decode cX3_append 20 = .ok (.iload_n 1, 1) := by decide +kernel
theorem dX3_append_21 : decode cX3_append 21 = .ok (.castore, 1) := by decide +kernel
theorem dX3_append_22 : decode cX3_append 22 = .ok (.aload_n 0, 1) := by decide +kernel
theorem dX3_append_23 : decode cX3_append 23 = .ok (.dup, 1) := by decide +kernel
theorem dX3_append_24 : decode cX3_append 24 = .ok (.getfield 25, 3) := by decide +kernel
theorem dX3_append_27 : decode cX3_append 27 = .ok (.iconst 1, 1) := by decide +kernel
theorem dX3_append_28 : decode cX3_append 28 = .ok (.iadd, 1) := by decide +kernel
theorem dX3_append_29 : decode cX3_append 29 = .ok (.putfield 25, 3) := by decide +kernel
theorem dX3_append_32 : decode cX3_append 32 = .ok (.aload_n 0, 1) := by decide +kernel
theorem dX3_append_33 : decode cX3_append 33 = .ok (.getfield 25, 3) := by decide +kernel
theorem dX3_append_36 : decode cX3_append 36 = .ok (.ireturn, 1) := by decide +kernel
theorem dX3_empty_0 : decode cX3_empty 0 = .ok (.aload_n 0, 1) := by decide +kernel
theorem dX3_empty_1 : decode cX3_empty 1 = .ok (.getfield 25, 3) := by decide +kernel
theorem dX3_empty_4 : decode cX3_empty 4 = .ok (.istore_n 1, 1) := by decide +kernel
theorem dX3_empty_5 : decode cX3_empty 5 = .ok (.aload_n 0, 1) := by decide +kernel
theorem dX3_empty_6 : decode cX3_empty 6 = .ok (.iconst 0, 1) := by decide +kernel
theorem dX3_empty_7 : decode cX3_empty 7 = .ok (.putfield 25, 3) := by decide +kernel
theorem dX3_empty_10 : decode cX3_empty 10 = .ok (.iload_n 1, 1) := by decide +kernel
theorem dX3_empty_11 : decode cX3_empty 11 = .ok (.ireturn, 1) := by decide +kernel
theorem dX3_kindOf_0 : decode cX3_kindOf 0 = .ok (.iload_n 1, 1) := by decide +kernel
theorem dX3_kindOf_1 : decode cX3_kindOf 1 = .ok (.iconst 0, 1) := by decide +kernel
theorem dX3_kindOf_2 : decode cX3_kindOf 2 = .ok (.bipush 29, 2) := by decide +kernel
theorem dX3_kindOf_4 : decode cX3_kindOf 4 = .ok (.invokestatic 29, 3) := by decide +kernel
theorem dX3_kindOf_7 : decode cX3_kindOf 7 = .ok (.ifCond .eq 12, 3) := by decide +kernel
theorem dX3_kindOf_10 : decode cX3_kindOf 10 = .ok (.aload_n 0, 1) := by decide +kernel
theorem dX3_kindOf_11 : decode cX3_kindOf 11 = .ok (.getfield 15, 3) := by decide +kernel
theorem dX3_kindOf_14 : decode cX3_kindOf 14 = .ok (.iload_n 1, 1) := by decide +kernel
theorem dX3_kindOf_15 : decode cX3_kindOf 15 = .ok (.iaload, 1) := by decide +kernel
theorem dX3_kindOf_16 : decode cX3_kindOf 16 = .ok (.goto 4, 3) := by decide +kernel
theorem dX3_kindOf_19 : decode cX3_kindOf 19 = .ok (.iconst (-1), 1) := by decide +kernel
theorem dX3_kindOf_20 : decode cX3_kindOf 20 = .ok (.ireturn, 1) := by decide +kernel
theorem dX3_firstOf_0 : decode cX3_firstOf 0 = .ok (.iload_n 1, 1) := by decide +kernel
theorem dX3_firstOf_1 : decode cX3_firstOf 1 = .ok (.iconst 0, 1) := by decide +kernel
theorem dX3_firstOf_2 : decode cX3_firstOf 2 = .ok (.bipush 29, 2) := by decide +kernel
theorem dX3_firstOf_4 : decode cX3_firstOf 4 = .ok (.invokestatic 29, 3) := by decide +kernel
theorem dX3_firstOf_7 : decode cX3_firstOf 7 = .ok (.ifCond .eq 12, 3) := by decide +kernel
theorem dX3_firstOf_10 : decode cX3_firstOf 10 = .ok (.aload_n 0, 1) := by decide +kernel
theorem dX3_firstOf_11 : decode cX3_firstOf 11 = .ok (.getfield 19, 3) := by decide +kernel
theorem dX3_firstOf_14 : decode cX3_firstOf 14 = .ok (.iload_n 1, 1) := by decide +kernel
theorem dX3_firstOf_15 : decode cX3_firstOf 15 = .ok (.iaload, 1) := by decide +kernel
theorem dX3_firstOf_16 : decode cX3_firstOf 16 = .ok (.goto 4, 3) := by decide +kernel
theorem dX3_firstOf_19 : decode cX3_firstOf 19 = .ok (.iconst (-1), 1) := by decide +kernel
theorem dX3_firstOf_20 : decode cX3_firstOf 20 = .ok (.ireturn, 1) := by decide +kernel
theorem dX3_secondOf_0 : decode cX3_secondOf 0 = .ok (.iload_n 1, 1) := by decide +kernel
theorem dX3_secondOf_1 : decode cX3_secondOf 1 = .ok (.iconst 0, 1) := by decide +kernel
theorem dX3_secondOf_2 : decode cX3_secondOf 2 = .ok (.bipush 29, 2) := by decide +kernel
theorem dX3_secondOf_4 : decode cX3_secondOf 4 = .ok (.invokestatic 29, 3) := by decide +kernel
theorem dX3_secondOf_7 : decode cX3_secondOf 7 = .ok (.ifCond .eq 12, 3) := by decide +kernel
theorem dX3_secondOf_10 : decode cX3_secondOf 10 = .ok (.aload_n 0, 1) := by decide +kernel
theorem dX3_secondOf_11 : decode cX3_secondOf 11 = .ok (.getfield 22, 3) := by decide +kernel
theorem dX3_secondOf_14 : decode cX3_secondOf 14 = .ok (.iload_n 1, 1) := by decide +kernel
theorem dX3_secondOf_15 : decode cX3_secondOf 15 = .ok (.iaload, 1) := by decide +kernel
theorem dX3_secondOf_16 : decode cX3_secondOf 16 = .ok (.goto 4, 3) := by decide +kernel
theorem dX3_secondOf_19 : decode cX3_secondOf 19 = .ok (.iconst (-1), 1) := by decide +kernel
theorem dX3_secondOf_20 : decode cX3_secondOf 20 = .ok (.ireturn, 1) := by decide +kernel
theorem dX3_read_0 : decode cX3_read 0 = .ok (.aload_n 0, 1) := by decide +kernel
theorem dX3_read_1 : decode cX3_read 1 = .ok (.iconst 0, 1) := by decide +kernel
theorem dX3_read_2 : decode cX3_read 2 = .ok (.putfield 33, 3) := by decide +kernel
theorem dX3_read_5 : decode cX3_read 5 = .ok (.aload_n 0, 1) := by decide +kernel
theorem dX3_read_6 : decode cX3_read 6 = .ok (.iconst 0, 1) := by decide +kernel
theorem dX3_read_7 : decode cX3_read 7 = .ok (.putfield 36, 3) := by decide +kernel
theorem dX3_read_10 : decode cX3_read 10 = .ok (.iconst 0, 1) := by decide +kernel
theorem dX3_read_11 : decode cX3_read 11 = .ok (.istore_n 1, 1) := by decide +kernel
theorem dX3_read_12 : decode cX3_read 12 = .ok (.iload_n 1, 1) := by decide +kernel
theorem dX3_read_13 : decode cX3_read 13 = .ok (.bipush 30, 2) := by decide +kernel
theorem dX3_read_15 : decode cX3_read 15 = .ok (.if_icmp .ge 48, 3) := by decide +kernel
theorem dX3_read_18 : decode cX3_read 18 = .ok (.aload_n 0, 1) := by decide +kernel
theorem dX3_read_19 : decode cX3_read 19 = .ok (.invokevirtual 39, 3) := by decide +kernel
theorem dX3_read_22 : decode cX3_read 22 = .ok (.ifCond .ne 8, 3) := by decide +kernel
theorem dX3_read_25 : decode cX3_read 25 = .ok (.aload_n 0, 1) := by decide +kernel
theorem dX3_read_26 : decode cX3_read 26 = .ok (.getfield 33, 3) := by decide +kernel
theorem dX3_read_29 : decode cX3_read 29 = .ok (.ireturn, 1) := by decide +kernel
theorem dX3_read_30 : decode cX3_read 30 = .ok (.aload_n 0, 1) := by decide +kernel
theorem dX3_read_31 : decode cX3_read 31 = .ok (.getfield 33, 3) := by decide +kernel
theorem dX3_read_34 : decode cX3_read 34 = .ok (.aload_n 0, 1) := by decide +kernel
theorem dX3_read_35 : decode cX3_read 35 = .ok (.getfield 25, 3) := by decide +kernel
theorem dX3_read_38 : decode cX3_read 38 = .ok (.if_icmp .lt 5, 3) := by decide +kernel
theorem dX3_read_41 : decode cX3_read 41 = .ok (.iconst (-1), 1) := by decide +kernel
theorem dX3_read_42 : decode cX3_read 42 = .ok (.ireturn, 1) := by decide +kernel
theorem dX3_read_43 : decode cX3_read 43 = .ok (.aload_n 0, 1) := by decide +kernel
theorem dX3_read_44 : decode cX3_read 44 = .ok (.bipush 59, 2) := by decide +kernel
theorem dX3_read_46 : decode cX3_read 46 = .ok (.invokevirtual 43, 3) := by decide +kernel
theorem dX3_read_49 : decode cX3_read 49 = .ok (.ifCond .ne 8, 3) := by decide +kernel
theorem dX3_read_52 : decode cX3_read 52 = .ok (.aload_n 0, 1) := by decide +kernel
theorem dX3_read_53 : decode cX3_read 53 = .ok (.getfield 33, 3) := by decide +kernel
theorem dX3_read_56 : decode cX3_read 56 = .ok (.ireturn, 1) := by decide +kernel
theorem dX3_read_57 : decode cX3_read 57 = .ok (.iinc 1 1, 3) := by decide +kernel
theorem dX3_read_60 : decode cX3_read 60 = .ok (.goto (-48), 3) := by decide +kernel
theorem dX3_read_63 : decode cX3_read 63 = .ok (.aload_n 0, 1) := by decide +kernel
theorem dX3_read_64 : decode cX3_read 64 = .ok (.getfield 33, 3) := by decide +kernel
theorem dX3_read_67 : decode cX3_read 67 = .ok (.ireturn, 1) := by decide +kernel
theorem dX3_readThing_0 : decode cX3_readThing 0 = .ok (.aload_n 0, 1) := by decide +kernel
theorem dX3_readThing_1 : decode cX3_readThing 1 = .ok (.aload_n 0, 1) := by decide +kernel
theorem dX3_readThing_2 : decode cX3_readThing 2 = .ok (.getfield 33, 3) := by decide +kernel
theorem dX3_readThing_5 : decode cX3_readThing 5 = .ok (.invokevirtual 47, 3) := by decide +kernel
theorem dX3_readThing_8 : decode cX3_readThing 8 = .ok (.lookupswitch 96 #[(46, 91), (99, 63), (102, 74), (118, 86), (119, 52)], 52) := by decide +kernel
theorem dX3_readThing_60 : decode cX3_readThing 60 = .ok (.aload_n 0, 1) := by decide +kernel
theorem dX3_readThing_61 : decode cX3_readThing 61 = .ok (.iconst 3, 1) := by decide +kernel
theorem dX3_readThing_62 : decode cX3_readThing 62 = .ok (.bipush 42, 2) := by decide +kernel
theorem dX3_readThing_64 : decode cX3_readThing 64 = .ok (.iconst 0, 1) := by decide +kernel
theorem dX3_readThing_65 : decode cX3_readThing 65 = .ok (.bipush 9, 2) := by decide +kernel
theorem dX3_readThing_67 : decode cX3_readThing 67 = .ok (.invokevirtual 51, 3) := by decide +kernel
theorem dX3_readThing_70 : decode cX3_readThing 70 = .ok (.ireturn, 1) := by decide +kernel
theorem dX3_readThing_71 : decode cX3_readThing 71 = .ok (.aload_n 0, 1) := by decide +kernel
theorem dX3_readThing_72 : decode cX3_readThing 72 = .ok (.bipush 11, 2) := by decide +kernel
theorem dX3_readThing_74 : decode cX3_readThing 74 = .ok (.bipush 58, 2) := by decide +kernel
theorem dX3_readThing_76 : decode cX3_readThing 76 = .ok (.iconst 0, 1) := by decide +kernel
theorem dX3_readThing_77 : decode cX3_readThing 77 = .ok (.iconst 3, 1) := by decide +kernel
theorem dX3_readThing_78 : decode cX3_readThing 78 = .ok (.invokevirtual 51, 3) := by decide +kernel
theorem dX3_readThing_81 : decode cX3_readThing 81 = .ok (.ireturn, 1) := by decide +kernel
theorem dX3_readThing_82 : decode cX3_readThing 82 = .ok (.aload_n 0, 1) := by decide +kernel
theorem dX3_readThing_83 : decode cX3_readThing 83 = .ok (.bipush 11, 2) := by decide +kernel
theorem dX3_readThing_85 : decode cX3_readThing 85 = .ok (.bipush 43, 2) := by decide +kernel
theorem dX3_readThing_87 : decode cX3_readThing 87 = .ok (.iconst 1, 1) := by decide +kernel
theorem dX3_readThing_88 : decode cX3_readThing 88 = .ok (.bipush 64, 2) := by decide +kernel
theorem dX3_readThing_90 : decode cX3_readThing 90 = .ok (.invokevirtual 51, 3) := by decide +kernel
theorem dX3_readThing_93 : decode cX3_readThing 93 = .ok (.ireturn, 1) := by decide +kernel
theorem dX3_readThing_94 : decode cX3_readThing 94 = .ok (.aload_n 0, 1) := by decide +kernel
theorem dX3_readThing_95 : decode cX3_readThing 95 = .ok (.invokevirtual 55, 3) := by decide +kernel
theorem dX3_readThing_98 : decode cX3_readThing 98 = .ok (.ireturn, 1) := by decide +kernel
theorem dX3_readThing_99 : decode cX3_readThing 99 = .ok (.aload_n 0, 1) := by decide +kernel
theorem dX3_readThing_100 : decode cX3_readThing 100 = .ok (.invokevirtual 58, 3) := by decide +kernel
theorem dX3_readThing_103 : decode cX3_readThing 103 = .ok (.ireturn, 1) := by decide +kernel
theorem dX3_readThing_104 : decode cX3_readThing 104 = .ok (.iconst 0, 1) := by decide +kernel
theorem dX3_readThing_105 : decode cX3_readThing 105 = .ok (.ireturn, 1) := by decide +kernel
theorem dX3_readPair_0 : decode cX3_readPair 0 = .ok (.aload_n 0, 1) := by decide +kernel
theorem dX3_readPair_1 : decode cX3_readPair 1 = .ok (.aload_n 0, 1) := by decide +kernel
theorem dX3_readPair_2 : decode cX3_readPair 2 = .ok (.getfield 33, 3) := by decide +kernel
theorem dX3_readPair_5 : decode cX3_readPair 5 = .ok (.invokevirtual 47, 3) := by decide +kernel
theorem dX3_readPair_8 : decode cX3_readPair 8 = .ok (.istore 5, 2) := by decide +kernel
theorem dX3_readPair_10 : decode cX3_readPair 10 = .ok (.aload_n 0, 1) := by decide +kernel
theorem dX3_readPair_11 : decode cX3_readPair 11 = .ok (.dup, 1) := by decide +kernel
theorem dX3_readPair_12 : decode cX3_readPair 12 = .ok (.getfield 33, 3) := by decide +kernel
theorem dX3_readPair_15 : decode cX3_readPair 15 = .ok (.iconst 1, 1) := by decide +kernel
theorem dX3_readPair_16 : decode cX3_readPair 16 = .ok (.iadd, 1) := by decide +kernel
theorem dX3_readPair_17 : decode cX3_readPair 17 = .ok (.putfield 33, 3) := by decide +kernel
theorem dX3_readPair_20 : decode cX3_readPair 20 = .ok (.aload_n 0, 1) := by decide +kernel
theorem dX3_readPair_21 : decode cX3_readPair 21 = .ok (.iconst 0, 1) := by decide +kernel
theorem dX3_readPair_22 : decode cX3_readPair 22 = .ok (.iload_n 1, 1) := by decide +kernel
theorem dX3_readPair_23 : decode cX3_readPair 23 = .ok (.invokevirtual 61, 3) := by decide +kernel
theorem dX3_readPair_26 : decode cX3_readPair 26 = .ok (.istore 6, 2) := by decide +kernel
theorem dX3_readPair_28 : decode cX3_readPair 28 = .ok (.iload 6, 2) := by decide +kernel
theorem dX3_readPair_30 : decode cX3_readPair 30 = .ok (.iconst (-1), 1) := by decide +kernel
theorem dX3_readPair_31 : decode cX3_readPair 31 = .ok (.if_icmp .eq 11, 3) := by decide +kernel
theorem dX3_readPair_34 : decode cX3_readPair 34 = .ok (.aload_n 0, 1) := by decide +kernel
theorem dX3_readPair_35 : decode cX3_readPair 35 = .ok (.iload_n 2, 1) := by decide +kernel
theorem dX3_readPair_36 : decode cX3_readPair 36 = .ok (.invokevirtual 43, 3) := by decide +kernel
theorem dX3_readPair_39 : decode cX3_readPair 39 = .ok (.ifCond .ne 5, 3) := by decide +kernel
theorem dX3_readPair_42 : decode cX3_readPair 42 = .ok (.iconst 0, 1) := by decide +kernel
theorem dX3_readPair_43 : decode cX3_readPair 43 = .ok (.ireturn, 1) := by decide +kernel
theorem dX3_readPair_44 : decode cX3_readPair 44 = .ok (.aload_n 0, 1) := by decide +kernel
theorem dX3_readPair_45 : decode cX3_readPair 45 = .ok (.iload_n 3, 1) := by decide +kernel
theorem dX3_readPair_46 : decode cX3_readPair 46 = .ok (.iload 4, 2) := by decide +kernel
theorem dX3_readPair_48 : decode cX3_readPair 48 = .ok (.invokevirtual 61, 3) := by decide +kernel
theorem dX3_readPair_51 : decode cX3_readPair 51 = .ok (.istore 7, 2) := by decide +kernel
theorem dX3_readPair_53 : decode cX3_readPair 53 = .ok (.iload 7, 2) := by decide +kernel
theorem dX3_readPair_55 : decode cX3_readPair 55 = .ok (.iconst (-1), 1) := by decide +kernel
theorem dX3_readPair_56 : decode cX3_readPair 56 = .ok (.if_icmp .eq 20, 3) := by decide +kernel
theorem dX3_readPair_59 : decode cX3_readPair 59 = .ok (.aload_n 0, 1) := by decide +kernel
theorem dX3_readPair_60 : decode cX3_readPair 60 = .ok (.iload 5, 2) := by decide +kernel
theorem dX3_readPair_62 : decode cX3_readPair 62 = .ok (.iload 6, 2) := by decide +kernel
theorem dX3_readPair_64 : decode cX3_readPair 64 = .ok (.iload 7, 2) := by decide +kernel
theorem dX3_readPair_66 : decode cX3_readPair 66 = .ok (.invokevirtual 65, 3) := by decide +kernel
theorem dX3_readPair_69 : decode cX3_readPair 69 = .ok (.ifCond .eq 7, 3) := by decide +kernel
theorem dX3_readPair_72 : decode cX3_readPair 72 = .ok (.iconst 1, 1) := by decide +kernel
theorem dX3_readPair_73 : decode cX3_readPair 73 = .ok (.goto 4, 3) := by decide +kernel
theorem dX3_readPair_76 : decode cX3_readPair 76 = .ok (.iconst 0, 1) := by decide +kernel
theorem dX3_readPair_77 : decode cX3_readPair 77 = .ok (.ireturn, 1) := by decide +kernel
theorem dX3_readVote_0 : decode cX3_readVote 0 = .ok (.aload_n 0, 1) := by decide +kernel
theorem dX3_readVote_1 : decode cX3_readVote 1 = .ok (.dup, 1) := by decide +kernel
theorem dX3_readVote_2 : decode cX3_readVote 2 = .ok (.getfield 33, 3) := by decide +kernel
theorem dX3_readVote_5 : decode cX3_readVote 5 = .ok (.iconst 1, 1) := by decide +kernel
theorem dX3_readVote_6 : decode cX3_readVote 6 = .ok (.iadd, 1) := by decide +kernel
theorem dX3_readVote_7 : decode cX3_readVote 7 = .ok (.putfield 33, 3) := by decide +kernel
theorem dX3_readVote_10 : decode cX3_readVote 10 = .ok (.aload_n 0, 1) := by decide +kernel
theorem dX3_readVote_11 : decode cX3_readVote 11 = .ok (.bipush 118, 2) := by decide +kernel
theorem dX3_readVote_13 : decode cX3_readVote 13 = .ok (.iconst 0, 1) := by decide +kernel
theorem dX3_readVote_14 : decode cX3_readVote 14 = .ok (.iconst 0, 1) := by decide +kernel
theorem dX3_readVote_15 : decode cX3_readVote 15 = .ok (.invokevirtual 65, 3) := by decide +kernel
theorem dX3_readVote_18 : decode cX3_readVote 18 = .ok (.ireturn, 1) := by decide +kernel
theorem dX3_readTicks_0 : decode cX3_readTicks 0 = .ok (.aload_n 0, 1) := by decide +kernel
theorem dX3_readTicks_1 : decode cX3_readTicks 1 = .ok (.dup, 1) := by decide +kernel
theorem dX3_readTicks_2 : decode cX3_readTicks 2 = .ok (.getfield 33, 3) := by decide +kernel
theorem dX3_readTicks_5 : decode cX3_readTicks 5 = .ok (.iconst 1, 1) := by decide +kernel
theorem dX3_readTicks_6 : decode cX3_readTicks 6 = .ok (.iadd, 1) := by decide +kernel
theorem dX3_readTicks_7 : decode cX3_readTicks 7 = .ok (.putfield 33, 3) := by decide +kernel
theorem dX3_readTicks_10 : decode cX3_readTicks 10 = .ok (.aload_n 0, 1) := by decide +kernel
theorem dX3_readTicks_11 : decode cX3_readTicks 11 = .ok (.iconst 1, 1) := by decide +kernel
theorem dX3_readTicks_12 : decode cX3_readTicks 12 = .ok (.bipush 99, 2) := by decide +kernel
theorem dX3_readTicks_14 : decode cX3_readTicks 14 = .ok (.invokevirtual 61, 3) := by decide +kernel
theorem dX3_readTicks_17 : decode cX3_readTicks 17 = .ok (.istore_n 1, 1) := by decide +kernel
theorem dX3_readTicks_18 : decode cX3_readTicks 18 = .ok (.iload_n 1, 1) := by decide +kernel
theorem dX3_readTicks_19 : decode cX3_readTicks 19 = .ok (.iconst (-1), 1) := by decide +kernel
theorem dX3_readTicks_20 : decode cX3_readTicks 20 = .ok (.if_icmp .eq 18, 3) := by decide +kernel
theorem dX3_readTicks_23 : decode cX3_readTicks 23 = .ok (.aload_n 0, 1) := by decide +kernel
theorem dX3_readTicks_24 : decode cX3_readTicks 24 = .ok (.bipush 46, 2) := by decide +kernel
theorem dX3_readTicks_26 : decode cX3_readTicks 26 = .ok (.iload_n 1, 1) := by decide +kernel
theorem dX3_readTicks_27 : decode cX3_readTicks 27 = .ok (.iconst 0, 1) := by decide +kernel
theorem dX3_readTicks_28 : decode cX3_readTicks 28 = .ok (.invokevirtual 65, 3) := by decide +kernel
theorem dX3_readTicks_31 : decode cX3_readTicks 31 = .ok (.ifCond .eq 7, 3) := by decide +kernel
theorem dX3_readTicks_34 : decode cX3_readTicks 34 = .ok (.iconst 1, 1) := by decide +kernel
theorem dX3_readTicks_35 : decode cX3_readTicks 35 = .ok (.goto 4, 3) := by decide +kernel
theorem dX3_readTicks_38 : decode cX3_readTicks 38 = .ok (.iconst 0, 1) := by decide +kernel
theorem dX3_readTicks_39 : decode cX3_readTicks 39 = .ok (.ireturn, 1) := by decide +kernel
theorem dX3_add_0 : decode cX3_add 0 = .ok (.aload_n 0, 1) := by decide +kernel
theorem dX3_add_1 : decode cX3_add 1 = .ok (.getfield 36, 3) := by decide +kernel
theorem dX3_add_4 : decode cX3_add 4 = .ok (.bipush 30, 2) := by decide +kernel
theorem dX3_add_6 : decode cX3_add 6 = .ok (.if_icmp .lt 5, 3) := by decide +kernel
theorem dX3_add_9 : decode cX3_add 9 = .ok (.iconst 0, 1) := by decide +kernel
theorem dX3_add_10 : decode cX3_add 10 = .ok (.ireturn, 1) := by decide +kernel
theorem dX3_add_11 : decode cX3_add 11 = .ok (.aload_n 0, 1) := by decide +kernel
theorem dX3_add_12 : decode cX3_add 12 = .ok (.getfield 15, 3) := by decide +kernel
theorem dX3_add_15 : decode cX3_add 15 = .ok (.aload_n 0, 1) := by decide +kernel
theorem dX3_add_16 : decode cX3_add 16 = .ok (.getfield 36, 3) := by decide +kernel
theorem dX3_add_19 : decode cX3_add 19 = .ok (.iload_n 1, 1) := by decide +kernel
theorem dX3_add_20 : decode cX3_add 20 = .ok (.iastore, 1) := by decide +kernel
theorem dX3_add_21 : decode cX3_add 21 = .ok (.aload_n 0, 1) := by decide +kernel
theorem dX3_add_22 : decode cX3_add 22 = .ok (.getfield 19, 3) := by decide +kernel
theorem dX3_add_25 : decode cX3_add 25 = .ok (.aload_n 0, 1) := by decide +kernel
theorem dX3_add_26 : decode cX3_add 26 = .ok (.getfield 36, 3) := by decide +kernel
theorem dX3_add_29 : decode cX3_add 29 = .ok (.iload_n 2, 1) := by decide +kernel
theorem dX3_add_30 : decode cX3_add 30 = .ok (.iastore, 1) := by decide +kernel
theorem dX3_add_31 : decode cX3_add 31 = .ok (.aload_n 0, 1) := by decide +kernel
theorem dX3_add_32 : decode cX3_add 32 = .ok (.getfield 22, 3) := by decide +kernel
theorem dX3_add_35 : decode cX3_add 35 = .ok (.aload_n 0, 1) := by decide +kernel
theorem dX3_add_36 : decode cX3_add 36 = .ok (.getfield 36, 3) := by decide +kernel
theorem dX3_add_39 : decode cX3_add 39 = .ok (.iload_n 3, 1) := by decide +kernel
theorem dX3_add_40 : decode cX3_add 40 = .ok (.iastore, 1) := by decide +kernel
theorem dX3_add_41 : decode cX3_add 41 = .ok (.aload_n 0, 1) := by decide +kernel
theorem dX3_add_42 : decode cX3_add 42 = .ok (.dup, 1) := by decide +kernel
theorem dX3_add_43 : decode cX3_add 43 = .ok (.getfield 36, 3) := by decide +kernel
theorem dX3_add_46 : decode cX3_add 46 = .ok (.iconst 1, 1) := by decide +kernel
theorem dX3_add_47 : decode cX3_add 47 = .ok (.iadd, 1) := by decide +kernel
theorem dX3_add_48 : decode cX3_add 48 = .ok (.putfield 36, 3) := by decide +kernel
theorem dX3_add_51 : decode cX3_add 51 = .ok (.iconst 1, 1) := by decide +kernel
theorem dX3_add_52 : decode cX3_add 52 = .ok (.ireturn, 1) := by decide +kernel
theorem dX3_readSign_0 : decode cX3_readSign 0 = .ok (.aload_n 0, 1) := by decide +kernel
theorem dX3_readSign_1 : decode cX3_readSign 1 = .ok (.aload_n 0, 1) := by decide +kernel
theorem dX3_readSign_2 : decode cX3_readSign 2 = .ok (.getfield 33, 3) := by decide +kernel
theorem dX3_readSign_5 : decode cX3_readSign 5 = .ok (.invokevirtual 47, 3) := by decide +kernel
theorem dX3_readSign_8 : decode cX3_readSign 8 = .ok (.iload_n 1, 1) := by decide +kernel
theorem dX3_readSign_9 : decode cX3_readSign 9 = .ok (.if_icmp .eq 5, 3) := by decide +kernel
theorem dX3_readSign_12 : decode cX3_readSign 12 = .ok (.iconst 0, 1) := by decide +kernel
theorem dX3_readSign_13 : decode cX3_readSign 13 = .ok (.ireturn, 1) := by decide +kernel
theorem dX3_readSign_14 : decode cX3_readSign 14 = .ok (.aload_n 0, 1) := by decide +kernel
theorem dX3_readSign_15 : decode cX3_readSign 15 = .ok (.dup, 1) := by decide +kernel
theorem dX3_readSign_16 : decode cX3_readSign 16 = .ok (.getfield 33, 3) := by decide +kernel
theorem dX3_readSign_19 : decode cX3_readSign 19 = .ok (.iconst 1, 1) := by decide +kernel
theorem dX3_readSign_20 : decode cX3_readSign 20 = .ok (.iadd, 1) := by decide +kernel
theorem dX3_readSign_21 : decode cX3_readSign 21 = .ok (.putfield 33, 3) := by decide +kernel
theorem dX3_readSign_24 : decode cX3_readSign 24 = .ok (.iconst 1, 1) := by decide +kernel
theorem dX3_readSign_25 : decode cX3_readSign 25 = .ok (.ireturn, 1) := by decide +kernel
theorem dX3_readNumber_0 : decode cX3_readNumber 0 = .ok (.aload_n 0, 1) := by decide +kernel
theorem dX3_readNumber_1 : decode cX3_readNumber 1 = .ok (.aload_n 0, 1) := by decide +kernel
theorem dX3_readNumber_2 : decode cX3_readNumber 2 = .ok (.getfield 33, 3) := by decide +kernel
theorem dX3_readNumber_5 : decode cX3_readNumber 5 = .ok (.invokevirtual 68, 3) := by decide +kernel
theorem dX3_readNumber_8 : decode cX3_readNumber 8 = .ok (.istore_n 3, 1) := by decide +kernel
theorem dX3_readNumber_9 : decode cX3_readNumber 9 = .ok (.iload_n 3, 1) := by decide +kernel
theorem dX3_readNumber_10 : decode cX3_readNumber 10 = .ok (.iload_n 1, 1) := by decide +kernel
theorem dX3_readNumber_11 : decode cX3_readNumber 11 = .ok (.if_icmp .lt 8, 3) := by decide +kernel
theorem dX3_readNumber_14 : decode cX3_readNumber 14 = .ok (.iload_n 3, 1) := by decide +kernel
theorem dX3_readNumber_15 : decode cX3_readNumber 15 = .ok (.iload_n 2, 1) := by decide +kernel
theorem dX3_readNumber_16 : decode cX3_readNumber 16 = .ok (.if_icmp .le 5, 3) := by decide +kernel
theorem dX3_readNumber_19 : decode cX3_readNumber 19 = .ok (.iconst (-1), 1) := by decide +kernel
theorem dX3_readNumber_20 : decode cX3_readNumber 20 = .ok (.ireturn, 1) := by decide +kernel
theorem dX3_readNumber_21 : decode cX3_readNumber 21 = .ok (.aload_n 0, 1) := by decide +kernel
theorem dX3_readNumber_22 : decode cX3_readNumber 22 = .ok (.dup, 1) := by decide +kernel
theorem dX3_readNumber_23 : decode cX3_readNumber 23 = .ok (.getfield 33, 3) := by decide +kernel
theorem dX3_readNumber_26 : decode cX3_readNumber 26 = .ok (.iconst 1, 1) := by decide +kernel
theorem dX3_readNumber_27 : decode cX3_readNumber 27 = .ok (.iadd, 1) := by decide +kernel
theorem dX3_readNumber_28 : decode cX3_readNumber 28 = .ok (.putfield 33, 3) := by decide +kernel
theorem dX3_readNumber_31 : decode cX3_readNumber 31 = .ok (.iconst 1, 1) := by decide +kernel
theorem dX3_readNumber_32 : decode cX3_readNumber 32 = .ok (.istore 4, 2) := by decide +kernel
theorem dX3_readNumber_34 : decode cX3_readNumber 34 = .ok (.iload 4, 2) := by decide +kernel
theorem dX3_readNumber_36 : decode cX3_readNumber 36 = .ok (.bipush 60, 2) := by decide +kernel
theorem dX3_readNumber_38 : decode cX3_readNumber 38 = .ok (.if_icmp .ge 59, 3) := by decide +kernel
theorem dX3_readNumber_41 : decode cX3_readNumber 41 = .ok (.iload_n 3, 1) := by decide +kernel
theorem dX3_readNumber_42 : decode cX3_readNumber 42 = .ok (.ifCond .le 55, 3) := by decide +kernel
theorem dX3_readNumber_45 : decode cX3_readNumber 45 = .ok (.aload_n 0, 1) := by decide +kernel
theorem dX3_readNumber_46 : decode cX3_readNumber 46 = .ok (.aload_n 0, 1) := by decide +kernel
theorem dX3_readNumber_47 : decode cX3_readNumber 47 = .ok (.getfield 33, 3) := by decide +kernel
theorem dX3_readNumber_50 : decode cX3_readNumber 50 = .ok (.invokevirtual 68, 3) := by decide +kernel
theorem dX3_readNumber_53 : decode cX3_readNumber 53 = .ok (.istore 5, 2) := by decide +kernel
theorem dX3_readNumber_55 : decode cX3_readNumber 55 = .ok (.iload 5, 2) := by decide +kernel
theorem dX3_readNumber_57 : decode cX3_readNumber 57 = .ok (.ifCond .lt 14, 3) := by decide +kernel
theorem dX3_readNumber_60 : decode cX3_readNumber 60 = .ok (.bipush 10, 2) := by decide +kernel
theorem dX3_readNumber_62 : decode cX3_readNumber 62 = .ok (.iload_n 3, 1) := by decide +kernel
theorem dX3_readNumber_63 : decode cX3_readNumber 63 = .ok (.imul, 1) := by decide +kernel
theorem dX3_readNumber_64 : decode cX3_readNumber 64 = .ok (.iload 5, 2) := by decide +kernel
theorem dX3_readNumber_66 : decode cX3_readNumber 66 = .ok (.iadd, 1) := by decide +kernel
theorem dX3_readNumber_67 : decode cX3_readNumber 67 = .ok (.iload_n 2, 1) := by decide +kernel
theorem dX3_readNumber_68 : decode cX3_readNumber 68 = .ok (.if_icmp .le 5, 3) := by decide +kernel
theorem dX3_readNumber_71 : decode cX3_readNumber 71 = .ok (.iload_n 3, 1) := by decide +kernel
theorem dX3_readNumber_72 : decode cX3_readNumber 72 = .ok (.ireturn, 1) := by decide +kernel
theorem dX3_readNumber_73 : decode cX3_readNumber 73 = .ok (.bipush 10, 2) := by decide +kernel
theorem dX3_readNumber_75 : decode cX3_readNumber 75 = .ok (.iload_n 3, 1) := by decide +kernel
theorem dX3_readNumber_76 : decode cX3_readNumber 76 = .ok (.imul, 1) := by decide +kernel
theorem dX3_readNumber_77 : decode cX3_readNumber 77 = .ok (.iload 5, 2) := by decide +kernel
theorem dX3_readNumber_79 : decode cX3_readNumber 79 = .ok (.iadd, 1) := by decide +kernel
theorem dX3_readNumber_80 : decode cX3_readNumber 80 = .ok (.istore_n 3, 1) := by decide +kernel
theorem dX3_readNumber_81 : decode cX3_readNumber 81 = .ok (.aload_n 0, 1) := by decide +kernel
theorem dX3_readNumber_82 : decode cX3_readNumber 82 = .ok (.dup, 1) := by decide +kernel
theorem dX3_readNumber_83 : decode cX3_readNumber 83 = .ok (.getfield 33, 3) := by decide +kernel
theorem dX3_readNumber_86 : decode cX3_readNumber 86 = .ok (.iconst 1, 1) := by decide +kernel
theorem dX3_readNumber_87 : decode cX3_readNumber 87 = .ok (.iadd, 1) := by decide +kernel
theorem dX3_readNumber_88 : decode cX3_readNumber 88 = .ok (.putfield 33, 3) := by decide +kernel
theorem dX3_readNumber_91 : decode cX3_readNumber 91 = .ok (.iinc 4 1, 3) := by decide +kernel
theorem dX3_readNumber_94 : decode cX3_readNumber 94 = .ok (.goto (-60), 3) := by decide +kernel
theorem dX3_readNumber_97 : decode cX3_readNumber 97 = .ok (.iload_n 3, 1) := by decide +kernel
theorem dX3_readNumber_98 : decode cX3_readNumber 98 = .ok (.ireturn, 1) := by decide +kernel
theorem dX3_digitAt_0 : decode cX3_digitAt 0 = .ok (.aload_n 0, 1) := by decide +kernel
theorem dX3_digitAt_1 : decode cX3_digitAt 1 = .ok (.iload_n 1, 1) := by decide +kernel
theorem dX3_digitAt_2 : decode cX3_digitAt 2 = .ok (.invokevirtual 47, 3) := by decide +kernel
theorem dX3_digitAt_5 : decode cX3_digitAt 5 = .ok (.istore_n 2, 1) := by decide +kernel
theorem dX3_digitAt_6 : decode cX3_digitAt 6 = .ok (.iload_n 2, 1) := by decide +kernel
theorem dX3_digitAt_7 : decode cX3_digitAt 7 = .ok (.bipush 48, 2) := by decide +kernel
theorem dX3_digitAt_9 : decode cX3_digitAt 9 = .ok (.bipush 57, 2) := by decide +kernel
theorem dX3_digitAt_11 : decode cX3_digitAt 11 = .ok (.invokestatic 29, 3) := by decide +kernel
theorem dX3_digitAt_14 : decode cX3_digitAt 14 = .ok (.ifCond .eq 10, 3) := by decide +kernel
theorem dX3_digitAt_17 : decode cX3_digitAt 17 = .ok (.iload_n 2, 1) := by decide +kernel
theorem dX3_digitAt_18 : decode cX3_digitAt 18 = .ok (.bipush 48, 2) := by decide +kernel
theorem dX3_digitAt_20 : decode cX3_digitAt 20 = .ok (.isub, 1) := by decide +kernel
theorem dX3_digitAt_21 : decode cX3_digitAt 21 = .ok (.goto 4, 3) := by decide +kernel
theorem dX3_digitAt_24 : decode cX3_digitAt 24 = .ok (.iconst (-1), 1) := by decide +kernel
theorem dX3_digitAt_25 : decode cX3_digitAt 25 = .ok (.ireturn, 1) := by decide +kernel
theorem dX3_characterAt_0 : decode cX3_characterAt 0 = .ok (.iload_n 1, 1) := by decide +kernel
theorem dX3_characterAt_1 : decode cX3_characterAt 1 = .ok (.ifCond .lt 20, 3) := by decide +kernel
theorem dX3_characterAt_4 : decode cX3_characterAt 4 = .ok (.iload_n 1, 1) := by decide +kernel
theorem dX3_characterAt_5 : decode cX3_characterAt 5 = .ok (.aload_n 0, 1) := by decide +kernel
theorem dX3_characterAt_6 : decode cX3_characterAt 6 = .ok (.getfield 25, 3) := by decide +kernel
theorem dX3_characterAt_9 : decode cX3_characterAt 9 = .ok (.if_icmp .ge 12, 3) := by decide +kernel
theorem dX3_characterAt_12 : decode cX3_characterAt 12 = .ok (.aload_n 0, 1) := by decide +kernel
theorem dX3_characterAt_13 : decode cX3_characterAt 13 = .ok (.getfield 9, 3) := by decide +kernel
theorem dX3_characterAt_16 : decode cX3_characterAt 16 = .ok (.iload_n 1, 1) := by decide +kernel
theorem dX3_characterAt_17 : decode cX3_characterAt 17 = .ok (.caload, 1) := by decide +kernel
theorem dX3_characterAt_18 : decode cX3_characterAt 18 = .ok (.goto 4, 3) := by decide +kernel
theorem dX3_characterAt_21 : decode cX3_characterAt 21 = .ok (.iconst (-1), 1) := by decide +kernel
theorem dX3_characterAt_22 : decode cX3_characterAt 22 = .ok (.ireturn, 1) := by decide +kernel
theorem dX4_init_0 : decode cX4_init 0 = .ok (.aload_n 0, 1) := by decide +kernel
theorem dX4_init_1 : decode cX4_init 1 = .ok (.invokespecial 1, 3) := by decide +kernel
theorem dX4_init_4 : decode cX4_init 4 = .ok (.aload_n 0, 1) := by decide +kernel
theorem dX4_init_5 : decode cX4_init 5 = .ok (.new 7, 3) := by decide +kernel
theorem dX4_init_8 : decode cX4_init 8 = .ok (.dup, 1) := by decide +kernel
theorem dX4_init_9 : decode cX4_init 9 = .ok (.invokespecial 9, 3) := by decide +kernel
theorem dX4_init_12 : decode cX4_init 12 = .ok (.putfield 10, 3) := by decide +kernel
theorem dX4_init_15 : decode cX4_init 15 = .ok (.aload_n 0, 1) := by decide +kernel
theorem dX4_init_16 : decode cX4_init 16 = .ok (.new 7, 3) := by decide +kernel
theorem dX4_init_19 : decode cX4_init 19 = .ok (.dup, 1) := by decide +kernel
theorem dX4_init_20 : decode cX4_init 20 = .ok (.invokespecial 9, 3) := by decide +kernel
theorem dX4_init_23 : decode cX4_init 23 = .ok (.putfield 16, 3) := by decide +kernel
theorem dX4_init_26 : decode cX4_init 26 = .ok (.aload_n 0, 1) := by decide +kernel
theorem dX4_init_27 : decode cX4_init 27 = .ok (.new 7, 3) := by decide +kernel
theorem dX4_init_30 : decode cX4_init 30 = .ok (.dup, 1) := by decide +kernel
theorem dX4_init_31 : decode cX4_init 31 = .ok (.invokespecial 9, 3) := by decide +kernel
theorem dX4_init_34 : decode cX4_init 34 = .ok (.putfield 19, 3) := by decide +kernel
theorem dX4_init_37 : decode cX4_init 37 = .ok (.aload_n 0, 1) := by decide +kernel
theorem dX4_init_38 : decode cX4_init 38 = .ok (.new 7, 3) := by decide +kernel
theorem dX4_init_41 : decode cX4_init 41 = .ok (.dup, 1) := by decide +kernel
theorem dX4_init_42 : decode cX4_init 42 = .ok (.invokespecial 9, 3) := by decide +kernel
theorem dX4_init_45 : decode cX4_init 45 = .ok (.putfield 22, 3) := by decide +kernel
theorem dX4_init_48 : decode cX4_init 48 = .ok (.aload_n 0, 1) := by decide +kernel
theorem dX4_init_49 : decode cX4_init 49 = .ok (.new 25, 3) := by decide +kernel
theorem dX4_init_52 : decode cX4_init 52 = .ok (.dup, 1) := by decide +kernel
theorem dX4_init_53 : decode cX4_init 53 = .ok (.invokespecial 27, 3) := by decide +kernel
theorem dX4_init_56 : decode cX4_init 56 = .ok (.putfield 28, 3) := by decide +kernel
theorem dX4_init_59 : decode cX4_init 59 = .ok (.aload_n 0, 1) := by decide +kernel
theorem dX4_init_60 : decode cX4_init 60 = .ok (.new 32, 3) := by decide +kernel
theorem dX4_init_63 : decode cX4_init 63 = .ok (.dup, 1) := by decide +kernel
theorem dX4_init_64 : decode cX4_init 64 = .ok (.invokespecial 34, 3) := by decide +kernel
theorem dX4_init_67 : decode cX4_init 67 = .ok (.putfield 35, 3) := by decide +kernel
theorem dX4_init_70 : decode cX4_init 70 = .ok (.aload_n 0, 1) := by decide +kernel
theorem dX4_init_71 : decode cX4_init 71 = .ok (.new 39, 3) := by decide +kernel
theorem dX4_init_74 : decode cX4_init 74 = .ok (.dup, 1) := by decide +kernel
theorem dX4_init_75 : decode cX4_init 75 = .ok (.iconst 1, 1) := by decide +kernel
theorem dX4_init_76 : decode cX4_init 76 = .ok (.invokespecial 41, 3) := by decide +kernel
theorem dX4_init_79 : decode cX4_init 79 = .ok (.putfield 44, 3) := by decide +kernel
theorem dX4_init_82 : decode cX4_init 82 = .ok (.aload_n 0, 1) := by decide +kernel
theorem dX4_init_83 : decode cX4_init 83 = .ok (.new 39, 3) := by decide +kernel
theorem dX4_init_86 : decode cX4_init 86 = .ok (.dup, 1) := by decide +kernel
theorem dX4_init_87 : decode cX4_init 87 = .ok (.iconst 0, 1) := by decide +kernel
theorem dX4_init_88 : decode cX4_init 88 = .ok (.invokespecial 41, 3) := by decide +kernel
theorem dX4_init_91 : decode cX4_init 91 = .ok (.putfield 48, 3) := by decide +kernel
theorem dX4_init_94 : decode cX4_init 94 = .ok (.aload_n 0, 1) := by decide +kernel
theorem dX4_init_95 : decode cX4_init 95 = .ok (.bipush (-5), 2) := by decide +kernel
theorem dX4_init_97 : decode cX4_init 97 = .ok (.putfield 51, 3) := by decide +kernel
theorem dX4_init_100 : decode cX4_init 100 = .ok (.aload_n 0, 1) := by decide +kernel
theorem dX4_init_101 : decode cX4_init 101 = .ok (.bipush (-5), 2) := by decide +kernel
theorem dX4_init_103 : decode cX4_init 103 = .ok (.putfield 55, 3) := by decide +kernel
theorem dX4_init_106 : decode cX4_init 106 = .ok (.return_, 1) := by decide +kernel
theorem dX4_setUp_0 : decode cX4_setUp 0 = .ok (.aload_n 0, 1) := by decide +kernel
theorem dX4_setUp_1 : decode cX4_setUp 1 = .ok (.getfield 16, 3) := by decide +kernel
theorem dX4_setUp_4 : decode cX4_setUp 4 = .ok (.aload_n 0, 1) := by decide +kernel
theorem dX4_setUp_5 : decode cX4_setUp 5 = .ok (.getfield 10, 3) := by decide +kernel
theorem dX4_setUp_8 : decode cX4_setUp 8 = .ok (.invokevirtual 58, 3) := by decide +kernel
theorem dX4_setUp_11 : decode cX4_setUp 11 = .ok (.aload_n 0, 1) := by decide +kernel
theorem dX4_setUp_12 : decode cX4_setUp 12 = .ok (.aload_n 0, 1) := by decide +kernel
theorem dX4_setUp_13 : decode cX4_setUp 13 = .ok (.getfield 10, 3) := by decide +kernel
theorem dX4_setUp_16 : decode cX4_setUp 16 = .ok (.iload_n 1, 1) := by decide +kernel
theorem dX4_setUp_17 : decode cX4_setUp 17 = .ok (.iload_n 2, 1) := by decide +kernel
theorem dX4_setUp_18 : decode cX4_setUp 18 = .ok (.iload_n 3, 1) := by decide +kernel
theorem dX4_setUp_19 : decode cX4_setUp 19 = .ok (.iload 4, 2) := by decide +kernel
theorem dX4_setUp_21 : decode cX4_setUp 21 = .ok (.invokevirtual 62, 3) := by decide +kernel
theorem dX4_setUp_24 : decode cX4_setUp 24 = .ok (.invokevirtual 66, 3) := by decide +kernel
theorem dX4_setUp_27 : decode cX4_setUp 27 = .ok (.ireturn, 1) := by decide +kernel
theorem dX4_carry_0 : decode cX4_carry 0 = .ok (.aload_n 0, 1) := by decide +kernel
theorem dX4_carry_1 : decode cX4_carry 1 = .ok (.getfield 16, 3) := by decide +kernel
theorem dX4_carry_4 : decode cX4_carry 4 = .ok (.aload_n 0, 1) := by decide +kernel
theorem dX4_carry_5 : decode cX4_carry 5 = .ok (.getfield 10, 3) := by decide +kernel
theorem dX4_carry_8 : decode cX4_carry 8 = .ok (.invokevirtual 58, 3) := by decide +kernel
theorem dX4_carry_11 : decode cX4_carry 11 = .ok (.aload_n 0, 1) := by decide +kernel
theorem dX4_carry_12 : decode cX4_carry 12 = .ok (.aload_n 0, 1) := by decide +kernel
theorem dX4_carry_13 : decode cX4_carry 13 = .ok (.getfield 10, 3) := by decide +kernel
theorem dX4_carry_16 : decode cX4_carry 16 = .ok (.iload_n 1, 1) := by decide +kernel
theorem dX4_carry_17 : decode cX4_carry 17 = .ok (.iload_n 2, 1) := by decide +kernel
theorem dX4_carry_18 : decode cX4_carry 18 = .ok (.invokevirtual 70, 3) := by decide +kernel
theorem dX4_carry_21 : decode cX4_carry 21 = .ok (.invokevirtual 66, 3) := by decide +kernel
theorem dX4_carry_24 : decode cX4_carry 24 = .ok (.ireturn, 1) := by decide +kernel
theorem dX4_face_0 : decode cX4_face 0 = .ok (.aload_n 0, 1) := by decide +kernel
theorem dX4_face_1 : decode cX4_face 1 = .ok (.getfield 16, 3) := by decide +kernel
theorem dX4_face_4 : decode cX4_face 4 = .ok (.aload_n 0, 1) := by decide +kernel
theorem dX4_face_5 : decode cX4_face 5 = .ok (.getfield 10, 3) := by decide +kernel
theorem dX4_face_8 : decode cX4_face 8 = .ok (.invokevirtual 58, 3) := by decide +kernel
theorem dX4_face_11 : decode cX4_face 11 = .ok (.aload_n 0, 1) := by decide +kernel
theorem dX4_face_12 : decode cX4_face 12 = .ok (.aload_n 0, 1) := by decide +kernel
theorem dX4_face_13 : decode cX4_face 13 = .ok (.getfield 10, 3) := by decide +kernel
theorem dX4_face_16 : decode cX4_face 16 = .ok (.iload_n 1, 1) := by decide +kernel
theorem dX4_face_17 : decode cX4_face 17 = .ok (.iload_n 2, 1) := by decide +kernel
theorem dX4_face_18 : decode cX4_face 18 = .ok (.invokevirtual 74, 3) := by decide +kernel
theorem dX4_face_21 : decode cX4_face 21 = .ok (.invokevirtual 66, 3) := by decide +kernel
theorem dX4_face_24 : decode cX4_face 24 = .ok (.ireturn, 1) := by decide +kernel
theorem dX4_crow_0 : decode cX4_crow 0 = .ok (.aload_n 0, 1) := by decide +kernel
theorem dX4_crow_1 : decode cX4_crow 1 = .ok (.getfield 16, 3) := by decide +kernel
theorem dX4_crow_4 : decode cX4_crow 4 = .ok (.aload_n 0, 1) := by decide +kernel
theorem dX4_crow_5 : decode cX4_crow 5 = .ok (.getfield 10, 3) := by decide +kernel
theorem dX4_crow_8 : decode cX4_crow 8 = .ok (.invokevirtual 58, 3) := by decide +kernel
theorem dX4_crow_11 : decode cX4_crow 11 = .ok (.aload_n 0, 1) := by decide +kernel
theorem dX4_crow_12 : decode cX4_crow 12 = .ok (.aload_n 0, 1) := by decide +kernel
theorem dX4_crow_13 : decode cX4_crow 13 = .ok (.getfield 10, 3) := by decide +kernel
theorem dX4_crow_16 : decode cX4_crow 16 = .ok (.iload_n 1, 1) := by decide +kernel
theorem dX4_crow_17 : decode cX4_crow 17 = .ok (.iload_n 2, 1) := by decide +kernel
theorem dX4_crow_18 : decode cX4_crow 18 = .ok (.invokevirtual 77, 3) := by decide +kernel
theorem dX4_crow_21 : decode cX4_crow 21 = .ok (.invokevirtual 66, 3) := by decide +kernel
theorem dX4_crow_24 : decode cX4_crow 24 = .ok (.ireturn, 1) := by decide +kernel
theorem dX4_scare_0 : decode cX4_scare 0 = .ok (.aload_n 0, 1) := by decide +kernel
theorem dX4_scare_1 : decode cX4_scare 1 = .ok (.getfield 16, 3) := by decide +kernel
theorem dX4_scare_4 : decode cX4_scare 4 = .ok (.aload_n 0, 1) := by decide +kernel
theorem dX4_scare_5 : decode cX4_scare 5 = .ok (.getfield 10, 3) := by decide +kernel
theorem dX4_scare_8 : decode cX4_scare 8 = .ok (.invokevirtual 58, 3) := by decide +kernel
theorem dX4_scare_11 : decode cX4_scare 11 = .ok (.aload_n 0, 1) := by decide +kernel
theorem dX4_scare_12 : decode cX4_scare 12 = .ok (.aload_n 0, 1) := by decide +kernel
theorem dX4_scare_13 : decode cX4_scare 13 = .ok (.getfield 10, 3) := by decide +kernel
theorem dX4_scare_16 : decode cX4_scare 16 = .ok (.iload_n 1, 1) := by decide +kernel
theorem dX4_scare_17 : decode cX4_scare 17 = .ok (.invokevirtual 80, 3) := by decide +kernel
theorem dX4_scare_20 : decode cX4_scare 20 = .ok (.invokevirtual 66, 3) := by decide +kernel
theorem dX4_scare_23 : decode cX4_scare 23 = .ok (.ireturn, 1) := by decide +kernel
theorem dX4_fill_0 : decode cX4_fill 0 = .ok (.aload_n 0, 1) := by decide +kernel
theorem dX4_fill_1 : decode cX4_fill 1 = .ok (.getfield 16, 3) := by decide +kernel
theorem dX4_fill_4 : decode cX4_fill 4 = .ok (.aload_n 0, 1) := by decide +kernel
theorem dX4_fill_5 : decode cX4_fill 5 = .ok (.getfield 10, 3) := by decide +kernel
theorem dX4_fill_8 : decode cX4_fill 8 = .ok (.invokevirtual 58, 3) := by decide +kernel
theorem dX4_fill_11 : decode cX4_fill 11 = .ok (.aload_n 0, 1) := by decide +kernel
theorem dX4_fill_12 : decode cX4_fill 12 = .ok (.aload_n 0, 1) := by decide +kernel
theorem dX4_fill_13 : decode cX4_fill 13 = .ok (.getfield 10, 3) := by decide +kernel
theorem dX4_fill_16 : decode cX4_fill 16 = .ok (.iload_n 1, 1) := by decide +kernel
theorem dX4_fill_17 : decode cX4_fill 17 = .ok (.iload_n 2, 1) := by decide +kernel
theorem dX4_fill_18 : decode cX4_fill 18 = .ok (.invokevirtual 83, 3) := by decide +kernel
theorem dX4_fill_21 : decode cX4_fill 21 = .ok (.invokevirtual 66, 3) := by decide +kernel
theorem dX4_fill_24 : decode cX4_fill 24 = .ok (.ireturn, 1) := by decide +kernel
theorem dX4_seats_0 : decode cX4_seats 0 = .ok (.aload_n 0, 1) := by decide +kernel
theorem dX4_seats_1 : decode cX4_seats 1 = .ok (.getfield 16, 3) := by decide +kernel
theorem dX4_seats_4 : decode cX4_seats 4 = .ok (.aload_n 0, 1) := by decide +kernel
theorem dX4_seats_5 : decode cX4_seats 5 = .ok (.getfield 10, 3) := by decide +kernel
theorem dX4_seats_8 : decode cX4_seats 8 = .ok (.invokevirtual 58, 3) := by decide +kernel
theorem dX4_seats_11 : decode cX4_seats 11 = .ok (.aload_n 0, 1) := by decide +kernel
theorem dX4_seats_12 : decode cX4_seats 12 = .ok (.aload_n 0, 1) := by decide +kernel
theorem dX4_seats_13 : decode cX4_seats 13 = .ok (.getfield 10, 3) := by decide +kernel
theorem dX4_seats_16 : decode cX4_seats 16 = .ok (.iload_n 1, 1) := by decide +kernel
theorem dX4_seats_17 : decode cX4_seats 17 = .ok (.iload_n 2, 1) := by decide +kernel
theorem dX4_seats_18 : decode cX4_seats 18 = .ok (.invokevirtual 86, 3) := by decide +kernel
theorem dX4_seats_21 : decode cX4_seats 21 = .ok (.invokevirtual 66, 3) := by decide +kernel
theorem dX4_seats_24 : decode cX4_seats 24 = .ok (.ireturn, 1) := by decide +kernel
theorem dX4_wind_0 : decode cX4_wind 0 = .ok (.aload_n 0, 1) := by decide +kernel
theorem dX4_wind_1 : decode cX4_wind 1 = .ok (.getfield 16, 3) := by decide +kernel
theorem dX4_wind_4 : decode cX4_wind 4 = .ok (.aload_n 0, 1) := by decide +kernel
theorem dX4_wind_5 : decode cX4_wind 5 = .ok (.getfield 10, 3) := by decide +kernel
theorem dX4_wind_8 : decode cX4_wind 8 = .ok (.invokevirtual 58, 3) := by decide +kernel
theorem dX4_wind_11 : decode cX4_wind 11 = .ok (.aload_n 0, 1) := by decide +kernel
theorem dX4_wind_12 : decode cX4_wind 12 = .ok (.aload_n 0, 1) := by decide +kernel
theorem dX4_wind_13 : decode cX4_wind 13 = .ok (.getfield 10, 3) := by decide +kernel
theorem dX4_wind_16 : decode cX4_wind 16 = .ok (.iload_n 1, 1) := by decide +kernel
theorem dX4_wind_17 : decode cX4_wind 17 = .ok (.iload_n 2, 1) := by decide +kernel
theorem dX4_wind_18 : decode cX4_wind 18 = .ok (.invokevirtual 89, 3) := by decide +kernel
theorem dX4_wind_21 : decode cX4_wind 21 = .ok (.invokevirtual 66, 3) := by decide +kernel
theorem dX4_wind_24 : decode cX4_wind 24 = .ok (.ireturn, 1) := by decide +kernel
theorem dX4_set_0 : decode cX4_set 0 = .ok (.aload_n 0, 1) := by decide +kernel
theorem dX4_set_1 : decode cX4_set 1 = .ok (.getfield 16, 3) := by decide +kernel
theorem dX4_set_4 : decode cX4_set 4 = .ok (.aload_n 0, 1) := by decide +kernel
theorem dX4_set_5 : decode cX4_set 5 = .ok (.getfield 10, 3) := by decide +kernel
theorem dX4_set_8 : decode cX4_set 8 = .ok (.invokevirtual 58, 3) := by decide +kernel
theorem dX4_set_11 : decode cX4_set 11 = .ok (.aload_n 0, 1) := by decide +kernel
theorem dX4_set_12 : decode cX4_set 12 = .ok (.aload_n 0, 1) := by decide +kernel
theorem dX4_set_13 : decode cX4_set 13 = .ok (.getfield 10, 3) := by decide +kernel
theorem dX4_set_16 : decode cX4_set 16 = .ok (.iload_n 1, 1) := by decide +kernel
theorem dX4_set_17 : decode cX4_set 17 = .ok (.iload_n 2, 1) := by decide +kernel
theorem dX4_set_18 : decode cX4_set 18 = .ok (.invokevirtual 92, 3) := by decide +kernel
theorem dX4_set_21 : decode cX4_set 21 = .ok (.invokevirtual 66, 3) := by decide +kernel
theorem dX4_set_24 : decode cX4_set 24 = .ok (.ireturn, 1) := by decide +kernel
theorem dX4_vote_0 : decode cX4_vote 0 = .ok (.aload_n 0, 1) := by decide +kernel
theorem dX4_vote_1 : decode cX4_vote 1 = .ok (.getfield 16, 3) := by decide +kernel
theorem dX4_vote_4 : decode cX4_vote 4 = .ok (.aload_n 0, 1) := by decide +kernel
theorem dX4_vote_5 : decode cX4_vote 5 = .ok (.getfield 10, 3) := by decide +kernel
theorem dX4_vote_8 : decode cX4_vote 8 = .ok (.invokevirtual 58, 3) := by decide +kernel
theorem dX4_vote_11 : decode cX4_vote 11 = .ok (.aload_n 0, 1) := by decide +kernel
theorem dX4_vote_12 : decode cX4_vote 12 = .ok (.aload_n 0, 1) := by decide +kernel
theorem dX4_vote_13 : decode cX4_vote 13 = .ok (.getfield 10, 3) := by decide +kernel
theorem dX4_vote_16 : decode cX4_vote 16 = .ok (.aload_n 0, 1) := by decide +kernel
theorem dX4_vote_17 : decode cX4_vote 17 = .ok (.getfield 44, 3) := by decide +kernel
theorem dX4_vote_20 : decode cX4_vote 20 = .ok (.aload_n 0, 1) := by decide +kernel
theorem dX4_vote_21 : decode cX4_vote 21 = .ok (.getfield 10, 3) := by decide +kernel
theorem dX4_vote_24 : decode cX4_vote 24 = .ok (.invokevirtual 95, 3) := by decide +kernel
theorem dX4_vote_27 : decode cX4_vote 27 = .ok (.invokevirtual 99, 3) := by decide +kernel
theorem dX4_vote_30 : decode cX4_vote 30 = .ok (.invokevirtual 66, 3) := by decide +kernel
theorem dX4_vote_33 : decode cX4_vote 33 = .ok (.ireturn, 1) := by decide +kernel
theorem dX4_pass_0 : decode cX4_pass 0 = .ok (.aload_n 0, 1) := by decide +kernel
theorem dX4_pass_1 : decode cX4_pass 1 = .ok (.getfield 16, 3) := by decide +kernel
theorem dX4_pass_4 : decode cX4_pass 4 = .ok (.aload_n 0, 1) := by decide +kernel
theorem dX4_pass_5 : decode cX4_pass 5 = .ok (.getfield 10, 3) := by decide +kernel
theorem dX4_pass_8 : decode cX4_pass 8 = .ok (.invokevirtual 58, 3) := by decide +kernel
theorem dX4_pass_11 : decode cX4_pass 11 = .ok (.aload_n 0, 1) := by decide +kernel
theorem dX4_pass_12 : decode cX4_pass 12 = .ok (.aload_n 0, 1) := by decide +kernel
theorem dX4_pass_13 : decode cX4_pass 13 = .ok (.getfield 10, 3) := by decide +kernel
theorem dX4_pass_16 : decode cX4_pass 16 = .ok (.iload_n 1, 1) := by decide +kernel
theorem dX4_pass_17 : decode cX4_pass 17 = .ok (.invokevirtual 102, 3) := by decide +kernel
theorem dX4_pass_20 : decode cX4_pass 20 = .ok (.invokevirtual 66, 3) := by decide +kernel
theorem dX4_pass_23 : decode cX4_pass 23 = .ok (.ireturn, 1) := by decide +kernel
theorem dX4_type_0 : decode cX4_type 0 = .ok (.aload_n 0, 1) := by decide +kernel
theorem dX4_type_1 : decode cX4_type 1 = .ok (.getfield 35, 3) := by decide +kernel
theorem dX4_type_4 : decode cX4_type 4 = .ok (.iload_n 1, 1) := by decide +kernel
theorem dX4_type_5 : decode cX4_type 5 = .ok (.invokevirtual 105, 3) := by decide +kernel
theorem dX4_type_8 : decode cX4_type 8 = .ok (.ireturn, 1) := by decide +kernel
theorem dX4_clearText_0 : decode cX4_clearText 0 = .ok (.aload_n 0, 1) := by decide +kernel
theorem dX4_clearText_1 : decode cX4_clearText 1 = .ok (.getfield 35, 3) := by decide +kernel
theorem dX4_clearText_4 : decode cX4_clearText 4 = .ok (.invokevirtual 109, 3) := by decide +kernel
theorem dX4_clearText_7 : decode cX4_clearText 7 = .ok (.ireturn, 1) := by decide +kernel
theorem dX4_perform_0 : decode cX4_perform 0 = .ok (.aload_n 0, 1) := by decide +kernel
theorem dX4_perform_1 : decode cX4_perform 1 = .ok (.getfield 35, 3) := by decide +kernel
theorem dX4_perform_4 : decode cX4_perform 4 = .ok (.invokevirtual 113, 3) := by decide +kernel
theorem dX4_perform_7 : decode cX4_perform 7 = .ok (.istore_n 1, 1) := by decide +kernel
theorem dX4_perform_8 : decode cX4_perform 8 = .ok (.iload_n 1, 1) := by decide +kernel
theorem dX4_perform_9 : decode cX4_perform 9 = .ok (.iconst (-1), 1) := by decide +kernel
theorem dX4_perform_10 : decode cX4_perform 10 = .ok (.if_icmp .eq 8, 3) := by decide +kernel
theorem dX4_perform_13 : decode cX4_perform 13 = .ok (.bipush (-100), 2) := by decide +kernel
theorem dX4_perform_15 : decode cX4_perform 15 = .ok (.iload_n 1, 1) := by decide +kernel
theorem dX4_perform_16 : decode cX4_perform 16 = .ok (.isub, 1) := by decide +kernel
theorem dX4_perform_17 : decode cX4_perform 17 = .ok (.ireturn, 1) := by decide +kernel
theorem dX4_perform_18 : decode cX4_perform 18 = .ok (.aload_n 0, 1) := by decide +kernel
theorem dX4_perform_19 : decode cX4_perform 19 = .ok (.getfield 16, 3) := by decide +kernel
theorem dX4_perform_22 : decode cX4_perform 22 = .ok (.aload_n 0, 1) := by decide +kernel
theorem dX4_perform_23 : decode cX4_perform 23 = .ok (.getfield 10, 3) := by decide +kernel
theorem dX4_perform_26 : decode cX4_perform 26 = .ok (.invokevirtual 58, 3) := by decide +kernel
theorem dX4_perform_29 : decode cX4_perform 29 = .ok (.iconst 0, 1) := by decide +kernel
theorem dX4_perform_30 : decode cX4_perform 30 = .ok (.istore_n 2, 1) := by decide +kernel
theorem dX4_perform_31 : decode cX4_perform 31 = .ok (.iload_n 2, 1) := by decide +kernel
theorem dX4_perform_32 : decode cX4_perform 32 = .ok (.aload_n 0, 1) := by decide +kernel
theorem dX4_perform_33 : decode cX4_perform 33 = .ok (.getfield 35, 3) := by decide +kernel
theorem dX4_perform_36 : decode cX4_perform 36 = .ok (.getfield 116, 3) := by decide +kernel
theorem dX4_perform_39 : decode cX4_perform 39 = .ok (.if_icmp .ge 46, 3) := by decide +kernel
theorem dX4_perform_42 : decode cX4_perform 42 = .ok (.aload_n 0, 1) := by decide +kernel
theorem dX4_perform_43 : decode cX4_perform 43 = .ok (.iload_n 2, 1) := by decide +kernel
theorem dX4_perform_44 : decode cX4_perform 44 = .ok (.invokevirtual 119, 3) := by decide +kernel
theorem dX4_perform_47 : decode cX4_perform 47 = .ok (.istore_n 3, 1) := by decide +kernel
theorem dX4_perform_48 : decode cX4_perform 48 = .ok (.iload_n 3, 1) := by decide +kernel
theorem dX4_perform_49 : decode cX4_perform 49 = .ok (.invokestatic 122, 3) := by decide +kernel
theorem dX4_perform_52 : decode cX4_perform 52 = .ok (.ifCond .eq 27, 3) := by decide +kernel
theorem dX4_perform_55 : decode cX4_perform 55 = .ok (.aload_n 0, 1) := by decide +kernel
theorem dX4_perform_56 : decode cX4_perform 56 = .ok (.getfield 10, 3) := by decide +kernel
theorem dX4_perform_59 : decode cX4_perform 59 = .ok (.aload_n 0, 1) := by decide +kernel
theorem dX4_perform_60 : decode cX4_perform 60 = .ok (.getfield 16, 3) := by decide +kernel
theorem dX4_perform_63 : decode cX4_perform 63 = .ok (.invokevirtual 58, 3) := by decide +kernel
theorem dX4_perform_66 : decode cX4_perform 66 = .ok (.aload_n 0, 1) := by decide +kernel
theorem dX4_perform_67 : decode cX4_perform 67 = .ok (.iload_n 2, 1) := by decide +kernel
theorem dX4_perform_68 : decode cX4_perform 68 = .ok (.putfield 51, 3) := by decide +kernel
theorem dX4_perform_71 : decode cX4_perform 71 = .ok (.aload_n 0, 1) := by decide +kernel
theorem dX4_perform_72 : decode cX4_perform 72 = .ok (.iload_n 3, 1) := by decide +kernel
theorem dX4_perform_73 : decode cX4_perform 73 = .ok (.putfield 55, 3) := by decide +kernel
theorem dX4_perform_76 : decode cX4_perform 76 = .ok (.bipush (-4), 2) := by decide +kernel
theorem dX4_perform_78 : decode cX4_perform 78 = .ok (.ireturn, 1) := by decide +kernel
theorem dX4_perform_79 : decode cX4_perform 79 = .ok (.iinc 2 1, 3) := by decide +kernel
theorem dX4_perform_82 : decode cX4_perform 82 = .ok (.goto (-51), 3) := by decide +kernel
theorem dX4_perform_85 : decode cX4_perform 85 = .ok (.aload_n 0, 1) := by decide +kernel
theorem dX4_perform_86 : decode cX4_perform 86 = .ok (.aload_n 0, 1) := by decide +kernel
theorem dX4_perform_87 : decode cX4_perform 87 = .ok (.getfield 35, 3) := by decide +kernel
theorem dX4_perform_90 : decode cX4_perform 90 = .ok (.getfield 116, 3) := by decide +kernel
theorem dX4_perform_93 : decode cX4_perform 93 = .ok (.invokevirtual 66, 3) := by decide +kernel
theorem dX4_perform_96 : decode cX4_perform 96 = .ok (.ireturn, 1) := by decide +kernel
theorem dX4_stopped_0 : decode cX4_stopped 0 = .ok (.iload_n 1, 1) := by decide +kernel
theorem dX4_stopped_1 : decode cX4_stopped 1 = .ok (.ifCond .ne 8, 3) := by decide +kernel
theorem dX4_stopped_4 : decode cX4_stopped 4 = .ok (.aload_n 0, 1) := by decide +kernel
theorem dX4_stopped_5 : decode cX4_stopped 5 = .ok (.getfield 51, 3) := by decide +kernel
theorem dX4_stopped_8 : decode cX4_stopped 8 = .ok (.ireturn, 1) := by decide +kernel
theorem dX4_stopped_9 : decode cX4_stopped 9 = .ok (.iload_n 1, 1) := by decide +kernel
theorem dX4_stopped_10 : decode cX4_stopped 10 = .ok (.iconst 1, 1) := by decide +kernel
theorem dX4_stopped_11 : decode cX4_stopped 11 = .ok (.if_icmp .ne 10, 3) := by decide +kernel
theorem dX4_stopped_14 : decode cX4_stopped 14 = .ok (.aload_n 0, 1) := by decide +kernel
theorem dX4_stopped_15 : decode cX4_stopped 15 = .ok (.getfield 55, 3) := by decide +kernel
theorem dX4_stopped_18 : decode cX4_stopped 18 = .ok (.goto 5, 3) := by decide +kernel
theorem dX4_stopped_21 : decode cX4_stopped 21 = .ok (.bipush (-2), 2) := by decide +kernel
theorem dX4_stopped_23 : decode cX4_stopped 23 = .ok (.ireturn, 1) := by decide +kernel
theorem dX4_undo_0 : decode cX4_undo 0 = .ok (.aload_n 0, 1) := by decide +kernel
theorem dX4_undo_1 : decode cX4_undo 1 = .ok (.getfield 28, 3) := by decide +kernel
theorem dX4_undo_4 : decode cX4_undo 4 = .ok (.aload_n 0, 1) := by decide +kernel
theorem dX4_undo_5 : decode cX4_undo 5 = .ok (.getfield 10, 3) := by decide +kernel
theorem dX4_undo_8 : decode cX4_undo 8 = .ok (.invokevirtual 126, 3) := by decide +kernel
theorem dX4_undo_11 : decode cX4_undo 11 = .ok (.ireturn, 1) := by decide +kernel
theorem dX4_keep_0 : decode cX4_keep 0 = .ok (.aload_n 0, 1) := by decide +kernel
theorem dX4_keep_1 : decode cX4_keep 1 = .ok (.getfield 22, 3) := by decide +kernel
theorem dX4_keep_4 : decode cX4_keep 4 = .ok (.aload_n 0, 1) := by decide +kernel
theorem dX4_keep_5 : decode cX4_keep 5 = .ok (.getfield 10, 3) := by decide +kernel
theorem dX4_keep_8 : decode cX4_keep 8 = .ok (.invokevirtual 58, 3) := by decide +kernel
theorem dX4_keep_11 : decode cX4_keep 11 = .ok (.aload_n 0, 1) := by decide +kernel
theorem dX4_keep_12 : decode cX4_keep 12 = .ok (.iconst 1, 1) := by decide +kernel
theorem dX4_keep_13 : decode cX4_keep 13 = .ok (.putfield 129, 3) := by decide +kernel
theorem dX4_keep_16 : decode cX4_keep 16 = .ok (.aload_n 0, 1) := by decide +kernel
theorem dX4_keep_17 : decode cX4_keep 17 = .ok (.getfield 10, 3) := by decide +kernel
theorem dX4_keep_20 : decode cX4_keep 20 = .ok (.getfield 133, 3) := by decide +kernel
theorem dX4_keep_23 : decode cX4_keep 23 = .ok (.ireturn, 1) := by decide +kernel
theorem dX4_restore_0 : decode cX4_restore 0 = .ok (.aload_n 0, 1) := by decide +kernel
theorem dX4_restore_1 : decode cX4_restore 1 = .ok (.getfield 129, 3) := by decide +kernel
theorem dX4_restore_4 : decode cX4_restore 4 = .ok (.ifCond .ne 6, 3) := by decide +kernel
theorem dX4_restore_7 : decode cX4_restore 7 = .ok (.bipush (-5), 2) := by decide +kernel
theorem dX4_restore_9 : decode cX4_restore 9 = .ok (.ireturn, 1) := by decide +kernel
theorem dX4_restore_10 : decode cX4_restore 10 = .ok (.aload_n 0, 1) := by decide +kernel
theorem dX4_restore_11 : decode cX4_restore 11 = .ok (.getfield 16, 3) := by decide +kernel
theorem dX4_restore_14 : decode cX4_restore 14 = .ok (.aload_n 0, 1) := by decide +kernel
theorem dX4_restore_15 : decode cX4_restore 15 = .ok (.getfield 10, 3) := by decide +kernel
theorem dX4_restore_18 : decode cX4_restore 18 = .ok (.invokevirtual 58, 3) := by decide +kernel
theorem dX4_restore_21 : decode cX4_restore 21 = .ok (.aload_n 0, 1) := by decide +kernel
theorem dX4_restore_22 : decode cX4_restore 22 = .ok (.getfield 10, 3) := by decide +kernel
theorem dX4_restore_25 : decode cX4_restore 25 = .ok (.aload_n 0, 1) := by decide +kernel
theorem dX4_restore_26 : decode cX4_restore 26 = .ok (.getfield 22, 3) := by decide +kernel
theorem dX4_restore_29 : decode cX4_restore 29 = .ok (.invokevirtual 58, 3) := by decide +kernel
theorem dX4_restore_32 : decode cX4_restore 32 = .ok (.aload_n 0, 1) := by decide +kernel
theorem dX4_restore_33 : decode cX4_restore 33 = .ok (.aload_n 0, 1) := by decide +kernel
theorem dX4_restore_34 : decode cX4_restore 34 = .ok (.getfield 10, 3) := by decide +kernel
theorem dX4_restore_37 : decode cX4_restore 37 = .ok (.getfield 133, 3) := by decide +kernel
theorem dX4_restore_40 : decode cX4_restore 40 = .ok (.invokevirtual 66, 3) := by decide +kernel
theorem dX4_restore_43 : decode cX4_restore 43 = .ok (.ireturn, 1) := by decide +kernel
theorem dX4_scarecrow_0 : decode cX4_scarecrow 0 = .ok (.aload_n 0, 1) := by decide +kernel
theorem dX4_scarecrow_1 : decode cX4_scarecrow 1 = .ok (.getfield 10, 3) := by decide +kernel
theorem dX4_scarecrow_4 : decode cX4_scarecrow 4 = .ok (.iload_n 1, 1) := by decide +kernel
theorem dX4_scarecrow_5 : decode cX4_scarecrow 5 = .ok (.iload_n 2, 1) := by decide +kernel
theorem dX4_scarecrow_6 : decode cX4_scarecrow 6 = .ok (.invokevirtual 136, 3) := by decide +kernel
theorem dX4_scarecrow_9 : decode cX4_scarecrow 9 = .ok (.ireturn, 1) := by decide +kernel
theorem dX4_straw_0 : decode cX4_straw 0 = .ok (.aload_n 0, 1) := by decide +kernel
theorem dX4_straw_1 : decode cX4_straw 1 = .ok (.getfield 10, 3) := by decide +kernel
theorem dX4_straw_4 : decode cX4_straw 4 = .ok (.iload_n 1, 1) := by decide +kernel
theorem dX4_straw_5 : decode cX4_straw 5 = .ok (.invokevirtual 139, 3) := by decide +kernel
theorem dX4_straw_8 : decode cX4_straw 8 = .ok (.ifCond .eq 15, 3) := by decide +kernel
theorem dX4_straw_11 : decode cX4_straw 11 = .ok (.aload_n 0, 1) := by decide +kernel
theorem dX4_straw_12 : decode cX4_straw 12 = .ok (.getfield 10, 3) := by decide +kernel
theorem dX4_straw_15 : decode cX4_straw 15 = .ok (.iload_n 1, 1) := by decide +kernel
theorem dX4_straw_16 : decode cX4_straw 16 = .ok (.invokevirtual 142, 3) := by decide +kernel
theorem dX4_straw_19 : decode cX4_straw 19 = .ok (.f2d, 1) := by decide +kernel
theorem dX4_straw_20 : decode cX4_straw 20 = .ok (.goto 6, 3) := by decide +kernel
theorem dX4_straw_23 : decode cX4_straw 23 = .ok (.ldc2_w 146, 3) := by decide +kernel
theorem dX4_straw_26 : decode cX4_straw 26 = .ok (.dreturn, 1) := by decide +kernel
theorem dX4_weight_0 : decode cX4_weight 0 = .ok (.iload_n 1, 1) := by decide +kernel
theorem dX4_weight_1 : decode cX4_weight 1 = .ok (.invokestatic 148, 3) := by decide +kernel
theorem dX4_weight_4 : decode cX4_weight 4 = .ok (.ifCond .eq 10, 3) := by decide +kernel
theorem dX4_weight_7 : decode cX4_weight 7 = .ok (.iload_n 2, 1) := by decide +kernel
theorem dX4_weight_8 : decode cX4_weight 8 = .ok (.invokestatic 151, 3) := by decide +kernel
theorem dX4_weight_11 : decode cX4_weight 11 = .ok (.ifCond .ne 7, 3) := by decide +kernel
theorem dX4_weight_14 : decode cX4_weight 14 = .ok (.ldc2_w 146, 3) := by decide +kernel
theorem dX4_weight_17 : decode cX4_weight 17 = .ok (.dreturn, 1) := by decide +kernel
theorem dX4_weight_18 : decode cX4_weight 18 = .ok (.aload_n 0, 1) := by decide +kernel
theorem dX4_weight_19 : decode cX4_weight 19 = .ok (.getfield 44, 3) := by decide +kernel
theorem dX4_weight_22 : decode cX4_weight 22 = .ok (.aload_n 0, 1) := by decide +kernel
theorem dX4_weight_23 : decode cX4_weight 23 = .ok (.getfield 10, 3) := by decide +kernel
theorem dX4_weight_26 : decode cX4_weight 26 = .ok (.iload_n 1, 1) := by decide +kernel
theorem dX4_weight_27 : decode cX4_weight 27 = .ok (.invokevirtual 154, 3) := by decide +kernel
theorem dX4_weight_30 : decode cX4_weight 30 = .ok (.aload_n 0, 1) := by decide +kernel
theorem dX4_weight_31 : decode cX4_weight 31 = .ok (.getfield 44, 3) := by decide +kernel
theorem dX4_weight_34 : decode cX4_weight 34 = .ok (.getfield 158, 3) := by decide +kernel
theorem dX4_weight_37 : decode cX4_weight 37 = .ok (.iload_n 2, 1) := by decide +kernel
theorem dX4_weight_38 : decode cX4_weight 38 = .ok (.faload, 1) := by decide +kernel
theorem dX4_weight_39 : decode cX4_weight 39 = .ok (.f2d, 1) := by decide +kernel
theorem dX4_weight_40 : decode cX4_weight 40 = .ok (.dreturn, 1) := by decide +kernel
theorem dX4_field_0 : decode cX4_field 0 = .ok (.iload_n 1, 1) := by decide +kernel
theorem dX4_field_1 : decode cX4_field 1 = .ok (.invokestatic 148, 3) := by decide +kernel
theorem dX4_field_4 : decode cX4_field 4 = .ok (.ifCond .ne 5, 3) := by decide +kernel
theorem dX4_field_7 : decode cX4_field 7 = .ok (.iconst (-1), 1) := by decide +kernel
theorem dX4_field_8 : decode cX4_field 8 = .ok (.ireturn, 1) := by decide +kernel
theorem dX4_field_9 : decode cX4_field 9 = .ok (.iload_n 2, 1) := by decide +kernel
theorem dX4_field_10 : decode cX4_field 10 = .ok (.tableswitch 75 0 3 #[30, 40, 49, 62], 30) := by decide +kernel
theorem dX4_field_40 : decode cX4_field 40 = .ok (.aload_n 0, 1) := by decide +kernel
theorem dX4_field_41 : decode cX4_field 41 = .ok (.getfield 10, 3) := by decide +kernel
theorem dX4_field_44 : decode cX4_field 44 = .ok (.getfield 162, 3) := by decide +kernel
theorem dX4_field_47 : decode cX4_field 47 = .ok (.iload_n 1, 1) := by decide +kernel
theorem dX4_field_48 : decode cX4_field 48 = .ok (.iaload, 1) := by decide +kernel
theorem dX4_field_49 : decode cX4_field 49 = .ok (.ireturn, 1) := by decide +kernel
theorem dX4_field_50 : decode cX4_field 50 = .ok (.aload_n 0, 1) := by decide +kernel
theorem dX4_field_51 : decode cX4_field 51 = .ok (.getfield 10, 3) := by decide +kernel
theorem dX4_field_54 : decode cX4_field 54 = .ok (.iload_n 1, 1) := by decide +kernel
theorem dX4_field_55 : decode cX4_field 55 = .ok (.invokevirtual 166, 3) := by decide +kernel
theorem dX4_field_58 : decode cX4_field 58 = .ok (.ireturn, 1) := by decide +kernel
theorem dX4_field_59 : decode cX4_field 59 = .ok (.aload_n 0, 1) := by decide +kernel
theorem dX4_field_60 : decode cX4_field 60 = .ok (.getfield 44, 3) := by decide +kernel
theorem dX4_field_63 : decode cX4_field 63 = .ok (.aload_n 0, 1) := by decide +kernel
theorem dX4_field_64 : decode cX4_field 64 = .ok (.getfield 10, 3) := by decide +kernel
theorem dX4_field_67 : decode cX4_field 67 = .ok (.iload_n 1, 1) := by decide +kernel
theorem dX4_field_68 : decode cX4_field 68 = .ok (.invokevirtual 169, 3) := by decide +kernel
theorem dX4_field_71 : decode cX4_field 71 = .ok (.ireturn, 1) := by decide +kernel
theorem dX4_field_72 : decode cX4_field 72 = .ok (.aload_n 0, 1) := by decide +kernel
theorem dX4_field_73 : decode cX4_field 73 = .ok (.getfield 44, 3) := by decide +kernel
theorem dX4_field_76 : decode cX4_field 76 = .ok (.aload_n 0, 1) := by decide +kernel
theorem dX4_field_77 : decode cX4_field 77 = .ok (.getfield 10, 3) := by decide +kernel
theorem dX4_field_80 : decode cX4_field 80 = .ok (.iload_n 1, 1) := by decide +kernel
theorem dX4_field_81 : decode cX4_field 81 = .ok (.invokevirtual 173, 3) := by decide +kernel
theorem dX4_field_84 : decode cX4_field 84 = .ok (.ireturn, 1) := by decide +kernel
theorem dX4_field_85 : decode cX4_field 85 = .ok (.bipush (-2), 2) := by decide +kernel
theorem dX4_field_87 : decode cX4_field 87 = .ok (.ireturn, 1) := by decide +kernel
theorem dX4_reason_0 : decode cX4_reason 0 = .ok (.iload_n 1, 1) := by decide +kernel
theorem dX4_reason_1 : decode cX4_reason 1 = .ok (.invokestatic 148, 3) := by decide +kernel
theorem dX4_reason_4 : decode cX4_reason 4 = .ok (.ifCond .eq 18, 3) := by decide +kernel
theorem dX4_reason_7 : decode cX4_reason 7 = .ok (.aload_n 0, 1) := by decide +kernel
theorem dX4_reason_8 : decode cX4_reason 8 = .ok (.getfield 44, 3) := by decide +kernel
theorem dX4_reason_11 : decode cX4_reason 11 = .ok (.aload_n 0, 1) := by decide +kernel
theorem dX4_reason_12 : decode cX4_reason 12 = .ok (.getfield 10, 3) := by decide +kernel
theorem dX4_reason_15 : decode cX4_reason 15 = .ok (.iload_n 1, 1) := by decide +kernel
theorem dX4_reason_16 : decode cX4_reason 16 = .ok (.invokevirtual 176, 3) := by decide +kernel
theorem dX4_reason_19 : decode cX4_reason 19 = .ok (.goto 4, 3) := by decide +kernel
theorem dX4_reason_22 : decode cX4_reason 22 = .ok (.iconst (-1), 1) := by decide +kernel
theorem dX4_reason_23 : decode cX4_reason 23 = .ok (.ireturn, 1) := by decide +kernel
theorem dX4_decision_0 : decode cX4_decision 0 = .ok (.iload_n 1, 1) := by decide +kernel
theorem dX4_decision_1 : decode cX4_decision 1 = .ok (.ifCond .ne 15, 3) := by decide +kernel
theorem dX4_decision_4 : decode cX4_decision 4 = .ok (.aload_n 0, 1) := by decide +kernel
theorem dX4_decision_5 : decode cX4_decision 5 = .ok (.getfield 44, 3) := by decide +kernel
theorem dX4_decision_8 : decode cX4_decision 8 = .ok (.aload_n 0, 1) := by decide +kernel
theorem dX4_decision_9 : decode cX4_decision 9 = .ok (.getfield 10, 3) := by decide +kernel
theorem dX4_decision_12 : decode cX4_decision 12 = .ok (.invokevirtual 95, 3) := by decide +kernel
theorem dX4_decision_15 : decode cX4_decision 15 = .ok (.ireturn, 1) := by decide +kernel
theorem dX4_decision_16 : decode cX4_decision 16 = .ok (.iload_n 1, 1) := by decide +kernel
theorem dX4_decision_17 : decode cX4_decision 17 = .ok (.iconst 1, 1) := by decide +kernel
theorem dX4_decision_18 : decode cX4_decision 18 = .ok (.if_icmp .ne 17, 3) := by decide +kernel
theorem dX4_decision_21 : decode cX4_decision 21 = .ok (.aload_n 0, 1) := by decide +kernel
theorem dX4_decision_22 : decode cX4_decision 22 = .ok (.getfield 44, 3) := by decide +kernel
theorem dX4_decision_25 : decode cX4_decision 25 = .ok (.aload_n 0, 1) := by decide +kernel
theorem dX4_decision_26 : decode cX4_decision 26 = .ok (.getfield 10, 3) := by decide +kernel
theorem dX4_decision_29 : decode cX4_decision 29 = .ok (.invokevirtual 179, 3) := by decide +kernel
theorem dX4_decision_32 : decode cX4_decision 32 = .ok (.goto 5, 3) := by decide +kernel
theorem dX4_decision_35 : decode cX4_decision 35 = .ok (.bipush (-2), 2) := by decide +kernel
theorem dX4_decision_37 : decode cX4_decision 37 = .ok (.ireturn, 1) := by decide +kernel
theorem dX4_swings_0 : decode cX4_swings 0 = .ok (.aload_n 0, 1) := by decide +kernel
theorem dX4_swings_1 : decode cX4_swings 1 = .ok (.getfield 19, 3) := by decide +kernel
theorem dX4_swings_4 : decode cX4_swings 4 = .ok (.aload_n 0, 1) := by decide +kernel
theorem dX4_swings_5 : decode cX4_swings 5 = .ok (.getfield 10, 3) := by decide +kernel
theorem dX4_swings_8 : decode cX4_swings 8 = .ok (.invokevirtual 58, 3) := by decide +kernel
theorem dX4_swings_11 : decode cX4_swings 11 = .ok (.aload_n 0, 1) := by decide +kernel
theorem dX4_swings_12 : decode cX4_swings 12 = .ok (.getfield 44, 3) := by decide +kernel
theorem dX4_swings_15 : decode cX4_swings 15 = .ok (.aload_n 0, 1) := by decide +kernel
theorem dX4_swings_16 : decode cX4_swings 16 = .ok (.getfield 19, 3) := by decide +kernel
theorem dX4_swings_19 : decode cX4_swings 19 = .ok (.invokevirtual 95, 3) := by decide +kernel
theorem dX4_swings_22 : decode cX4_swings 22 = .ok (.istore_n 1, 1) := by decide +kernel
theorem dX4_swings_23 : decode cX4_swings 23 = .ok (.iconst 0, 1) := by decide +kernel
theorem dX4_swings_24 : decode cX4_swings 24 = .ok (.istore_n 2, 1) := by decide +kernel
theorem dX4_swings_25 : decode cX4_swings 25 = .ok (.iconst 0, 1) := by decide +kernel
theorem dX4_swings_26 : decode cX4_swings 26 = .ok (.istore_n 3, 1) := by decide +kernel
theorem dX4_swings_27 : decode cX4_swings 27 = .ok (.iload_n 3, 1) := by decide +kernel
theorem dX4_swings_28 : decode cX4_swings 28 = .ok (.aload_n 0, 1) := by decide +kernel
theorem dX4_swings_29 : decode cX4_swings 29 = .ok (.getfield 19, 3) := by decide +kernel
theorem dX4_swings_32 : decode cX4_swings 32 = .ok (.getfield 182, 3) := by decide +kernel
theorem dX4_swings_35 : decode cX4_swings 35 = .ok (.if_icmp .ge 24, 3) := by decide +kernel
theorem dX4_swings_38 : decode cX4_swings 38 = .ok (.aload_n 0, 1) := by decide +kernel
theorem dX4_swings_39 : decode cX4_swings 39 = .ok (.iload_n 3, 1) := by decide +kernel
theorem dX4_swings_40 : decode cX4_swings 40 = .ok (.iload_n 1, 1) := by decide +kernel
theorem dX4_swings_41 : decode cX4_swings 41 = .ok (.invokevirtual 185, 3) := by decide +kernel
theorem dX4_swings_44 : decode cX4_swings 44 = .ok (.ifCond .eq 9, 3) := by decide +kernel
theorem dX4_swings_47 : decode cX4_swings 47 = .ok (.iload_n 2, 1) := by decide +kernel
theorem dX4_swings_48 : decode cX4_swings 48 = .ok (.iconst 1, 1) := by decide +kernel
theorem dX4_swings_49 : decode cX4_swings 49 = .ok (.iload_n 3, 1) := by decide +kernel
theorem dX4_swings_50 : decode cX4_swings 50 = .ok (.ishl, 1) := by decide +kernel
theorem dX4_swings_51 : decode cX4_swings 51 = .ok (.ior, 1) := by decide +kernel
theorem dX4_swings_52 : decode cX4_swings 52 = .ok (.istore_n 2, 1) := by decide +kernel
theorem dX4_swings_53 : decode cX4_swings 53 = .ok (.iinc 3 1, 3) := by decide +kernel
theorem dX4_swings_56 : decode cX4_swings 56 = .ok (.goto (-29), 3) := by decide +kernel
theorem dX4_swings_59 : decode cX4_swings 59 = .ok (.iload_n 2, 1) := by decide +kernel
theorem dX4_swings_60 : decode cX4_swings 60 = .ok (.ireturn, 1) := by decide +kernel
theorem dX4_withoutCrows_0 : decode cX4_withoutCrows 0 = .ok (.aload_n 0, 1) := by decide +kernel
theorem dX4_withoutCrows_1 : decode cX4_withoutCrows 1 = .ok (.getfield 48, 3) := by decide +kernel
theorem dX4_withoutCrows_4 : decode cX4_withoutCrows 4 = .ok (.aload_n 0, 1) := by decide +kernel
theorem dX4_withoutCrows_5 : decode cX4_withoutCrows 5 = .ok (.getfield 10, 3) := by decide +kernel
theorem dX4_withoutCrows_8 : decode cX4_withoutCrows 8 = .ok (.invokevirtual 95, 3) := by decide +kernel
theorem dX4_withoutCrows_11 : decode cX4_withoutCrows 11 = .ok (.ireturn, 1) := by decide +kernel
theorem dX4_turnsIn_0 : decode cX4_turnsIn 0 = .ok (.aload_n 0, 1) := by decide +kernel
theorem dX4_turnsIn_1 : decode cX4_turnsIn 1 = .ok (.getfield 10, 3) := by decide +kernel
theorem dX4_turnsIn_4 : decode cX4_turnsIn 4 = .ok (.iload_n 1, 1) := by decide +kernel
theorem dX4_turnsIn_5 : decode cX4_turnsIn 5 = .ok (.invokevirtual 139, 3) := by decide +kernel
theorem dX4_turnsIn_8 : decode cX4_turnsIn 8 = .ok (.ifCond .ne 5, 3) := by decide +kernel
theorem dX4_turnsIn_11 : decode cX4_turnsIn 11 = .ok (.iconst (-1), 1) := by decide +kernel
theorem dX4_turnsIn_12 : decode cX4_turnsIn 12 = .ok (.ireturn, 1) := by decide +kernel
theorem dX4_turnsIn_13 : decode cX4_turnsIn 13 = .ok (.aload_n 0, 1) := by decide +kernel
theorem dX4_turnsIn_14 : decode cX4_turnsIn 14 = .ok (.getfield 19, 3) := by decide +kernel
theorem dX4_turnsIn_17 : decode cX4_turnsIn 17 = .ok (.aload_n 0, 1) := by decide +kernel
theorem dX4_turnsIn_18 : decode cX4_turnsIn 18 = .ok (.getfield 10, 3) := by decide +kernel
theorem dX4_turnsIn_21 : decode cX4_turnsIn 21 = .ok (.invokevirtual 58, 3) := by decide +kernel
theorem dX4_turnsIn_24 : decode cX4_turnsIn 24 = .ok (.iconst 1, 1) := by decide +kernel
theorem dX4_turnsIn_25 : decode cX4_turnsIn 25 = .ok (.istore_n 2, 1) := by decide +kernel
theorem dX4_turnsIn_26 : decode cX4_turnsIn 26 = .ok (.iload_n 2, 1) := by decide +kernel
theorem dX4_turnsIn_27 : decode cX4_turnsIn 27 = .ok (.sipush 300, 3) := by decide +kernel
theorem dX4_turnsIn_30 : decode cX4_turnsIn 30 = .ok (.if_icmp .gt 40, 3) := by decide +kernel
theorem dX4_turnsIn_33 : decode cX4_turnsIn 33 = .ok (.aload_n 0, 1) := by decide +kernel
theorem dX4_turnsIn_34 : decode cX4_turnsIn 34 = .ok (.getfield 19, 3) := by decide +kernel
theorem dX4_turnsIn_37 : decode cX4_turnsIn 37 = .ok (.invokevirtual 189, 3) := by decide +kernel
theorem dX4_turnsIn_40 : decode cX4_turnsIn 40 = .ok (.pop, 1) := by decide +kernel
theorem dX4_turnsIn_41 : decode cX4_turnsIn 41 = .ok (.aload_n 0, 1) := by decide +kernel
theorem dX4_turnsIn_42 : decode cX4_turnsIn 42 = .ok (.getfield 19, 3) := by decide +kernel
theorem dX4_turnsIn_45 : decode cX4_turnsIn 45 = .ok (.getfield 192, 3) := by decide +kernel
theorem dX4_turnsIn_48 : decode cX4_turnsIn 48 = .ok (.iload_n 1, 1) := by decide +kernel
theorem dX4_turnsIn_49 : decode cX4_turnsIn 49 = .ok (.iaload, 1) := by decide +kernel
theorem dX4_turnsIn_50 : decode cX4_turnsIn 50 = .ok (.aload_n 0, 1) := by decide +kernel
theorem dX4_turnsIn_51 : decode cX4_turnsIn 51 = .ok (.getfield 10, 3) := by decide +kernel
theorem dX4_turnsIn_54 : decode cX4_turnsIn 54 = .ok (.getfield 192, 3) := by decide +kernel
theorem dX4_turnsIn_57 : decode cX4_turnsIn 57 = .ok (.iload_n 1, 1) := by decide +kernel
theorem dX4_turnsIn_58 : decode cX4_turnsIn 58 = .ok (.iaload, 1) := by decide +kernel
theorem dX4_turnsIn_59 : decode cX4_turnsIn 59 = .ok (.if_icmp .le 5, 3) := by decide +kernel
theorem dX4_turnsIn_62 : decode cX4_turnsIn 62 = .ok (.iload_n 2, 1) := by decide +kernel
theorem dX4_turnsIn_63 : decode cX4_turnsIn 63 = .ok (.ireturn, 1) := by decide +kernel
theorem dX4_turnsIn_64 : decode cX4_turnsIn 64 = .ok (.iinc 2 1, 3) := by decide +kernel
theorem dX4_turnsIn_67 : decode cX4_turnsIn 67 = .ok (.goto (-41), 3) := by decide +kernel
theorem dX4_turnsIn_70 : decode cX4_turnsIn 70 = .ok (.bipush (-5), 2) := by decide +kernel
theorem dX4_turnsIn_72 : decode cX4_turnsIn 72 = .ok (.ireturn, 1) := by decide +kernel
theorem dX4_ifTicks_0 : decode cX4_ifTicks 0 = .ok (.iload_n 1, 1) := by decide +kernel
theorem dX4_ifTicks_1 : decode cX4_ifTicks 1 = .ok (.iconst 1, 1) := by decide +kernel
theorem dX4_ifTicks_2 : decode cX4_ifTicks 2 = .ok (.sipush 300, 3) := by decide +kernel
theorem dX4_ifTicks_5 : decode cX4_ifTicks 5 = .ok (.invokestatic 195, 3) := by decide +kernel
theorem dX4_ifTicks_8 : decode cX4_ifTicks 8 = .ok (.ifCond .eq 12, 3) := by decide +kernel
theorem dX4_ifTicks_11 : decode cX4_ifTicks 11 = .ok (.iload_n 2, 1) := by decide +kernel
theorem dX4_ifTicks_12 : decode cX4_ifTicks 12 = .ok (.iconst 0, 1) := by decide +kernel
theorem dX4_ifTicks_13 : decode cX4_ifTicks 13 = .ok (.iconst 2, 1) := by decide +kernel
theorem dX4_ifTicks_14 : decode cX4_ifTicks 14 = .ok (.invokestatic 195, 3) := by decide +kernel
theorem dX4_ifTicks_17 : decode cX4_ifTicks 17 = .ok (.ifCond .ne 6, 3) := by decide +kernel
theorem dX4_ifTicks_20 : decode cX4_ifTicks 20 = .ok (.bipush (-2), 2) := by decide +kernel
theorem dX4_ifTicks_22 : decode cX4_ifTicks 22 = .ok (.ireturn, 1) := by decide +kernel
theorem dX4_ifTicks_23 : decode cX4_ifTicks 23 = .ok (.aload_n 0, 1) := by decide +kernel
theorem dX4_ifTicks_24 : decode cX4_ifTicks 24 = .ok (.getfield 19, 3) := by decide +kernel
theorem dX4_ifTicks_27 : decode cX4_ifTicks 27 = .ok (.aload_n 0, 1) := by decide +kernel
theorem dX4_ifTicks_28 : decode cX4_ifTicks 28 = .ok (.getfield 10, 3) := by decide +kernel
theorem dX4_ifTicks_31 : decode cX4_ifTicks 31 = .ok (.invokevirtual 58, 3) := by decide +kernel
theorem dX4_ifTicks_34 : decode cX4_ifTicks 34 = .ok (.aload_n 0, 1) := by decide +kernel
theorem dX4_ifTicks_35 : decode cX4_ifTicks 35 = .ok (.getfield 19, 3) := by decide +kernel
theorem dX4_ifTicks_38 : decode cX4_ifTicks 38 = .ok (.iload_n 1, 1) := by decide +kernel
theorem dX4_ifTicks_39 : decode cX4_ifTicks 39 = .ok (.invokevirtual 199, 3) := by decide +kernel
theorem dX4_ifTicks_42 : decode cX4_ifTicks 42 = .ok (.istore_n 3, 1) := by decide +kernel
theorem dX4_ifTicks_43 : decode cX4_ifTicks 43 = .ok (.iload_n 2, 1) := by decide +kernel
theorem dX4_ifTicks_44 : decode cX4_ifTicks 44 = .ok (.ifCond .ne 15, 3) := by decide +kernel
theorem dX4_ifTicks_47 : decode cX4_ifTicks 47 = .ok (.aload_n 0, 1) := by decide +kernel
theorem dX4_ifTicks_48 : decode cX4_ifTicks 48 = .ok (.getfield 44, 3) := by decide +kernel
theorem dX4_ifTicks_51 : decode cX4_ifTicks 51 = .ok (.aload_n 0, 1) := by decide +kernel
theorem dX4_ifTicks_52 : decode cX4_ifTicks 52 = .ok (.getfield 19, 3) := by decide +kernel
theorem dX4_ifTicks_55 : decode cX4_ifTicks 55 = .ok (.invokevirtual 95, 3) := by decide +kernel
theorem dX4_ifTicks_58 : decode cX4_ifTicks 58 = .ok (.ireturn, 1) := by decide +kernel
theorem dX4_ifTicks_59 : decode cX4_ifTicks 59 = .ok (.iload_n 2, 1) := by decide +kernel
theorem dX4_ifTicks_60 : decode cX4_ifTicks 60 = .ok (.iconst 1, 1) := by decide +kernel
theorem dX4_ifTicks_61 : decode cX4_ifTicks 61 = .ok (.if_icmp .ne 7, 3) := by decide +kernel
theorem dX4_ifTicks_64 : decode cX4_ifTicks 64 = .ok (.iload_n 3, 1) := by decide +kernel
theorem dX4_ifTicks_65 : decode cX4_ifTicks 65 = .ok (.goto 24, 3) := by decide +kernel
theorem dX4_ifTicks_68 : decode cX4_ifTicks 68 = .ok (.aload_n 0, 1) := by decide +kernel
theorem dX4_ifTicks_69 : decode cX4_ifTicks 69 = .ok (.getfield 19, 3) := by decide +kernel
theorem dX4_ifTicks_72 : decode cX4_ifTicks 72 = .ok (.getfield 202, 3) := by decide +kernel
theorem dX4_ifTicks_75 : decode cX4_ifTicks 75 = .ok (.invokestatic 205, 3) := by decide +kernel
theorem dX4_ifTicks_78 : decode cX4_ifTicks 78 = .ok (.aload_n 0, 1) := by decide +kernel
theorem dX4_ifTicks_79 : decode cX4_ifTicks 79 = .ok (.getfield 10, 3) := by decide +kernel
theorem dX4_ifTicks_82 : decode cX4_ifTicks 82 = .ok (.getfield 202, 3) := by decide +kernel
theorem dX4_ifTicks_85 : decode cX4_ifTicks 85 = .ok (.invokestatic 205, 3) := by decide +kernel
theorem dX4_ifTicks_88 : decode cX4_ifTicks 88 = .ok (.isub, 1) := by decide +kernel
theorem dX4_ifTicks_89 : decode cX4_ifTicks 89 = .ok (.ireturn, 1) := by decide +kernel
theorem dX4_count_0 : decode cX4_count 0 = .ok (.iload_n 1, 1) := by decide +kernel
theorem dX4_count_1 : decode cX4_count 1 = .ok (.lookupswitch 43 #[(14, 27), (15, 35)], 27) := by decide +kernel
theorem dX4_count_28 : decode cX4_count 28 = .ok (.aload_n 0, 1) := by decide +kernel
theorem dX4_count_29 : decode cX4_count 29 = .ok (.getfield 28, 3) := by decide +kernel
theorem dX4_count_32 : decode cX4_count 32 = .ok (.getfield 209, 3) := by decide +kernel
theorem dX4_count_35 : decode cX4_count 35 = .ok (.ireturn, 1) := by decide +kernel
theorem dX4_count_36 : decode cX4_count 36 = .ok (.aload_n 0, 1) := by decide +kernel
theorem dX4_count_37 : decode cX4_count 37 = .ok (.getfield 35, 3) := by decide +kernel
theorem dX4_count_40 : decode cX4_count 40 = .ok (.getfield 212, 3) := by decide +kernel
theorem dX4_count_43 : decode cX4_count 43 = .ok (.ireturn, 1) := by decide +kernel
theorem dX4_count_44 : decode cX4_count 44 = .ok (.aload_n 0, 1) := by decide +kernel
theorem dX4_count_45 : decode cX4_count 45 = .ok (.getfield 10, 3) := by decide +kernel
theorem dX4_count_48 : decode cX4_count 48 = .ok (.iload_n 1, 1) := by decide +kernel
theorem dX4_count_49 : decode cX4_count 49 = .ok (.invokevirtual 215, 3) := by decide +kernel
theorem dX4_count_52 : decode cX4_count 52 = .ok (.ireturn, 1) := by decide +kernel
theorem dX4_recorded_0 : decode cX4_recorded 0 = .ok (.iload_n 1, 1) := by decide +kernel
theorem dX4_recorded_1 : decode cX4_recorded 1 = .ok (.ifCond .lt 14, 3) := by decide +kernel
theorem dX4_recorded_4 : decode cX4_recorded 4 = .ok (.aload_n 0, 1) := by decide +kernel
theorem dX4_recorded_5 : decode cX4_recorded 5 = .ok (.getfield 28, 3) := by decide +kernel
theorem dX4_recorded_8 : decode cX4_recorded 8 = .ok (.aload_n 0, 1) := by decide +kernel
theorem dX4_recorded_9 : decode cX4_recorded 9 = .ok (.getfield 16, 3) := by decide +kernel
theorem dX4_recorded_12 : decode cX4_recorded 12 = .ok (.invokevirtual 218, 3) := by decide +kernel
theorem dX4_recorded_15 : decode cX4_recorded 15 = .ok (.iload_n 1, 1) := by decide +kernel
theorem dX4_recorded_16 : decode cX4_recorded 16 = .ok (.ireturn, 1) := by decide +kernel
theorem dX4_doThing_0 : decode cX4_doThing 0 = .ok (.aload_n 0, 1) := by decide +kernel
theorem dX4_doThing_1 : decode cX4_doThing 1 = .ok (.getfield 35, 3) := by decide +kernel
theorem dX4_doThing_4 : decode cX4_doThing 4 = .ok (.iload_n 1, 1) := by decide +kernel
theorem dX4_doThing_5 : decode cX4_doThing 5 = .ok (.invokevirtual 221, 3) := by decide +kernel
theorem dX4_doThing_8 : decode cX4_doThing 8 = .ok (.istore_n 2, 1) := by decide +kernel
theorem dX4_doThing_9 : decode cX4_doThing 9 = .ok (.aload_n 0, 1) := by decide +kernel
theorem dX4_doThing_10 : decode cX4_doThing 10 = .ok (.getfield 35, 3) := by decide +kernel
theorem dX4_doThing_13 : decode cX4_doThing 13 = .ok (.iload_n 1, 1) := by decide +kernel
theorem dX4_doThing_14 : decode cX4_doThing 14 = .ok (.invokevirtual 224, 3) := by decide +kernel
theorem dX4_doThing_17 : decode cX4_doThing 17 = .ok (.istore_n 3, 1) := by decide +kernel
theorem dX4_doThing_18 : decode cX4_doThing 18 = .ok (.aload_n 0, 1) := by decide +kernel
theorem dX4_doThing_19 : decode cX4_doThing 19 = .ok (.getfield 35, 3) := by decide +kernel
theorem dX4_doThing_22 : decode cX4_doThing 22 = .ok (.iload_n 1, 1) := by decide +kernel
theorem dX4_doThing_23 : decode cX4_doThing 23 = .ok (.invokevirtual 227, 3) := by decide +kernel
theorem dX4_doThing_26 : decode cX4_doThing 26 = .ok (.lookupswitch 91 #[(99, 52), (102, 62), (118, 72), (119, 42)], 42) := by decide +kernel
theorem dX4_doThing_68 : decode cX4_doThing 68 = .ok (.aload_n 0, 1) := by decide +kernel
theorem dX4_doThing_69 : decode cX4_doThing 69 = .ok (.getfield 10, 3) := by decide +kernel
theorem dX4_doThing_72 : decode cX4_doThing 72 = .ok (.iload_n 2, 1) := by decide +kernel
theorem dX4_doThing_73 : decode cX4_doThing 73 = .ok (.iload_n 3, 1) := by decide +kernel
theorem dX4_doThing_74 : decode cX4_doThing 74 = .ok (.invokevirtual 89, 3) := by decide +kernel
theorem dX4_doThing_77 : decode cX4_doThing 77 = .ok (.ireturn, 1) := by decide +kernel
theorem dX4_doThing_78 : decode cX4_doThing 78 = .ok (.aload_n 0, 1) := by decide +kernel
theorem dX4_doThing_79 : decode cX4_doThing 79 = .ok (.getfield 10, 3) := by decide +kernel
theorem dX4_doThing_82 : decode cX4_doThing 82 = .ok (.iload_n 2, 1) := by decide +kernel
theorem dX4_doThing_83 : decode cX4_doThing 83 = .ok (.iload_n 3, 1) := by decide +kernel
theorem dX4_doThing_84 : decode cX4_doThing 84 = .ok (.invokevirtual 77, 3) := by decide +kernel
theorem dX4_doThing_87 : decode cX4_doThing 87 = .ok (.ireturn, 1) := by decide +kernel
theorem dX4_doThing_88 : decode cX4_doThing 88 = .ok (.aload_n 0, 1) := by decide +kernel
theorem dX4_doThing_89 : decode cX4_doThing 89 = .ok (.getfield 10, 3) := by decide +kernel
theorem dX4_doThing_92 : decode cX4_doThing 92 = .ok (.iload_n 2, 1) := by decide +kernel
theorem dX4_doThing_93 : decode cX4_doThing 93 = .ok (.iload_n 3, 1) := by decide +kernel
theorem dX4_doThing_94 : decode cX4_doThing 94 = .ok (.invokevirtual 83, 3) := by decide +kernel
theorem dX4_doThing_97 : decode cX4_doThing 97 = .ok (.ireturn, 1) := by decide +kernel
theorem dX4_doThing_98 : decode cX4_doThing 98 = .ok (.aload_n 0, 1) := by decide +kernel
theorem dX4_doThing_99 : decode cX4_doThing 99 = .ok (.getfield 10, 3) := by decide +kernel
theorem dX4_doThing_102 : decode cX4_doThing 102 = .ok (.aload_n 0, 1) := by decide +kernel
theorem dX4_doThing_103 : decode cX4_doThing 103 = .ok (.getfield 44, 3) := by decide +kernel
theorem dX4_doThing_106 : decode cX4_doThing 106 = .ok (.aload_n 0, 1) := by decide +kernel
theorem dX4_doThing_107 : decode cX4_doThing 107 = .ok (.getfield 10, 3) := by decide +kernel
theorem dX4_doThing_110 : decode cX4_doThing 110 = .ok (.invokevirtual 95, 3) := by decide +kernel
theorem dX4_doThing_113 : decode cX4_doThing 113 = .ok (.invokevirtual 99, 3) := by decide +kernel
theorem dX4_doThing_116 : decode cX4_doThing 116 = .ok (.ireturn, 1) := by decide +kernel
theorem dX4_doThing_117 : decode cX4_doThing 117 = .ok (.aload_n 0, 1) := by decide +kernel
theorem dX4_doThing_118 : decode cX4_doThing 118 = .ok (.getfield 10, 3) := by decide +kernel
theorem dX4_doThing_121 : decode cX4_doThing 121 = .ok (.iload_n 2, 1) := by decide +kernel
theorem dX4_doThing_122 : decode cX4_doThing 122 = .ok (.invokevirtual 102, 3) := by decide +kernel
theorem dX4_doThing_125 : decode cX4_doThing 125 = .ok (.ireturn, 1) := by decide +kernel
theorem dX4_couldSwing_0 : decode cX4_couldSwing 0 = .ok (.aload_n 0, 1) := by decide +kernel
theorem dX4_couldSwing_1 : decode cX4_couldSwing 1 = .ok (.getfield 19, 3) := by decide +kernel
theorem dX4_couldSwing_4 : decode cX4_couldSwing 4 = .ok (.getfield 230, 3) := by decide +kernel
theorem dX4_couldSwing_7 : decode cX4_couldSwing 7 = .ok (.iload_n 1, 1) := by decide +kernel
theorem dX4_couldSwing_8 : decode cX4_couldSwing 8 = .ok (.iaload, 1) := by decide +kernel
theorem dX4_couldSwing_9 : decode cX4_couldSwing 9 = .ok (.istore_n 3, 1) := by decide +kernel
theorem dX4_couldSwing_10 : decode cX4_couldSwing 10 = .ok (.aload_n 0, 1) := by decide +kernel
theorem dX4_couldSwing_11 : decode cX4_couldSwing 11 = .ok (.getfield 19, 3) := by decide +kernel
theorem dX4_couldSwing_14 : decode cX4_couldSwing 14 = .ok (.getfield 233, 3) := by decide +kernel
theorem dX4_couldSwing_17 : decode cX4_couldSwing 17 = .ok (.iload_n 1, 1) := by decide +kernel
theorem dX4_couldSwing_18 : decode cX4_couldSwing 18 = .ok (.iaload, 1) := by decide +kernel
theorem dX4_couldSwing_19 : decode cX4_couldSwing 19 = .ok (.istore 4, 2) := by decide +kernel
theorem dX4_couldSwing_21 : decode cX4_couldSwing 21 = .ok (.aload_n 0, 1) := by decide +kernel
theorem dX4_couldSwing_22 : decode cX4_couldSwing 22 = .ok (.getfield 44, 3) := by decide +kernel
theorem dX4_couldSwing_25 : decode cX4_couldSwing 25 = .ok (.getfield 236, 3) := by decide +kernel
theorem dX4_couldSwing_28 : decode cX4_couldSwing 28 = .ok (.iload_n 3, 1) := by decide +kernel
theorem dX4_couldSwing_29 : decode cX4_couldSwing 29 = .ok (.iaload, 1) := by decide +kernel
theorem dX4_couldSwing_30 : decode cX4_couldSwing 30 = .ok (.istore 5, 2) := by decide +kernel
theorem dX4_couldSwing_32 : decode cX4_couldSwing 32 = .ok (.iconst 0, 1) := by decide +kernel
theorem dX4_couldSwing_33 : decode cX4_couldSwing 33 = .ok (.istore 6, 2) := by decide +kernel
theorem dX4_couldSwing_35 : decode cX4_couldSwing 35 = .ok (.iconst 0, 1) := by decide +kernel
theorem dX4_couldSwing_36 : decode cX4_couldSwing 36 = .ok (.istore 7, 2) := by decide +kernel
theorem dX4_couldSwing_38 : decode cX4_couldSwing 38 = .ok (.iload 7, 2) := by decide +kernel
theorem dX4_couldSwing_40 : decode cX4_couldSwing 40 = .ok (.iconst 4, 1) := by decide +kernel
theorem dX4_couldSwing_41 : decode cX4_couldSwing 41 = .ok (.if_icmp .ge 68, 3) := by decide +kernel
theorem dX4_couldSwing_44 : decode cX4_couldSwing 44 = .ok (.iload 6, 2) := by decide +kernel
theorem dX4_couldSwing_46 : decode cX4_couldSwing 46 = .ok (.ifCond .ne 63, 3) := by decide +kernel
theorem dX4_couldSwing_49 : decode cX4_couldSwing 49 = .ok (.aload_n 0, 1) := by decide +kernel
theorem dX4_couldSwing_50 : decode cX4_couldSwing 50 = .ok (.getfield 19, 3) := by decide +kernel
theorem dX4_couldSwing_53 : decode cX4_couldSwing 53 = .ok (.getfield 233, 3) := by decide +kernel
theorem dX4_couldSwing_56 : decode cX4_couldSwing 56 = .ok (.iload_n 1, 1) := by decide +kernel
theorem dX4_couldSwing_57 : decode cX4_couldSwing 57 = .ok (.iload 7, 2) := by decide +kernel
theorem dX4_couldSwing_59 : decode cX4_couldSwing 59 = .ok (.iastore, 1) := by decide +kernel
theorem dX4_couldSwing_60 : decode cX4_couldSwing 60 = .ok (.aload_n 0, 1) := by decide +kernel
theorem dX4_couldSwing_61 : decode cX4_couldSwing 61 = .ok (.getfield 44, 3) := by decide +kernel
theorem dX4_couldSwing_64 : decode cX4_couldSwing 64 = .ok (.getfield 236, 3) := by decide +kernel
theorem dX4_couldSwing_67 : decode cX4_couldSwing 67 = .ok (.iload_n 3, 1) := by decide +kernel
theorem dX4_couldSwing_68 : decode cX4_couldSwing 68 = .ok (.aload_n 0, 1) := by decide +kernel
theorem dX4_couldSwing_69 : decode cX4_couldSwing 69 = .ok (.getfield 44, 3) := by decide +kernel
theorem dX4_couldSwing_72 : decode cX4_couldSwing 72 = .ok (.aload_n 0, 1) := by decide +kernel
theorem dX4_couldSwing_73 : decode cX4_couldSwing 73 = .ok (.getfield 19, 3) := by decide +kernel
theorem dX4_couldSwing_76 : decode cX4_couldSwing 76 = .ok (.iload_n 3, 1) := by decide +kernel
theorem dX4_couldSwing_77 : decode cX4_couldSwing 77 = .ok (.invokevirtual 169, 3) := by decide +kernel
theorem dX4_couldSwing_80 : decode cX4_couldSwing 80 = .ok (.iastore, 1) := by decide +kernel
theorem dX4_couldSwing_81 : decode cX4_couldSwing 81 = .ok (.aload_n 0, 1) := by decide +kernel
theorem dX4_couldSwing_82 : decode cX4_couldSwing 82 = .ok (.getfield 44, 3) := by decide +kernel
theorem dX4_couldSwing_85 : decode cX4_couldSwing 85 = .ok (.aload_n 0, 1) := by decide +kernel
theorem dX4_couldSwing_86 : decode cX4_couldSwing 86 = .ok (.getfield 19, 3) := by decide +kernel
theorem dX4_couldSwing_89 : decode cX4_couldSwing 89 = .ok (.invokevirtual 239, 3) := by decide +kernel
theorem dX4_couldSwing_92 : decode cX4_couldSwing 92 = .ok (.iload_n 2, 1) := by decide +kernel
theorem dX4_couldSwing_93 : decode cX4_couldSwing 93 = .ok (.if_icmp .eq 7, 3) := by decide +kernel
theorem dX4_couldSwing_96 : decode cX4_couldSwing 96 = .ok (.iconst 1, 1) := by decide +kernel
theorem dX4_couldSwing_97 : decode cX4_couldSwing 97 = .ok (.goto 4, 3) := by decide +kernel
theorem dX4_couldSwing_100 : decode cX4_couldSwing 100 = .ok (.iconst 0, 1) := by decide +kernel
theorem dX4_couldSwing_101 : decode cX4_couldSwing 101 = .ok (.istore 6, 2) := by decide +kernel
theorem dX4_couldSwing_103 : decode cX4_couldSwing 103 = .ok (.iinc 7 1, 3) := by decide +kernel
theorem dX4_couldSwing_106 : decode cX4_couldSwing 106 = .ok (.goto (-68), 3) := by decide +kernel
theorem dX4_couldSwing_109 : decode cX4_couldSwing 109 = .ok (.aload_n 0, 1) := by decide +kernel
theorem dX4_couldSwing_110 : decode cX4_couldSwing 110 = .ok (.getfield 19, 3) := by decide +kernel
theorem dX4_couldSwing_113 : decode cX4_couldSwing 113 = .ok (.getfield 233, 3) := by decide +kernel
theorem dX4_couldSwing_116 : decode cX4_couldSwing 116 = .ok (.iload_n 1, 1) := by decide +kernel
theorem dX4_couldSwing_117 : decode cX4_couldSwing 117 = .ok (.iload 4, 2) := by decide +kernel
theorem dX4_couldSwing_119 : decode cX4_couldSwing 119 = .ok (.iastore, 1) := by decide +kernel
theorem dX4_couldSwing_120 : decode cX4_couldSwing 120 = .ok (.aload_n 0, 1) := by decide +kernel
theorem dX4_couldSwing_121 : decode cX4_couldSwing 121 = .ok (.getfield 44, 3) := by decide +kernel
theorem dX4_couldSwing_124 : decode cX4_couldSwing 124 = .ok (.getfield 236, 3) := by decide +kernel
theorem dX4_couldSwing_127 : decode cX4_couldSwing 127 = .ok (.iload_n 3, 1) := by decide +kernel
theorem dX4_couldSwing_128 : decode cX4_couldSwing 128 = .ok (.iload 5, 2) := by decide +kernel
theorem dX4_couldSwing_130 : decode cX4_couldSwing 130 = .ok (.iastore, 1) := by decide +kernel
theorem dX4_couldSwing_131 : decode cX4_couldSwing 131 = .ok (.iload 6, 2) := by decide +kernel
theorem dX4_couldSwing_133 : decode cX4_couldSwing 133 = .ok (.ireturn, 1) := by decide +kernel
theorem dX4_isError_0 : decode cX4_isError 0 = .ok (.iload_n 0, 1) := by decide +kernel
theorem dX4_isError_1 : decode cX4_isError 1 = .ok (.ifCond .ge 13, 3) := by decide +kernel
theorem dX4_isError_4 : decode cX4_isError 4 = .ok (.iload_n 0, 1) := by decide +kernel
theorem dX4_isError_5 : decode cX4_isError 5 = .ok (.bipush (-5), 2) := by decide +kernel
theorem dX4_isError_7 : decode cX4_isError 7 = .ok (.if_icmp .eq 7, 3) := by decide +kernel
theorem dX4_isError_10 : decode cX4_isError 10 = .ok (.iconst 1, 1) := by decide +kernel
theorem dX4_isError_11 : decode cX4_isError 11 = .ok (.goto 4, 3) := by decide +kernel
theorem dX4_isError_14 : decode cX4_isError 14 = .ok (.iconst 0, 1) := by decide +kernel
theorem dX4_isError_15 : decode cX4_isError 15 = .ok (.ireturn, 1) := by decide +kernel
theorem dX4_isIn_0 : decode cX4_isIn 0 = .ok (.iload_n 0, 1) := by decide +kernel
theorem dX4_isIn_1 : decode cX4_isIn 1 = .ok (.iload_n 1, 1) := by decide +kernel
theorem dX4_isIn_2 : decode cX4_isIn 2 = .ok (.if_icmp .lt 12, 3) := by decide +kernel
theorem dX4_isIn_5 : decode cX4_isIn 5 = .ok (.iload_n 0, 1) := by decide +kernel
theorem dX4_isIn_6 : decode cX4_isIn 6 = .ok (.iload_n 2, 1) := by decide +kernel
theorem dX4_isIn_7 : decode cX4_isIn 7 = .ok (.if_icmp .gt 7, 3) := by decide +kernel
theorem dX4_isIn_10 : decode cX4_isIn 10 = .ok (.iconst 1, 1) := by decide +kernel
theorem dX4_isIn_11 : decode cX4_isIn 11 = .ok (.goto 4, 3) := by decide +kernel
theorem dX4_isIn_14 : decode cX4_isIn 14 = .ok (.iconst 0, 1) := by decide +kernel
theorem dX4_isIn_15 : decode cX4_isIn 15 = .ok (.ireturn, 1) := by decide +kernel
theorem dX4_isField_0 : decode cX4_isField 0 = .ok (.iload_n 0, 1) := by decide +kernel
theorem dX4_isField_1 : decode cX4_isField 1 = .ok (.iconst 0, 1) := by decide +kernel
theorem dX4_isField_2 : decode cX4_isField 2 = .ok (.iconst 5, 1) := by decide +kernel
theorem dX4_isField_3 : decode cX4_isField 3 = .ok (.invokestatic 195, 3) := by decide +kernel
theorem dX4_isField_6 : decode cX4_isField 6 = .ok (.ireturn, 1) := by decide +kernel
theorem dX4_isWay_0 : decode cX4_isWay 0 = .ok (.iload_n 0, 1) := by decide +kernel
theorem dX4_isWay_1 : decode cX4_isWay 1 = .ok (.iconst 0, 1) := by decide +kernel
theorem dX4_isWay_2 : decode cX4_isWay 2 = .ok (.iconst 3, 1) := by decide +kernel
theorem dX4_isWay_3 : decode cX4_isWay 3 = .ok (.invokestatic 195, 3) := by decide +kernel
theorem dX4_isWay_6 : decode cX4_isWay 6 = .ok (.ireturn, 1) := by decide +kernel
theorem dX4_sumOf_0 : decode cX4_sumOf 0 = .ok (.iconst 0, 1) := by decide +kernel
theorem dX4_sumOf_1 : decode cX4_sumOf 1 = .ok (.istore_n 1, 1) := by decide +kernel
theorem dX4_sumOf_2 : decode cX4_sumOf 2 = .ok (.iconst 0, 1) := by decide +kernel
theorem dX4_sumOf_3 : decode cX4_sumOf 3 = .ok (.istore_n 2, 1) := by decide +kernel
theorem dX4_sumOf_4 : decode cX4_sumOf 4 = .ok (.iload_n 2, 1) := by decide +kernel
theorem dX4_sumOf_5 : decode cX4_sumOf 5 = .ok (.aload_n 0, 1) := by decide +kernel
theorem dX4_sumOf_6 : decode cX4_sumOf 6 = .ok (.arraylength, 1) := by decide +kernel
theorem dX4_sumOf_7 : decode cX4_sumOf 7 = .ok (.if_icmp .ge 15, 3) := by decide +kernel
theorem dX4_sumOf_10 : decode cX4_sumOf 10 = .ok (.iload_n 1, 1) := by decide +kernel
theorem dX4_sumOf_11 : decode cX4_sumOf 11 = .ok (.aload_n 0, 1) := by decide +kernel
theorem dX4_sumOf_12 : decode cX4_sumOf 12 = .ok (.iload_n 2, 1) := by decide +kernel
theorem dX4_sumOf_13 : decode cX4_sumOf 13 = .ok (.iaload, 1) := by decide +kernel
theorem dX4_sumOf_14 : decode cX4_sumOf 14 = .ok (.iadd, 1) := by decide +kernel
theorem dX4_sumOf_15 : decode cX4_sumOf 15 = .ok (.istore_n 1, 1) := by decide +kernel
theorem dX4_sumOf_16 : decode cX4_sumOf 16 = .ok (.iinc 2 1, 3) := by decide +kernel
theorem dX4_sumOf_19 : decode cX4_sumOf 19 = .ok (.goto (-15), 3) := by decide +kernel
theorem dX4_sumOf_22 : decode cX4_sumOf 22 = .ok (.iload_n 1, 1) := by decide +kernel
theorem dX4_sumOf_23 : decode cX4_sumOf 23 = .ok (.ireturn, 1) := by decide +kernel
theorem dX4_copyRow_0 : decode cX4_copyRow 0 = .ok (.aload_n 0, 1) := by decide +kernel
theorem dX4_copyRow_1 : decode cX4_copyRow 1 = .ok (.iconst 0, 1) := by decide +kernel
theorem dX4_copyRow_2 : decode cX4_copyRow 2 = .ok (.aload_n 1, 1) := by decide +kernel
theorem dX4_copyRow_3 : decode cX4_copyRow 3 = .ok (.iconst 0, 1) := by decide +kernel
theorem dX4_copyRow_4 : decode cX4_copyRow 4 = .ok (.aload_n 0, 1) := by decide +kernel
theorem dX4_copyRow_5 : decode cX4_copyRow 5 = .ok (.arraylength, 1) := by decide +kernel
theorem dX4_copyRow_6 : decode cX4_copyRow 6 = .ok (.aload_n 1, 1) := by decide +kernel
theorem dX4_copyRow_7 : decode cX4_copyRow 7 = .ok (.arraylength, 1) := by decide +kernel
theorem dX4_copyRow_8 : decode cX4_copyRow 8 = .ok (.invokestatic 242, 3) := by decide +kernel
theorem dX4_copyRow_11 : decode cX4_copyRow 11 = .ok (.invokestatic 247, 3) := by decide +kernel
theorem dX4_copyRow_14 : decode cX4_copyRow 14 = .ok (.return_, 1) := by decide +kernel
theorem dX5_init_0 : decode cX5_init 0 = .ok (.aload_n 0, 1) := by decide +kernel
theorem dX5_init_1 : decode cX5_init 1 = .ok (.invokespecial 1, 3) := by decide +kernel
theorem dX5_init_4 : decode cX5_init 4 = .ok (.aload_n 0, 1) := by decide +kernel
theorem dX5_init_5 : decode cX5_init 5 = .ok (.sipush 149, 3) := by decide +kernel
theorem dX5_init_8 : decode cX5_init 8 = .ok (.newarray .int, 2) := by decide +kernel
theorem dX5_init_10 : decode cX5_init 10 = .ok (.putfield 7, 3) := by decide +kernel
theorem dX5_init_13 : decode cX5_init 13 = .ok (.aload_n 0, 1) := by decide +kernel
theorem dX5_init_14 : decode cX5_init 14 = .ok (.sipush 149, 3) := by decide +kernel
theorem dX5_init_17 : decode cX5_init 17 = .ok (.newarray .int, 2) := by decide +kernel
theorem dX5_init_19 : decode cX5_init 19 = .ok (.putfield 13, 3) := by decide +kernel
theorem dX5_init_22 : decode cX5_init 22 = .ok (.aload_n 0, 1) := by decide +kernel
theorem dX5_init_23 : decode cX5_init 23 = .ok (.sipush 596, 3) := by decide +kernel
theorem dX5_init_26 : decode cX5_init 26 = .ok (.newarray .int, 2) := by decide +kernel
theorem dX5_init_28 : decode cX5_init 28 = .ok (.putfield 16, 3) := by decide +kernel
theorem dX5_init_31 : decode cX5_init 31 = .ok (.aload_n 0, 1) := by decide +kernel
theorem dX5_init_32 : decode cX5_init 32 = .ok (.sipush 149, 3) := by decide +kernel
theorem dX5_init_35 : decode cX5_init 35 = .ok (.newarray .int, 2) := by decide +kernel
theorem dX5_init_37 : decode cX5_init 37 = .ok (.putfield 19, 3) := by decide +kernel
theorem dX5_init_40 : decode cX5_init 40 = .ok (.aload_n 0, 1) := by decide +kernel
theorem dX5_init_41 : decode cX5_init 41 = .ok (.bipush 60, 2) := by decide +kernel
theorem dX5_init_43 : decode cX5_init 43 = .ok (.newarray .int, 2) := by decide +kernel
theorem dX5_init_45 : decode cX5_init 45 = .ok (.putfield 22, 3) := by decide +kernel
theorem dX5_init_48 : decode cX5_init 48 = .ok (.aload_n 0, 1) := by decide +kernel
theorem dX5_init_49 : decode cX5_init 49 = .ok (.getfield 7, 3) := by decide +kernel
theorem dX5_init_52 : decode cX5_init 52 = .ok (.iconst 1, 1) := by decide +kernel
theorem dX5_init_53 : decode cX5_init 53 = .ok (.iconst 2, 1) := by decide +kernel
theorem dX5_init_54 : decode cX5_init 54 = .ok (.iastore, 1) := by decide +kernel
theorem dX5_init_55 : decode cX5_init 55 = .ok (.aload_n 0, 1) := by decide +kernel
theorem dX5_init_56 : decode cX5_init 56 = .ok (.getfield 7, 3) := by decide +kernel
theorem dX5_init_59 : decode cX5_init 59 = .ok (.iconst 5, 1) := by decide +kernel
theorem dX5_init_60 : decode cX5_init 60 = .ok (.sipush 640, 3) := by decide +kernel
theorem dX5_init_63 : decode cX5_init 63 = .ok (.iastore, 1) := by decide +kernel
theorem dX5_init_64 : decode cX5_init 64 = .ok (.aload_n 0, 1) := by decide +kernel
theorem dX5_init_65 : decode cX5_init 65 = .ok (.getfield 7, 3) := by decide +kernel
theorem dX5_init_68 : decode cX5_init 68 = .ok (.bipush 9, 2) := by decide +kernel
theorem dX5_init_70 : decode cX5_init 70 = .ok (.bipush (-5), 2) := by decide +kernel
theorem dX5_init_72 : decode cX5_init 72 = .ok (.iastore, 1) := by decide +kernel
theorem dX5_init_73 : decode cX5_init 73 = .ok (.iconst 0, 1) := by decide +kernel
theorem dX5_init_74 : decode cX5_init 74 = .ok (.istore_n 1, 1) := by decide +kernel
theorem dX5_init_75 : decode cX5_init 75 = .ok (.iload_n 1, 1) := by decide +kernel
theorem dX5_init_76 : decode cX5_init 76 = .ok (.bipush 6, 2) := by decide +kernel
theorem dX5_init_78 : decode cX5_init 78 = .ok (.if_icmp .ge 19, 3) := by decide +kernel
theorem dX5_init_81 : decode cX5_init 81 = .ok (.aload_n 0, 1) := by decide +kernel
theorem dX5_init_82 : decode cX5_init 82 = .ok (.getfield 7, 3) := by decide +kernel
theorem dX5_init_85 : decode cX5_init 85 = .ok (.bipush 11, 2) := by decide +kernel
theorem dX5_init_87 : decode cX5_init 87 = .ok (.iload_n 1, 1) := by decide +kernel
theorem dX5_init_88 : decode cX5_init 88 = .ok (.iadd, 1) := by decide +kernel
theorem dX5_init_89 : decode cX5_init 89 = .ok (.iconst 1, 1) := by decide +kernel
theorem dX5_init_90 : decode cX5_init 90 = .ok (.iastore, 1) := by decide +kernel
theorem dX5_init_91 : decode cX5_init 91 = .ok (.iinc 1 1, 3) := by decide +kernel
theorem dX5_init_94 : decode cX5_init 94 = .ok (.goto (-19), 3) := by decide +kernel
theorem dX5_init_97 : decode cX5_init 97 = .ok (.return_, 1) := by decide +kernel
theorem dX5_within_0 : decode cX5_within 0 = .ok (.iload_n 0, 1) := by decide +kernel
theorem dX5_within_1 : decode cX5_within 1 = .ok (.iload_n 1, 1) := by decide +kernel
theorem dX5_within_2 : decode cX5_within 2 = .ok (.if_icmp .lt 12, 3) := by decide +kernel
theorem dX5_within_5 : decode cX5_within 5 = .ok (.iload_n 0, 1) := by decide +kernel
theorem dX5_within_6 : decode cX5_within 6 = .ok (.iload_n 2, 1) := by decide +kernel
theorem dX5_within_7 : decode cX5_within 7 = .ok (.if_icmp .gt 7, 3) := by decide +kernel
theorem dX5_within_10 : decode cX5_within 10 = .ok (.iconst 1, 1) := by decide +kernel
theorem dX5_within_11 : decode cX5_within 11 = .ok (.goto 4, 3) := by decide +kernel
theorem dX5_within_14 : decode cX5_within 14 = .ok (.iconst 0, 1) := by decide +kernel
theorem dX5_within_15 : decode cX5_within 15 = .ok (.ireturn, 1) := by decide +kernel
theorem dX5_isScarecrow_0 : decode cX5_isScarecrow 0 = .ok (.iload_n 1, 1) := by decide +kernel
theorem dX5_isScarecrow_1 : decode cX5_isScarecrow 1 = .ok (.iconst 0, 1) := by decide +kernel
theorem dX5_isScarecrow_2 : decode cX5_isScarecrow 2 = .ok (.aload_n 0, 1) := by decide +kernel
theorem dX5_isScarecrow_3 : decode cX5_isScarecrow 3 = .ok (.getfield 7, 3) := by decide +kernel
theorem dX5_isScarecrow_6 : decode cX5_isScarecrow 6 = .ok (.bipush 10, 2) := by decide +kernel
theorem dX5_isScarecrow_8 : decode cX5_isScarecrow 8 = .ok (.iaload, 1) := by decide +kernel
theorem dX5_isScarecrow_9 : decode cX5_isScarecrow 9 = .ok (.iconst 1, 1) := by decide +kernel
theorem dX5_isScarecrow_10 : decode cX5_isScarecrow 10 = .ok (.isub, 1) := by decide +kernel
theorem dX5_isScarecrow_11 : decode cX5_isScarecrow 11 = .ok (.invokestatic 25, 3) := by decide +kernel
theorem dX5_isScarecrow_14 : decode cX5_isScarecrow 14 = .ok (.ireturn, 1) := by decide +kernel
theorem dX5_isField_0 : decode cX5_isField 0 = .ok (.iload_n 0, 1) := by decide +kernel
theorem dX5_isField_1 : decode cX5_isField 1 = .ok (.iconst 0, 1) := by decide +kernel
theorem dX5_isField_2 : decode cX5_isField 2 = .ok (.iconst 5, 1) := by decide +kernel
theorem dX5_isField_3 : decode cX5_isField 3 = .ok (.invokestatic 25, 3) := by decide +kernel
theorem dX5_isField_6 : decode cX5_isField 6 = .ok (.ireturn, 1) := by decide +kernel
theorem dX5_isWay_0 : decode cX5_isWay 0 = .ok (.iload_n 0, 1) := by decide +kernel
theorem dX5_isWay_1 : decode cX5_isWay 1 = .ok (.iconst 0, 1) := by decide +kernel
theorem dX5_isWay_2 : decode cX5_isWay 2 = .ok (.iconst 3, 1) := by decide +kernel
theorem dX5_isWay_3 : decode cX5_isWay 3 = .ok (.invokestatic 25, 3) := by decide +kernel
theorem dX5_isWay_6 : decode cX5_isWay 6 = .ok (.ireturn, 1) := by decide +kernel
theorem dX5_of_0 : decode cX5_of 0 = .ok (.aload_n 0, 1) := by decide +kernel
theorem dX5_of_1 : decode cX5_of 1 = .ok (.getfield 7, 3) := by decide +kernel
theorem dX5_of_4 : decode cX5_of 4 = .ok (.bipush 17, 2) := by decide +kernel
theorem dX5_of_6 : decode cX5_of 6 = .ok (.bipush 11, 2) := by decide +kernel
theorem dX5_of_8 : decode cX5_of 8 = .ok (.iload_n 1, 1) := by decide +kernel
theorem dX5_of_9 : decode cX5_of 9 = .ok (.imul, 1) := by decide +kernel
theorem dX5_of_10 : decode cX5_of 10 = .ok (.iadd, 1) := by decide +kernel
theorem dX5_of_11 : decode cX5_of 11 = .ok (.iload_n 2, 1) := by decide +kernel
theorem dX5_of_12 : decode cX5_of 12 = .ok (.iadd, 1) := by decide +kernel
theorem dX5_of_13 : decode cX5_of 13 = .ok (.iaload, 1) := by decide +kernel
theorem dX5_of_14 : decode cX5_of 14 = .ok (.ireturn, 1) := by decide +kernel
theorem dX5_setOf_0 : decode cX5_setOf 0 = .ok (.aload_n 0, 1) := by decide +kernel
theorem dX5_setOf_1 : decode cX5_setOf 1 = .ok (.getfield 7, 3) := by decide +kernel
theorem dX5_setOf_4 : decode cX5_setOf 4 = .ok (.bipush 17, 2) := by decide +kernel
theorem dX5_setOf_6 : decode cX5_setOf 6 = .ok (.bipush 11, 2) := by decide +kernel
theorem dX5_setOf_8 : decode cX5_setOf 8 = .ok (.iload_n 1, 1) := by decide +kernel
theorem dX5_setOf_9 : decode cX5_setOf 9 = .ok (.imul, 1) := by decide +kernel
theorem dX5_setOf_10 : decode cX5_setOf 10 = .ok (.iadd, 1) := by decide +kernel
theorem dX5_setOf_11 : decode cX5_setOf 11 = .ok (.iload_n 2, 1) := by decide +kernel
theorem dX5_setOf_12 : decode cX5_setOf 12 = .ok (.iadd, 1) := by decide +kernel
theorem dX5_setOf_13 : decode cX5_setOf 13 = .ok (.iload_n 3, 1) := by decide +kernel
theorem dX5_setOf_14 : decode cX5_setOf 14 = .ok (.iastore, 1) := by decide +kernel
theorem dX5_setOf_15 : decode cX5_setOf 15 = .ok (.return_, 1) := by decide +kernel
theorem dX5_crowsOn_0 : decode cX5_crowsOn 0 = .ok (.iconst 0, 1) := by decide +kernel
end
section
theorem dX5_crowsOn_1 : decode cX5_crowsOn 1 = .ok (.istore_n 2, 1) := by decide +kernel
theorem dX5_crowsOn_2 : decode cX5_crowsOn 2 = .ok (.iconst 0, 1) := by decide +kernel
theorem dX5_crowsOn_3 : decode cX5_crowsOn 3 = .ok (.istore_n 3, 1) := by decide +kernel
theorem dX5_crowsOn_4 : decode cX5_crowsOn 4 = .ok (.iload_n 3, 1) := by decide +kernel
theorem dX5_crowsOn_5 : decode cX5_crowsOn 5 = .ok (.iconst 4, 1) := by decide +kernel
theorem dX5_crowsOn_6 : decode cX5_crowsOn 6 = .ok (.if_icmp .ge 20, 3) := by decide +kernel
theorem dX5_crowsOn_9 : decode cX5_crowsOn 9 = .ok (.iload_n 2, 1) := by decide +kernel
theorem dX5_crowsOn_10 : decode cX5_crowsOn 10 = .ok (.aload_n 0, 1) := by decide +kernel
theorem dX5_crowsOn_11 : decode cX5_crowsOn 11 = .ok (.iload_n 1, 1) := by decide +kernel
theorem dX5_crowsOn_12 : decode cX5_crowsOn 12 = .ok (.iconst 5, 1) := by decide +kernel
theorem dX5_crowsOn_13 : decode cX5_crowsOn 13 = .ok (.iload_n 3, 1) := by decide +kernel
theorem dX5_crowsOn_14 : decode cX5_crowsOn 14 = .ok (.iadd, 1) := by decide +kernel
theorem dX5_crowsOn_15 : decode cX5_crowsOn 15 = .ok (.invokevirtual 29, 3) := by decide +kernel
theorem dX5_crowsOn_18 : decode cX5_crowsOn 18 = .ok (.iadd, 1) := by decide +kernel
theorem dX5_crowsOn_19 : decode cX5_crowsOn 19 = .ok (.istore_n 2, 1) := by decide +kernel
theorem dX5_crowsOn_20 : decode cX5_crowsOn 20 = .ok (.iinc 3 1, 3) := by decide +kernel
theorem dX5_crowsOn_23 : decode cX5_crowsOn 23 = .ok (.goto (-19), 3) := by decide +kernel
theorem dX5_crowsOn_26 : decode cX5_crowsOn 26 = .ok (.iload_n 2, 1) := by decide +kernel
theorem dX5_crowsOn_27 : decode cX5_crowsOn 27 = .ok (.ireturn, 1) := by decide +kernel
theorem dX5_putAside_0 : decode cX5_putAside 0 = .ok (.iconst 0, 1) := by decide +kernel
theorem dX5_putAside_1 : decode cX5_putAside 1 = .ok (.istore_n 1, 1) := by decide +kernel
theorem dX5_putAside_2 : decode cX5_putAside 2 = .ok (.iload_n 1, 1) := by decide +kernel
theorem dX5_putAside_3 : decode cX5_putAside 3 = .ok (.sipush 149, 3) := by decide +kernel
theorem dX5_putAside_6 : decode cX5_putAside 6 = .ok (.if_icmp .ge 21, 3) := by decide +kernel
theorem dX5_putAside_9 : decode cX5_putAside 9 = .ok (.aload_n 0, 1) := by decide +kernel
theorem dX5_putAside_10 : decode cX5_putAside 10 = .ok (.getfield 13, 3) := by decide +kernel
theorem dX5_putAside_13 : decode cX5_putAside 13 = .ok (.iload_n 1, 1) := by decide +kernel
theorem dX5_putAside_14 : decode cX5_putAside 14 = .ok (.aload_n 0, 1) := by decide +kernel
theorem dX5_putAside_15 : decode cX5_putAside 15 = .ok (.getfield 7, 3) := by decide +kernel
theorem dX5_putAside_18 : decode cX5_putAside 18 = .ok (.iload_n 1, 1) := by decide +kernel
theorem dX5_putAside_19 : decode cX5_putAside 19 = .ok (.iaload, 1) := by decide +kernel
theorem dX5_putAside_20 : decode cX5_putAside 20 = .ok (.iastore, 1) := by decide +kernel
theorem dX5_putAside_21 : decode cX5_putAside 21 = .ok (.iinc 1 1, 3) := by decide +kernel
theorem dX5_putAside_24 : decode cX5_putAside 24 = .ok (.goto (-22), 3) := by decide +kernel
theorem dX5_putAside_27 : decode cX5_putAside 27 = .ok (.return_, 1) := by decide +kernel
theorem dX5_takeBack_0 : decode cX5_takeBack 0 = .ok (.iconst 0, 1) := by decide +kernel
theorem dX5_takeBack_1 : decode cX5_takeBack 1 = .ok (.istore_n 1, 1) := by decide +kernel
theorem dX5_takeBack_2 : decode cX5_takeBack 2 = .ok (.iload_n 1, 1) := by decide +kernel
theorem dX5_takeBack_3 : decode cX5_takeBack 3 = .ok (.sipush 149, 3) := by decide +kernel
theorem dX5_takeBack_6 : decode cX5_takeBack 6 = .ok (.if_icmp .ge 21, 3) := by decide +kernel
theorem dX5_takeBack_9 : decode cX5_takeBack 9 = .ok (.aload_n 0, 1) := by decide +kernel
theorem dX5_takeBack_10 : decode cX5_takeBack 10 = .ok (.getfield 7, 3) := by decide +kernel
theorem dX5_takeBack_13 : decode cX5_takeBack 13 = .ok (.iload_n 1, 1) := by decide +kernel
theorem dX5_takeBack_14 : decode cX5_takeBack 14 = .ok (.aload_n 0, 1) := by decide +kernel
theorem dX5_takeBack_15 : decode cX5_takeBack 15 = .ok (.getfield 13, 3) := by decide +kernel
theorem dX5_takeBack_18 : decode cX5_takeBack 18 = .ok (.iload_n 1, 1) := by decide +kernel
theorem dX5_takeBack_19 : decode cX5_takeBack 19 = .ok (.iaload, 1) := by decide +kernel
theorem dX5_takeBack_20 : decode cX5_takeBack 20 = .ok (.iastore, 1) := by decide +kernel
theorem dX5_takeBack_21 : decode cX5_takeBack 21 = .ok (.iinc 1 1, 3) := by decide +kernel
theorem dX5_takeBack_24 : decode cX5_takeBack 24 = .ok (.goto (-22), 3) := by decide +kernel
theorem dX5_takeBack_27 : decode cX5_takeBack 27 = .ok (.return_, 1) := by decide +kernel
theorem dX5_push_0 : decode cX5_push 0 = .ok (.aload_n 0, 1) := by decide +kernel
theorem dX5_push_1 : decode cX5_push 1 = .ok (.getfield 33, 3) := by decide +kernel
theorem dX5_push_4 : decode cX5_push 4 = .ok (.iconst 4, 1) := by decide +kernel
theorem dX5_push_5 : decode cX5_push 5 = .ok (.if_icmp .ne 44, 3) := by decide +kernel
theorem dX5_push_8 : decode cX5_push 8 = .ok (.iconst 0, 1) := by decide +kernel
theorem dX5_push_9 : decode cX5_push 9 = .ok (.istore_n 1, 1) := by decide +kernel
theorem dX5_push_10 : decode cX5_push 10 = .ok (.iload_n 1, 1) := by decide +kernel
theorem dX5_push_11 : decode cX5_push 11 = .ok (.sipush 447, 3) := by decide +kernel
theorem dX5_push_14 : decode cX5_push 14 = .ok (.if_icmp .ge 25, 3) := by decide +kernel
theorem dX5_push_17 : decode cX5_push 17 = .ok (.aload_n 0, 1) := by decide +kernel
theorem dX5_push_18 : decode cX5_push 18 = .ok (.getfield 16, 3) := by decide +kernel
theorem dX5_push_21 : decode cX5_push 21 = .ok (.iload_n 1, 1) := by decide +kernel
theorem dX5_push_22 : decode cX5_push 22 = .ok (.aload_n 0, 1) := by decide +kernel
theorem dX5_push_23 : decode cX5_push 23 = .ok (.getfield 16, 3) := by decide +kernel
theorem dX5_push_26 : decode cX5_push 26 = .ok (.iload_n 1, 1) := by decide +kernel
theorem dX5_push_27 : decode cX5_push 27 = .ok (.sipush 149, 3) := by decide +kernel
theorem dX5_push_30 : decode cX5_push 30 = .ok (.iadd, 1) := by decide +kernel
theorem dX5_push_31 : decode cX5_push 31 = .ok (.iaload, 1) := by decide +kernel
theorem dX5_push_32 : decode cX5_push 32 = .ok (.iastore, 1) := by decide +kernel
theorem dX5_push_33 : decode cX5_push 33 = .ok (.iinc 1 1, 3) := by decide +kernel
theorem dX5_push_36 : decode cX5_push 36 = .ok (.goto (-26), 3) := by decide +kernel
theorem dX5_push_39 : decode cX5_push 39 = .ok (.aload_n 0, 1) := by decide +kernel
theorem dX5_push_40 : decode cX5_push 40 = .ok (.dup, 1) := by decide +kernel
theorem dX5_push_41 : decode cX5_push 41 = .ok (.getfield 33, 3) := by decide +kernel
theorem dX5_push_44 : decode cX5_push 44 = .ok (.iconst 1, 1) := by decide +kernel
theorem dX5_push_45 : decode cX5_push 45 = .ok (.isub, 1) := by decide +kernel
theorem dX5_push_46 : decode cX5_push 46 = .ok (.putfield 33, 3) := by decide +kernel
theorem dX5_push_49 : decode cX5_push 49 = .ok (.iconst 0, 1) := by decide +kernel
theorem dX5_push_50 : decode cX5_push 50 = .ok (.istore_n 1, 1) := by decide +kernel
theorem dX5_push_51 : decode cX5_push 51 = .ok (.iload_n 1, 1) := by decide +kernel
theorem dX5_push_52 : decode cX5_push 52 = .ok (.sipush 149, 3) := by decide +kernel
theorem dX5_push_55 : decode cX5_push 55 = .ok (.if_icmp .ge 30, 3) := by decide +kernel
theorem dX5_push_58 : decode cX5_push 58 = .ok (.aload_n 0, 1) := by decide +kernel
theorem dX5_push_59 : decode cX5_push 59 = .ok (.getfield 16, 3) := by decide +kernel
theorem dX5_push_62 : decode cX5_push 62 = .ok (.aload_n 0, 1) := by decide +kernel
theorem dX5_push_63 : decode cX5_push 63 = .ok (.getfield 33, 3) := by decide +kernel
theorem dX5_push_66 : decode cX5_push 66 = .ok (.sipush 149, 3) := by decide +kernel
theorem dX5_push_69 : decode cX5_push 69 = .ok (.imul, 1) := by decide +kernel
theorem dX5_push_70 : decode cX5_push 70 = .ok (.iload_n 1, 1) := by decide +kernel
theorem dX5_push_71 : decode cX5_push 71 = .ok (.iadd, 1) := by decide +kernel
theorem dX5_push_72 : decode cX5_push 72 = .ok (.aload_n 0, 1) := by decide +kernel
theorem dX5_push_73 : decode cX5_push 73 = .ok (.getfield 13, 3) := by decide +kernel
theorem dX5_push_76 : decode cX5_push 76 = .ok (.iload_n 1, 1) := by decide +kernel
theorem dX5_push_77 : decode cX5_push 77 = .ok (.iaload, 1) := by decide +kernel
theorem dX5_push_78 : decode cX5_push 78 = .ok (.iastore, 1) := by decide +kernel
theorem dX5_push_79 : decode cX5_push 79 = .ok (.iinc 1 1, 3) := by decide +kernel
theorem dX5_push_82 : decode cX5_push 82 = .ok (.goto (-31), 3) := by decide +kernel
theorem dX5_push_85 : decode cX5_push 85 = .ok (.aload_n 0, 1) := by decide +kernel
theorem dX5_push_86 : decode cX5_push 86 = .ok (.dup, 1) := by decide +kernel
theorem dX5_push_87 : decode cX5_push 87 = .ok (.getfield 33, 3) := by decide +kernel
theorem dX5_push_90 : decode cX5_push 90 = .ok (.iconst 1, 1) := by decide +kernel
theorem dX5_push_91 : decode cX5_push 91 = .ok (.iadd, 1) := by decide +kernel
theorem dX5_push_92 : decode cX5_push 92 = .ok (.putfield 33, 3) := by decide +kernel
theorem dX5_push_95 : decode cX5_push 95 = .ok (.return_, 1) := by decide +kernel
theorem dX5_isNothing_0 : decode cX5_isNothing 0 = .ok (.iload_n 0, 1) := by decide +kernel
theorem dX5_isNothing_1 : decode cX5_isNothing 1 = .ok (.bipush (-5), 2) := by decide +kernel
theorem dX5_isNothing_3 : decode cX5_isNothing 3 = .ok (.iconst (-1), 1) := by decide +kernel
theorem dX5_isNothing_4 : decode cX5_isNothing 4 = .ok (.invokestatic 25, 3) := by decide +kernel
theorem dX5_isNothing_7 : decode cX5_isNothing 7 = .ok (.ireturn, 1) := by decide +kernel
theorem dX5_recorded_0 : decode cX5_recorded 0 = .ok (.iload_n 1, 1) := by decide +kernel
theorem dX5_recorded_1 : decode cX5_recorded 1 = .ok (.invokestatic 37, 3) := by decide +kernel
theorem dX5_recorded_4 : decode cX5_recorded 4 = .ok (.ifCond .ne 7, 3) := by decide +kernel
theorem dX5_recorded_7 : decode cX5_recorded 7 = .ok (.aload_n 0, 1) := by decide +kernel
theorem dX5_recorded_8 : decode cX5_recorded 8 = .ok (.invokevirtual 41, 3) := by decide +kernel
theorem dX5_recorded_11 : decode cX5_recorded 11 = .ok (.iload_n 1, 1) := by decide +kernel
theorem dX5_recorded_12 : decode cX5_recorded 12 = .ok (.ireturn, 1) := by decide +kernel
theorem dX5_undo_0 : decode cX5_undo 0 = .ok (.aload_n 0, 1) := by decide +kernel
theorem dX5_undo_1 : decode cX5_undo 1 = .ok (.getfield 33, 3) := by decide +kernel
theorem dX5_undo_4 : decode cX5_undo 4 = .ok (.ifCond .ne 6, 3) := by decide +kernel
theorem dX5_undo_7 : decode cX5_undo 7 = .ok (.bipush (-5), 2) := by decide +kernel
theorem dX5_undo_9 : decode cX5_undo 9 = .ok (.ireturn, 1) := by decide +kernel
theorem dX5_undo_10 : decode cX5_undo 10 = .ok (.aload_n 0, 1) := by decide +kernel
theorem dX5_undo_11 : decode cX5_undo 11 = .ok (.dup, 1) := by decide +kernel
theorem dX5_undo_12 : decode cX5_undo 12 = .ok (.getfield 33, 3) := by decide +kernel
theorem dX5_undo_15 : decode cX5_undo 15 = .ok (.iconst 1, 1) := by decide +kernel
theorem dX5_undo_16 : decode cX5_undo 16 = .ok (.isub, 1) := by decide +kernel
theorem dX5_undo_17 : decode cX5_undo 17 = .ok (.putfield 33, 3) := by decide +kernel
theorem dX5_undo_20 : decode cX5_undo 20 = .ok (.iconst 0, 1) := by decide +kernel
theorem dX5_undo_21 : decode cX5_undo 21 = .ok (.istore_n 1, 1) := by decide +kernel
theorem dX5_undo_22 : decode cX5_undo 22 = .ok (.iload_n 1, 1) := by decide +kernel
theorem dX5_undo_23 : decode cX5_undo 23 = .ok (.sipush 149, 3) := by decide +kernel
theorem dX5_undo_26 : decode cX5_undo 26 = .ok (.if_icmp .ge 30, 3) := by decide +kernel
theorem dX5_undo_29 : decode cX5_undo 29 = .ok (.aload_n 0, 1) := by decide +kernel
theorem dX5_undo_30 : decode cX5_undo 30 = .ok (.getfield 7, 3) := by decide +kernel
theorem dX5_undo_33 : decode cX5_undo 33 = .ok (.iload_n 1, 1) := by decide +kernel
theorem dX5_undo_34 : decode cX5_undo 34 = .ok (.aload_n 0, 1) := by decide +kernel
theorem dX5_undo_35 : decode cX5_undo 35 = .ok (.getfield 16, 3) := by decide +kernel
theorem dX5_undo_38 : decode cX5_undo 38 = .ok (.aload_n 0, 1) := by decide +kernel
theorem dX5_undo_39 : decode cX5_undo 39 = .ok (.getfield 33, 3) := by decide +kernel
theorem dX5_undo_42 : decode cX5_undo 42 = .ok (.sipush 149, 3) := by decide +kernel
theorem dX5_undo_45 : decode cX5_undo 45 = .ok (.imul, 1) := by decide +kernel
theorem dX5_undo_46 : decode cX5_undo 46 = .ok (.iload_n 1, 1) := by decide +kernel
theorem dX5_undo_47 : decode cX5_undo 47 = .ok (.iadd, 1) := by decide +kernel
theorem dX5_undo_48 : decode cX5_undo 48 = .ok (.iaload, 1) := by decide +kernel
theorem dX5_undo_49 : decode cX5_undo 49 = .ok (.iastore, 1) := by decide +kernel
theorem dX5_undo_50 : decode cX5_undo 50 = .ok (.iinc 1 1, 3) := by decide +kernel
theorem dX5_undo_53 : decode cX5_undo 53 = .ok (.goto (-31), 3) := by decide +kernel
theorem dX5_undo_56 : decode cX5_undo 56 = .ok (.aload_n 0, 1) := by decide +kernel
theorem dX5_undo_57 : decode cX5_undo 57 = .ok (.getfield 33, 3) := by decide +kernel
theorem dX5_undo_60 : decode cX5_undo 60 = .ok (.ireturn, 1) := by decide +kernel
theorem dX5_keep_0 : decode cX5_keep 0 = .ok (.iconst 0, 1) := by decide +kernel
theorem dX5_keep_1 : decode cX5_keep 1 = .ok (.istore_n 1, 1) := by decide +kernel
theorem dX5_keep_2 : decode cX5_keep 2 = .ok (.iload_n 1, 1) := by decide +kernel
theorem dX5_keep_3 : decode cX5_keep 3 = .ok (.sipush 149, 3) := by decide +kernel
theorem dX5_keep_6 : decode cX5_keep 6 = .ok (.if_icmp .ge 21, 3) := by decide +kernel
theorem dX5_keep_9 : decode cX5_keep 9 = .ok (.aload_n 0, 1) := by decide +kernel
theorem dX5_keep_10 : decode cX5_keep 10 = .ok (.getfield 19, 3) := by decide +kernel
theorem dX5_keep_13 : decode cX5_keep 13 = .ok (.iload_n 1, 1) := by decide +kernel
theorem dX5_keep_14 : decode cX5_keep 14 = .ok (.aload_n 0, 1) := by decide +kernel
theorem dX5_keep_15 : decode cX5_keep 15 = .ok (.getfield 7, 3) := by decide +kernel
theorem dX5_keep_18 : decode cX5_keep 18 = .ok (.iload_n 1, 1) := by decide +kernel
theorem dX5_keep_19 : decode cX5_keep 19 = .ok (.iaload, 1) := by decide +kernel
theorem dX5_keep_20 : decode cX5_keep 20 = .ok (.iastore, 1) := by decide +kernel
theorem dX5_keep_21 : decode cX5_keep 21 = .ok (.iinc 1 1, 3) := by decide +kernel
theorem dX5_keep_24 : decode cX5_keep 24 = .ok (.goto (-22), 3) := by decide +kernel
theorem dX5_keep_27 : decode cX5_keep 27 = .ok (.aload_n 0, 1) := by decide +kernel
theorem dX5_keep_28 : decode cX5_keep 28 = .ok (.iconst 1, 1) := by decide +kernel
theorem dX5_keep_29 : decode cX5_keep 29 = .ok (.putfield 44, 3) := by decide +kernel
theorem dX5_keep_32 : decode cX5_keep 32 = .ok (.aload_n 0, 1) := by decide +kernel
theorem dX5_keep_33 : decode cX5_keep 33 = .ok (.getfield 7, 3) := by decide +kernel
theorem dX5_keep_36 : decode cX5_keep 36 = .ok (.iconst 2, 1) := by decide +kernel
theorem dX5_keep_37 : decode cX5_keep 37 = .ok (.iaload, 1) := by decide +kernel
theorem dX5_keep_38 : decode cX5_keep 38 = .ok (.ireturn, 1) := by decide +kernel
theorem dX5_restore_0 : decode cX5_restore 0 = .ok (.aload_n 0, 1) := by decide +kernel
theorem dX5_restore_1 : decode cX5_restore 1 = .ok (.getfield 44, 3) := by decide +kernel
theorem dX5_restore_4 : decode cX5_restore 4 = .ok (.ifCond .ne 6, 3) := by decide +kernel
theorem dX5_restore_7 : decode cX5_restore 7 = .ok (.bipush (-5), 2) := by decide +kernel
theorem dX5_restore_9 : decode cX5_restore 9 = .ok (.ireturn, 1) := by decide +kernel
theorem dX5_restore_10 : decode cX5_restore 10 = .ok (.aload_n 0, 1) := by decide +kernel
theorem dX5_restore_11 : decode cX5_restore 11 = .ok (.invokevirtual 48, 3) := by decide +kernel
theorem dX5_restore_14 : decode cX5_restore 14 = .ok (.aload_n 0, 1) := by decide +kernel
theorem dX5_restore_15 : decode cX5_restore 15 = .ok (.invokevirtual 41, 3) := by decide +kernel
theorem dX5_restore_18 : decode cX5_restore 18 = .ok (.iconst 0, 1) := by decide +kernel
theorem dX5_restore_19 : decode cX5_restore 19 = .ok (.istore_n 1, 1) := by decide +kernel
theorem dX5_restore_20 : decode cX5_restore 20 = .ok (.iload_n 1, 1) := by decide +kernel
theorem dX5_restore_21 : decode cX5_restore 21 = .ok (.sipush 149, 3) := by decide +kernel
theorem dX5_restore_24 : decode cX5_restore 24 = .ok (.if_icmp .ge 21, 3) := by decide +kernel
theorem dX5_restore_27 : decode cX5_restore 27 = .ok (.aload_n 0, 1) := by decide +kernel
theorem dX5_restore_28 : decode cX5_restore 28 = .ok (.getfield 7, 3) := by decide +kernel
theorem dX5_restore_31 : decode cX5_restore 31 = .ok (.iload_n 1, 1) := by decide +kernel
theorem dX5_restore_32 : decode cX5_restore 32 = .ok (.aload_n 0, 1) := by decide +kernel
theorem dX5_restore_33 : decode cX5_restore 33 = .ok (.getfield 19, 3) := by decide +kernel
theorem dX5_restore_36 : decode cX5_restore 36 = .ok (.iload_n 1, 1) := by decide +kernel
theorem dX5_restore_37 : decode cX5_restore 37 = .ok (.iaload, 1) := by decide +kernel
theorem dX5_restore_38 : decode cX5_restore 38 = .ok (.iastore, 1) := by decide +kernel
theorem dX5_restore_39 : decode cX5_restore 39 = .ok (.iinc 1 1, 3) := by decide +kernel
theorem dX5_restore_42 : decode cX5_restore 42 = .ok (.goto (-22), 3) := by decide +kernel
theorem dX5_restore_45 : decode cX5_restore 45 = .ok (.aload_n 0, 1) := by decide +kernel
theorem dX5_restore_46 : decode cX5_restore 46 = .ok (.getfield 7, 3) := by decide +kernel
theorem dX5_restore_49 : decode cX5_restore 49 = .ok (.iconst 2, 1) := by decide +kernel
theorem dX5_restore_50 : decode cX5_restore 50 = .ok (.iaload, 1) := by decide +kernel
theorem dX5_restore_51 : decode cX5_restore 51 = .ok (.ireturn, 1) := by decide +kernel
theorem dX5_weighs_0 : decode cX5_weighs 0 = .ok (.iconst 0, 1) := by decide +kernel
theorem dX5_weighs_1 : decode cX5_weighs 1 = .ok (.istore 4, 2) := by decide +kernel
theorem dX5_weighs_3 : decode cX5_weighs 3 = .ok (.iconst 0, 1) := by decide +kernel
theorem dX5_weighs_4 : decode cX5_weighs 4 = .ok (.istore 5, 2) := by decide +kernel
theorem dX5_weighs_6 : decode cX5_weighs 6 = .ok (.iload 5, 2) := by decide +kernel
theorem dX5_weighs_8 : decode cX5_weighs 8 = .ok (.aload_n 0, 1) := by decide +kernel
theorem dX5_weighs_9 : decode cX5_weighs 9 = .ok (.getfield 7, 3) := by decide +kernel
theorem dX5_weighs_12 : decode cX5_weighs 12 = .ok (.bipush 10, 2) := by decide +kernel
theorem dX5_weighs_14 : decode cX5_weighs 14 = .ok (.iaload, 1) := by decide +kernel
theorem dX5_weighs_15 : decode cX5_weighs 15 = .ok (.if_icmp .ge 94, 3) := by decide +kernel
theorem dX5_weighs_18 : decode cX5_weighs 18 = .ok (.aload_n 0, 1) := by decide +kernel
theorem dX5_weighs_19 : decode cX5_weighs 19 = .ok (.iload 5, 2) := by decide +kernel
theorem dX5_weighs_21 : decode cX5_weighs 21 = .ok (.iconst 0, 1) := by decide +kernel
theorem dX5_weighs_22 : decode cX5_weighs 22 = .ok (.invokevirtual 29, 3) := by decide +kernel
theorem dX5_weighs_25 : decode cX5_weighs 25 = .ok (.iload_n 1, 1) := by decide +kernel
theorem dX5_weighs_26 : decode cX5_weighs 26 = .ok (.if_icmp .ne 7, 3) := by decide +kernel
theorem dX5_weighs_29 : decode cX5_weighs 29 = .ok (.iconst 1, 1) := by decide +kernel
theorem dX5_weighs_30 : decode cX5_weighs 30 = .ok (.goto 4, 3) := by decide +kernel
theorem dX5_weighs_33 : decode cX5_weighs 33 = .ok (.iconst 0, 1) := by decide +kernel
theorem dX5_weighs_34 : decode cX5_weighs 34 = .ok (.istore 6, 2) := by decide +kernel
theorem dX5_weighs_36 : decode cX5_weighs 36 = .ok (.iload 4, 2) := by decide +kernel
theorem dX5_weighs_38 : decode cX5_weighs 38 = .ok (.iload 6, 2) := by decide +kernel
theorem dX5_weighs_40 : decode cX5_weighs 40 = .ok (.ifCond .eq 32, 3) := by decide +kernel
theorem dX5_weighs_43 : decode cX5_weighs 43 = .ok (.aload_n 0, 1) := by decide +kernel
theorem dX5_weighs_44 : decode cX5_weighs 44 = .ok (.iload 5, 2) := by decide +kernel
theorem dX5_weighs_46 : decode cX5_weighs 46 = .ok (.iconst 3, 1) := by decide +kernel
theorem dX5_weighs_47 : decode cX5_weighs 47 = .ok (.invokevirtual 29, 3) := by decide +kernel
theorem dX5_weighs_50 : decode cX5_weighs 50 = .ok (.iload_n 2, 1) := by decide +kernel
theorem dX5_weighs_51 : decode cX5_weighs 51 = .ok (.if_icmp .ne 21, 3) := by decide +kernel
theorem dX5_weighs_54 : decode cX5_weighs 54 = .ok (.aload_n 0, 1) := by decide +kernel
theorem dX5_weighs_55 : decode cX5_weighs 55 = .ok (.iload 5, 2) := by decide +kernel
theorem dX5_weighs_57 : decode cX5_weighs 57 = .ok (.iconst 4, 1) := by decide +kernel
theorem dX5_weighs_58 : decode cX5_weighs 58 = .ok (.invokevirtual 29, 3) := by decide +kernel
theorem dX5_weighs_61 : decode cX5_weighs 61 = .ok (.aload_n 0, 1) := by decide +kernel
theorem dX5_weighs_62 : decode cX5_weighs 62 = .ok (.iload 5, 2) := by decide +kernel
theorem dX5_weighs_64 : decode cX5_weighs 64 = .ok (.iconst 1, 1) := by decide +kernel
theorem dX5_weighs_65 : decode cX5_weighs 65 = .ok (.invokevirtual 29, 3) := by decide +kernel
theorem dX5_weighs_68 : decode cX5_weighs 68 = .ok (.imul, 1) := by decide +kernel
theorem dX5_weighs_69 : decode cX5_weighs 69 = .ok (.goto 4, 3) := by decide +kernel
theorem dX5_weighs_72 : decode cX5_weighs 72 = .ok (.iconst 0, 1) := by decide +kernel
theorem dX5_weighs_73 : decode cX5_weighs 73 = .ok (.iadd, 1) := by decide +kernel
theorem dX5_weighs_74 : decode cX5_weighs 74 = .ok (.istore 4, 2) := by decide +kernel
theorem dX5_weighs_76 : decode cX5_weighs 76 = .ok (.iload 4, 2) := by decide +kernel
theorem dX5_weighs_78 : decode cX5_weighs 78 = .ok (.iload 6, 2) := by decide +kernel
theorem dX5_weighs_80 : decode cX5_weighs 80 = .ok (.ifCond .eq 19, 3) := by decide +kernel
theorem dX5_weighs_83 : decode cX5_weighs 83 = .ok (.aload_n 0, 1) := by decide +kernel
theorem dX5_weighs_84 : decode cX5_weighs 84 = .ok (.iload 5, 2) := by decide +kernel
theorem dX5_weighs_86 : decode cX5_weighs 86 = .ok (.iconst 5, 1) := by decide +kernel
theorem dX5_weighs_87 : decode cX5_weighs 87 = .ok (.iload_n 2, 1) := by decide +kernel
theorem dX5_weighs_88 : decode cX5_weighs 88 = .ok (.iadd, 1) := by decide +kernel
theorem dX5_weighs_89 : decode cX5_weighs 89 = .ok (.invokevirtual 29, 3) := by decide +kernel
theorem dX5_weighs_92 : decode cX5_weighs 92 = .ok (.iload_n 3, 1) := by decide +kernel
theorem dX5_weighs_93 : decode cX5_weighs 93 = .ok (.imul, 1) := by decide +kernel
theorem dX5_weighs_94 : decode cX5_weighs 94 = .ok (.iconst 4, 1) := by decide +kernel
theorem dX5_weighs_95 : decode cX5_weighs 95 = .ok (.imul, 1) := by decide +kernel
theorem dX5_weighs_96 : decode cX5_weighs 96 = .ok (.goto 4, 3) := by decide +kernel
theorem dX5_weighs_99 : decode cX5_weighs 99 = .ok (.iconst 0, 1) := by decide +kernel
theorem dX5_weighs_100 : decode cX5_weighs 100 = .ok (.iadd, 1) := by decide +kernel
theorem dX5_weighs_101 : decode cX5_weighs 101 = .ok (.istore 4, 2) := by decide +kernel
theorem dX5_weighs_103 : decode cX5_weighs 103 = .ok (.iinc 5 1, 3) := by decide +kernel
theorem dX5_weighs_106 : decode cX5_weighs 106 = .ok (.goto (-100), 3) := by decide +kernel
theorem dX5_weighs_109 : decode cX5_weighs 109 = .ok (.iload 4, 2) := by decide +kernel
theorem dX5_weighs_111 : decode cX5_weighs 111 = .ok (.ireturn, 1) := by decide +kernel
theorem dX5_speaker_0 : decode cX5_speaker 0 = .ok (.bipush (-5), 2) := by decide +kernel
theorem dX5_speaker_2 : decode cX5_speaker 2 = .ok (.istore_n 2, 1) := by decide +kernel
theorem dX5_speaker_3 : decode cX5_speaker 3 = .ok (.iconst 0, 1) := by decide +kernel
theorem dX5_speaker_4 : decode cX5_speaker 4 = .ok (.istore_n 3, 1) := by decide +kernel
theorem dX5_speaker_5 : decode cX5_speaker 5 = .ok (.iload_n 3, 1) := by decide +kernel
theorem dX5_speaker_6 : decode cX5_speaker 6 = .ok (.aload_n 0, 1) := by decide +kernel
theorem dX5_speaker_7 : decode cX5_speaker 7 = .ok (.getfield 7, 3) := by decide +kernel
theorem dX5_speaker_10 : decode cX5_speaker 10 = .ok (.bipush 10, 2) := by decide +kernel
theorem dX5_speaker_12 : decode cX5_speaker 12 = .ok (.iaload, 1) := by decide +kernel
theorem dX5_speaker_13 : decode cX5_speaker 13 = .ok (.if_icmp .ge 88, 3) := by decide +kernel
theorem dX5_speaker_16 : decode cX5_speaker 16 = .ok (.aload_n 0, 1) := by decide +kernel
theorem dX5_speaker_17 : decode cX5_speaker 17 = .ok (.iload_n 3, 1) := by decide +kernel
theorem dX5_speaker_18 : decode cX5_speaker 18 = .ok (.iconst 0, 1) := by decide +kernel
theorem dX5_speaker_19 : decode cX5_speaker 19 = .ok (.invokevirtual 29, 3) := by decide +kernel
theorem dX5_speaker_22 : decode cX5_speaker 22 = .ok (.iload_n 1, 1) := by decide +kernel
theorem dX5_speaker_23 : decode cX5_speaker 23 = .ok (.if_icmp .ne 72, 3) := by decide +kernel
theorem dX5_speaker_26 : decode cX5_speaker 26 = .ok (.iload_n 2, 1) := by decide +kernel
theorem dX5_speaker_27 : decode cX5_speaker 27 = .ok (.bipush (-5), 2) := by decide +kernel
theorem dX5_speaker_29 : decode cX5_speaker 29 = .ok (.if_icmp .eq 48, 3) := by decide +kernel
theorem dX5_speaker_32 : decode cX5_speaker 32 = .ok (.aload_n 0, 1) := by decide +kernel
theorem dX5_speaker_33 : decode cX5_speaker 33 = .ok (.iload_n 3, 1) := by decide +kernel
theorem dX5_speaker_34 : decode cX5_speaker 34 = .ok (.iconst 1, 1) := by decide +kernel
theorem dX5_speaker_35 : decode cX5_speaker 35 = .ok (.invokevirtual 29, 3) := by decide +kernel
theorem dX5_speaker_38 : decode cX5_speaker 38 = .ok (.aload_n 0, 1) := by decide +kernel
theorem dX5_speaker_39 : decode cX5_speaker 39 = .ok (.iload_n 2, 1) := by decide +kernel
theorem dX5_speaker_40 : decode cX5_speaker 40 = .ok (.iconst 1, 1) := by decide +kernel
theorem dX5_speaker_41 : decode cX5_speaker 41 = .ok (.invokevirtual 29, 3) := by decide +kernel
theorem dX5_speaker_44 : decode cX5_speaker 44 = .ok (.if_icmp .gt 33, 3) := by decide +kernel
theorem dX5_speaker_47 : decode cX5_speaker 47 = .ok (.aload_n 0, 1) := by decide +kernel
theorem dX5_speaker_48 : decode cX5_speaker 48 = .ok (.iload_n 3, 1) := by decide +kernel
theorem dX5_speaker_49 : decode cX5_speaker 49 = .ok (.iconst 1, 1) := by decide +kernel
theorem dX5_speaker_50 : decode cX5_speaker 50 = .ok (.invokevirtual 29, 3) := by decide +kernel
theorem dX5_speaker_53 : decode cX5_speaker 53 = .ok (.aload_n 0, 1) := by decide +kernel
theorem dX5_speaker_54 : decode cX5_speaker 54 = .ok (.iload_n 2, 1) := by decide +kernel
theorem dX5_speaker_55 : decode cX5_speaker 55 = .ok (.iconst 1, 1) := by decide +kernel
theorem dX5_speaker_56 : decode cX5_speaker 56 = .ok (.invokevirtual 29, 3) := by decide +kernel
theorem dX5_speaker_59 : decode cX5_speaker 59 = .ok (.if_icmp .ne 22, 3) := by decide +kernel
theorem dX5_speaker_62 : decode cX5_speaker 62 = .ok (.aload_n 0, 1) := by decide +kernel
theorem dX5_speaker_63 : decode cX5_speaker 63 = .ok (.iload_n 3, 1) := by decide +kernel
theorem dX5_speaker_64 : decode cX5_speaker 64 = .ok (.iconst 4, 1) := by decide +kernel
theorem dX5_speaker_65 : decode cX5_speaker 65 = .ok (.invokevirtual 29, 3) := by decide +kernel
theorem dX5_speaker_68 : decode cX5_speaker 68 = .ok (.aload_n 0, 1) := by decide +kernel
theorem dX5_speaker_69 : decode cX5_speaker 69 = .ok (.iload_n 2, 1) := by decide +kernel
theorem dX5_speaker_70 : decode cX5_speaker 70 = .ok (.iconst 4, 1) := by decide +kernel
theorem dX5_speaker_71 : decode cX5_speaker 71 = .ok (.invokevirtual 29, 3) := by decide +kernel
theorem dX5_speaker_74 : decode cX5_speaker 74 = .ok (.if_icmp .le 7, 3) := by decide +kernel
theorem dX5_speaker_77 : decode cX5_speaker 77 = .ok (.iconst 1, 1) := by decide +kernel
theorem dX5_speaker_78 : decode cX5_speaker 78 = .ok (.goto 4, 3) := by decide +kernel
theorem dX5_speaker_81 : decode cX5_speaker 81 = .ok (.iconst 0, 1) := by decide +kernel
theorem dX5_speaker_82 : decode cX5_speaker 82 = .ok (.istore 4, 2) := by decide +kernel
theorem dX5_speaker_84 : decode cX5_speaker 84 = .ok (.iload 4, 2) := by decide +kernel
theorem dX5_speaker_86 : decode cX5_speaker 86 = .ok (.ifCond .eq 7, 3) := by decide +kernel
theorem dX5_speaker_89 : decode cX5_speaker 89 = .ok (.iload_n 3, 1) := by decide +kernel
theorem dX5_speaker_90 : decode cX5_speaker 90 = .ok (.goto 4, 3) := by decide +kernel
theorem dX5_speaker_93 : decode cX5_speaker 93 = .ok (.iload_n 2, 1) := by decide +kernel
theorem dX5_speaker_94 : decode cX5_speaker 94 = .ok (.istore_n 2, 1) := by decide +kernel
theorem dX5_speaker_95 : decode cX5_speaker 95 = .ok (.iinc 3 1, 3) := by decide +kernel
theorem dX5_speaker_98 : decode cX5_speaker 98 = .ok (.goto (-93), 3) := by decide +kernel
theorem dX5_speaker_101 : decode cX5_speaker 101 = .ok (.iload_n 2, 1) := by decide +kernel
theorem dX5_speaker_102 : decode cX5_speaker 102 = .ok (.ireturn, 1) := by decide +kernel
theorem dX5_greatest_0 : decode cX5_greatest 0 = .ok (.iconst 0, 1) := by decide +kernel
theorem dX5_greatest_1 : decode cX5_greatest 1 = .ok (.istore_n 3, 1) := by decide +kernel
theorem dX5_greatest_2 : decode cX5_greatest 2 = .ok (.iconst 0, 1) := by decide +kernel
theorem dX5_greatest_3 : decode cX5_greatest 3 = .ok (.istore 4, 2) := by decide +kernel
theorem dX5_greatest_5 : decode cX5_greatest 5 = .ok (.iload 4, 2) := by decide +kernel
theorem dX5_greatest_7 : decode cX5_greatest 7 = .ok (.iconst 4, 1) := by decide +kernel
theorem dX5_greatest_8 : decode cX5_greatest 8 = .ok (.if_icmp .ge 34, 3) := by decide +kernel
theorem dX5_greatest_11 : decode cX5_greatest 11 = .ok (.aload_n 0, 1) := by decide +kernel
theorem dX5_greatest_12 : decode cX5_greatest 12 = .ok (.iload_n 1, 1) := by decide +kernel
theorem dX5_greatest_13 : decode cX5_greatest 13 = .ok (.iload 4, 2) := by decide +kernel
theorem dX5_greatest_15 : decode cX5_greatest 15 = .ok (.iload_n 2, 1) := by decide +kernel
theorem dX5_greatest_16 : decode cX5_greatest 16 = .ok (.invokevirtual 51, 3) := by decide +kernel
theorem dX5_greatest_19 : decode cX5_greatest 19 = .ok (.iload_n 3, 1) := by decide +kernel
theorem dX5_greatest_20 : decode cX5_greatest 20 = .ok (.if_icmp .le 14, 3) := by decide +kernel
theorem dX5_greatest_23 : decode cX5_greatest 23 = .ok (.aload_n 0, 1) := by decide +kernel
theorem dX5_greatest_24 : decode cX5_greatest 24 = .ok (.iload_n 1, 1) := by decide +kernel
theorem dX5_greatest_25 : decode cX5_greatest 25 = .ok (.iload 4, 2) := by decide +kernel
theorem dX5_greatest_27 : decode cX5_greatest 27 = .ok (.iload_n 2, 1) := by decide +kernel
theorem dX5_greatest_28 : decode cX5_greatest 28 = .ok (.invokevirtual 51, 3) := by decide +kernel
theorem dX5_greatest_31 : decode cX5_greatest 31 = .ok (.goto 4, 3) := by decide +kernel
theorem dX5_greatest_34 : decode cX5_greatest 34 = .ok (.iload_n 3, 1) := by decide +kernel
theorem dX5_greatest_35 : decode cX5_greatest 35 = .ok (.istore_n 3, 1) := by decide +kernel
theorem dX5_greatest_36 : decode cX5_greatest 36 = .ok (.iinc 4 1, 3) := by decide +kernel
theorem dX5_greatest_39 : decode cX5_greatest 39 = .ok (.goto (-34), 3) := by decide +kernel
theorem dX5_greatest_42 : decode cX5_greatest 42 = .ok (.iload_n 3, 1) := by decide +kernel
theorem dX5_greatest_43 : decode cX5_greatest 43 = .ok (.ireturn, 1) := by decide +kernel
theorem dX5_leaders_0 : decode cX5_leaders 0 = .ok (.aload_n 0, 1) := by decide +kernel
theorem dX5_leaders_1 : decode cX5_leaders 1 = .ok (.iload_n 1, 1) := by decide +kernel
theorem dX5_leaders_2 : decode cX5_leaders 2 = .ok (.iload_n 2, 1) := by decide +kernel
theorem dX5_leaders_3 : decode cX5_leaders 3 = .ok (.invokevirtual 55, 3) := by decide +kernel
theorem dX5_leaders_6 : decode cX5_leaders 6 = .ok (.istore_n 3, 1) := by decide +kernel
theorem dX5_leaders_7 : decode cX5_leaders 7 = .ok (.iconst 0, 1) := by decide +kernel
theorem dX5_leaders_8 : decode cX5_leaders 8 = .ok (.istore 4, 2) := by decide +kernel
theorem dX5_leaders_10 : decode cX5_leaders 10 = .ok (.iconst 0, 1) := by decide +kernel
theorem dX5_leaders_11 : decode cX5_leaders 11 = .ok (.istore 5, 2) := by decide +kernel
theorem dX5_leaders_13 : decode cX5_leaders 13 = .ok (.iload 5, 2) := by decide +kernel
theorem dX5_leaders_15 : decode cX5_leaders 15 = .ok (.iconst 4, 1) := by decide +kernel
theorem dX5_leaders_16 : decode cX5_leaders 16 = .ok (.if_icmp .ge 38, 3) := by decide +kernel
theorem dX5_leaders_19 : decode cX5_leaders 19 = .ok (.iload 4, 2) := by decide +kernel
theorem dX5_leaders_21 : decode cX5_leaders 21 = .ok (.iload_n 3, 1) := by decide +kernel
theorem dX5_leaders_22 : decode cX5_leaders 22 = .ok (.ifCond .le 22, 3) := by decide +kernel
theorem dX5_leaders_25 : decode cX5_leaders 25 = .ok (.aload_n 0, 1) := by decide +kernel
theorem dX5_leaders_26 : decode cX5_leaders 26 = .ok (.iload_n 1, 1) := by decide +kernel
theorem dX5_leaders_27 : decode cX5_leaders 27 = .ok (.iload 5, 2) := by decide +kernel
theorem dX5_leaders_29 : decode cX5_leaders 29 = .ok (.iload_n 2, 1) := by decide +kernel
theorem dX5_leaders_30 : decode cX5_leaders 30 = .ok (.invokevirtual 51, 3) := by decide +kernel
theorem dX5_leaders_33 : decode cX5_leaders 33 = .ok (.iload_n 3, 1) := by decide +kernel
theorem dX5_leaders_34 : decode cX5_leaders 34 = .ok (.if_icmp .ne 10, 3) := by decide +kernel
theorem dX5_leaders_37 : decode cX5_leaders 37 = .ok (.iconst 1, 1) := by decide +kernel
theorem dX5_leaders_38 : decode cX5_leaders 38 = .ok (.iload 5, 2) := by decide +kernel
theorem dX5_leaders_40 : decode cX5_leaders 40 = .ok (.ishl, 1) := by decide +kernel
theorem dX5_leaders_41 : decode cX5_leaders 41 = .ok (.goto 4, 3) := by decide +kernel
theorem dX5_leaders_44 : decode cX5_leaders 44 = .ok (.iconst 0, 1) := by decide +kernel
theorem dX5_leaders_45 : decode cX5_leaders 45 = .ok (.ior, 1) := by decide +kernel
theorem dX5_leaders_46 : decode cX5_leaders 46 = .ok (.istore 4, 2) := by decide +kernel
theorem dX5_leaders_48 : decode cX5_leaders 48 = .ok (.iinc 5 1, 3) := by decide +kernel
theorem dX5_leaders_51 : decode cX5_leaders 51 = .ok (.goto (-38), 3) := by decide +kernel
theorem dX5_leaders_54 : decode cX5_leaders 54 = .ok (.iload 4, 2) := by decide +kernel
theorem dX5_leaders_56 : decode cX5_leaders 56 = .ok (.ireturn, 1) := by decide +kernel
theorem dX5_lowest_0 : decode cX5_lowest 0 = .ok (.iconst 0, 1) := by decide +kernel
theorem dX5_lowest_1 : decode cX5_lowest 1 = .ok (.istore_n 1, 1) := by decide +kernel
theorem dX5_lowest_2 : decode cX5_lowest 2 = .ok (.iload_n 0, 1) := by decide +kernel
theorem dX5_lowest_3 : decode cX5_lowest 3 = .ok (.iload_n 1, 1) := by decide +kernel
theorem dX5_lowest_4 : decode cX5_lowest 4 = .ok (.ishr, 1) := by decide +kernel
theorem dX5_lowest_5 : decode cX5_lowest 5 = .ok (.iconst 1, 1) := by decide +kernel
theorem dX5_lowest_6 : decode cX5_lowest 6 = .ok (.iand, 1) := by decide +kernel
theorem dX5_lowest_7 : decode cX5_lowest 7 = .ok (.ifCond .ne 9, 3) := by decide +kernel
theorem dX5_lowest_10 : decode cX5_lowest 10 = .ok (.iinc 1 1, 3) := by decide +kernel
theorem dX5_lowest_13 : decode cX5_lowest 13 = .ok (.goto (-11), 3) := by decide +kernel
theorem dX5_lowest_16 : decode cX5_lowest 16 = .ok (.iload_n 1, 1) := by decide +kernel
theorem dX5_lowest_17 : decode cX5_lowest 17 = .ok (.ireturn, 1) := by decide +kernel
theorem dX5_votes_0 : decode cX5_votes 0 = .ok (.aload_n 0, 1) := by decide +kernel
theorem dX5_votes_1 : decode cX5_votes 1 = .ok (.iload_n 1, 1) := by decide +kernel
theorem dX5_votes_2 : decode cX5_votes 2 = .ok (.iload_n 2, 1) := by decide +kernel
theorem dX5_votes_3 : decode cX5_votes 3 = .ok (.invokevirtual 58, 3) := by decide +kernel
theorem dX5_votes_6 : decode cX5_votes 6 = .ok (.istore_n 3, 1) := by decide +kernel
theorem dX5_votes_7 : decode cX5_votes 7 = .ok (.iload_n 3, 1) := by decide +kernel
theorem dX5_votes_8 : decode cX5_votes 8 = .ok (.ifCond .ne 6, 3) := by decide +kernel
theorem dX5_votes_11 : decode cX5_votes 11 = .ok (.bipush (-5), 2) := by decide +kernel
theorem dX5_votes_13 : decode cX5_votes 13 = .ok (.ireturn, 1) := by decide +kernel
theorem dX5_votes_14 : decode cX5_votes 14 = .ok (.aload_n 0, 1) := by decide +kernel
theorem dX5_votes_15 : decode cX5_votes 15 = .ok (.aload_n 0, 1) := by decide +kernel
theorem dX5_votes_16 : decode cX5_votes 16 = .ok (.iload_n 1, 1) := by decide +kernel
theorem dX5_votes_17 : decode cX5_votes 17 = .ok (.invokevirtual 61, 3) := by decide +kernel
theorem dX5_votes_20 : decode cX5_votes 20 = .ok (.iconst 3, 1) := by decide +kernel
theorem dX5_votes_21 : decode cX5_votes 21 = .ok (.invokevirtual 29, 3) := by decide +kernel
theorem dX5_votes_24 : decode cX5_votes 24 = .ok (.istore 4, 2) := by decide +kernel
theorem dX5_votes_26 : decode cX5_votes 26 = .ok (.iload_n 3, 1) := by decide +kernel
theorem dX5_votes_27 : decode cX5_votes 27 = .ok (.iload 4, 2) := by decide +kernel
theorem dX5_votes_29 : decode cX5_votes 29 = .ok (.ishr, 1) := by decide +kernel
theorem dX5_votes_30 : decode cX5_votes 30 = .ok (.iconst 1, 1) := by decide +kernel
theorem dX5_votes_31 : decode cX5_votes 31 = .ok (.iand, 1) := by decide +kernel
theorem dX5_votes_32 : decode cX5_votes 32 = .ok (.iconst 1, 1) := by decide +kernel
theorem dX5_votes_33 : decode cX5_votes 33 = .ok (.if_icmp .ne 8, 3) := by decide +kernel
theorem dX5_votes_36 : decode cX5_votes 36 = .ok (.iload 4, 2) := by decide +kernel
theorem dX5_votes_38 : decode cX5_votes 38 = .ok (.goto 7, 3) := by decide +kernel
theorem dX5_votes_41 : decode cX5_votes 41 = .ok (.iload_n 3, 1) := by decide +kernel
theorem dX5_votes_42 : decode cX5_votes 42 = .ok (.invokestatic 65, 3) := by decide +kernel
theorem dX5_votes_45 : decode cX5_votes 45 = .ok (.ireturn, 1) := by decide +kernel
theorem dX5_allSeats_0 : decode cX5_allSeats 0 = .ok (.iconst 0, 1) := by decide +kernel
theorem dX5_allSeats_1 : decode cX5_allSeats 1 = .ok (.istore_n 1, 1) := by decide +kernel
theorem dX5_allSeats_2 : decode cX5_allSeats 2 = .ok (.iconst 0, 1) := by decide +kernel
theorem dX5_allSeats_3 : decode cX5_allSeats 3 = .ok (.istore_n 2, 1) := by decide +kernel
theorem dX5_allSeats_4 : decode cX5_allSeats 4 = .ok (.iload_n 2, 1) := by decide +kernel
theorem dX5_allSeats_5 : decode cX5_allSeats 5 = .ok (.bipush 6, 2) := by decide +kernel
theorem dX5_allSeats_7 : decode cX5_allSeats 7 = .ok (.if_icmp .ge 21, 3) := by decide +kernel
theorem dX5_allSeats_10 : decode cX5_allSeats 10 = .ok (.iload_n 1, 1) := by decide +kernel
theorem dX5_allSeats_11 : decode cX5_allSeats 11 = .ok (.aload_n 0, 1) := by decide +kernel
theorem dX5_allSeats_12 : decode cX5_allSeats 12 = .ok (.getfield 7, 3) := by decide +kernel
theorem dX5_allSeats_15 : decode cX5_allSeats 15 = .ok (.bipush 11, 2) := by decide +kernel
theorem dX5_allSeats_17 : decode cX5_allSeats 17 = .ok (.iload_n 2, 1) := by decide +kernel
theorem dX5_allSeats_18 : decode cX5_allSeats 18 = .ok (.iadd, 1) := by decide +kernel
theorem dX5_allSeats_19 : decode cX5_allSeats 19 = .ok (.iaload, 1) := by decide +kernel
theorem dX5_allSeats_20 : decode cX5_allSeats 20 = .ok (.iadd, 1) := by decide +kernel
theorem dX5_allSeats_21 : decode cX5_allSeats 21 = .ok (.istore_n 1, 1) := by decide +kernel
theorem dX5_allSeats_22 : decode cX5_allSeats 22 = .ok (.iinc 2 1, 3) := by decide +kernel
theorem dX5_allSeats_25 : decode cX5_allSeats 25 = .ok (.goto (-21), 3) := by decide +kernel
theorem dX5_allSeats_28 : decode cX5_allSeats 28 = .ok (.iload_n 1, 1) := by decide +kernel
theorem dX5_allSeats_29 : decode cX5_allSeats 29 = .ok (.ireturn, 1) := by decide +kernel
theorem dX5_decides_0 : decode cX5_decides 0 = .ok (.iconst 0, 1) := by decide +kernel
theorem dX5_decides_1 : decode cX5_decides 1 = .ok (.istore_n 2, 1) := by decide +kernel
theorem dX5_decides_2 : decode cX5_decides 2 = .ok (.iload_n 2, 1) := by decide +kernel
theorem dX5_decides_3 : decode cX5_decides 3 = .ok (.iconst 4, 1) := by decide +kernel
theorem dX5_decides_4 : decode cX5_decides 4 = .ok (.if_icmp .ge 67, 3) := by decide +kernel
theorem dX5_decides_7 : decode cX5_decides 7 = .ok (.iconst 0, 1) := by decide +kernel
theorem dX5_decides_8 : decode cX5_decides 8 = .ok (.istore_n 3, 1) := by decide +kernel
theorem dX5_decides_9 : decode cX5_decides 9 = .ok (.iconst 0, 1) := by decide +kernel
theorem dX5_decides_10 : decode cX5_decides 10 = .ok (.istore 4, 2) := by decide +kernel
theorem dX5_decides_12 : decode cX5_decides 12 = .ok (.iload 4, 2) := by decide +kernel
theorem dX5_decides_14 : decode cX5_decides 14 = .ok (.bipush 6, 2) := by decide +kernel
theorem dX5_decides_16 : decode cX5_decides 16 = .ok (.if_icmp .ge 37, 3) := by decide +kernel
theorem dX5_decides_19 : decode cX5_decides 19 = .ok (.iload_n 3, 1) := by decide +kernel
theorem dX5_decides_20 : decode cX5_decides 20 = .ok (.aload_n 0, 1) := by decide +kernel
theorem dX5_decides_21 : decode cX5_decides 21 = .ok (.iload 4, 2) := by decide +kernel
theorem dX5_decides_23 : decode cX5_decides 23 = .ok (.iload_n 1, 1) := by decide +kernel
theorem dX5_decides_24 : decode cX5_decides 24 = .ok (.invokevirtual 68, 3) := by decide +kernel
theorem dX5_decides_27 : decode cX5_decides 27 = .ok (.iload_n 2, 1) := by decide +kernel
theorem dX5_decides_28 : decode cX5_decides 28 = .ok (.if_icmp .ne 16, 3) := by decide +kernel
theorem dX5_decides_31 : decode cX5_decides 31 = .ok (.aload_n 0, 1) := by decide +kernel
theorem dX5_decides_32 : decode cX5_decides 32 = .ok (.getfield 7, 3) := by decide +kernel
theorem dX5_decides_35 : decode cX5_decides 35 = .ok (.bipush 11, 2) := by decide +kernel
theorem dX5_decides_37 : decode cX5_decides 37 = .ok (.iload 4, 2) := by decide +kernel
theorem dX5_decides_39 : decode cX5_decides 39 = .ok (.iadd, 1) := by decide +kernel
theorem dX5_decides_40 : decode cX5_decides 40 = .ok (.iaload, 1) := by decide +kernel
theorem dX5_decides_41 : decode cX5_decides 41 = .ok (.goto 4, 3) := by decide +kernel
theorem dX5_decides_44 : decode cX5_decides 44 = .ok (.iconst 0, 1) := by decide +kernel
theorem dX5_decides_45 : decode cX5_decides 45 = .ok (.iadd, 1) := by decide +kernel
theorem dX5_decides_46 : decode cX5_decides 46 = .ok (.istore_n 3, 1) := by decide +kernel
theorem dX5_decides_47 : decode cX5_decides 47 = .ok (.iinc 4 1, 3) := by decide +kernel
theorem dX5_decides_50 : decode cX5_decides 50 = .ok (.goto (-38), 3) := by decide +kernel
theorem dX5_decides_53 : decode cX5_decides 53 = .ok (.iconst 2, 1) := by decide +kernel
theorem dX5_decides_54 : decode cX5_decides 54 = .ok (.iload_n 3, 1) := by decide +kernel
theorem dX5_decides_55 : decode cX5_decides 55 = .ok (.imul, 1) := by decide +kernel
theorem dX5_decides_56 : decode cX5_decides 56 = .ok (.aload_n 0, 1) := by decide +kernel
theorem dX5_decides_57 : decode cX5_decides 57 = .ok (.invokevirtual 71, 3) := by decide +kernel
theorem dX5_decides_60 : decode cX5_decides 60 = .ok (.if_icmp .le 5, 3) := by decide +kernel
theorem dX5_decides_63 : decode cX5_decides 63 = .ok (.iload_n 2, 1) := by decide +kernel
theorem dX5_decides_64 : decode cX5_decides 64 = .ok (.ireturn, 1) := by decide +kernel
theorem dX5_decides_65 : decode cX5_decides 65 = .ok (.iinc 2 1, 3) := by decide +kernel
theorem dX5_decides_68 : decode cX5_decides 68 = .ok (.goto (-66), 3) := by decide +kernel
theorem dX5_decides_71 : decode cX5_decides 71 = .ok (.bipush (-5), 2) := by decide +kernel
theorem dX5_decides_73 : decode cX5_decides 73 = .ok (.ireturn, 1) := by decide +kernel
theorem dX5_blowOn_0 : decode cX5_blowOn 0 = .ok (.aload_n 0, 1) := by decide +kernel
theorem dX5_blowOn_1 : decode cX5_blowOn 1 = .ok (.getfield 7, 3) := by decide +kernel
theorem dX5_blowOn_4 : decode cX5_blowOn 4 = .ok (.iconst 4, 1) := by decide +kernel
theorem dX5_blowOn_5 : decode cX5_blowOn 5 = .ok (.iaload, 1) := by decide +kernel
theorem dX5_blowOn_6 : decode cX5_blowOn 6 = .ok (.aload_n 0, 1) := by decide +kernel
theorem dX5_blowOn_7 : decode cX5_blowOn 7 = .ok (.iload_n 1, 1) := by decide +kernel
theorem dX5_blowOn_8 : decode cX5_blowOn 8 = .ok (.iconst 4, 1) := by decide +kernel
theorem dX5_blowOn_9 : decode cX5_blowOn 9 = .ok (.invokevirtual 29, 3) := by decide +kernel
theorem dX5_blowOn_12 : decode cX5_blowOn 12 = .ok (.bipush 32, 2) := by decide +kernel
theorem dX5_blowOn_14 : decode cX5_blowOn 14 = .ok (.if_icmp .ge 7, 3) := by decide +kernel
theorem dX5_blowOn_17 : decode cX5_blowOn 17 = .ok (.iconst 1, 1) := by decide +kernel
theorem dX5_blowOn_18 : decode cX5_blowOn 18 = .ok (.goto 4, 3) := by decide +kernel
theorem dX5_blowOn_21 : decode cX5_blowOn 21 = .ok (.iconst 0, 1) := by decide +kernel
theorem dX5_blowOn_22 : decode cX5_blowOn 22 = .ok (.iadd, 1) := by decide +kernel
theorem dX5_blowOn_23 : decode cX5_blowOn 23 = .ok (.istore_n 2, 1) := by decide +kernel
theorem dX5_blowOn_24 : decode cX5_blowOn 24 = .ok (.aload_n 0, 1) := by decide +kernel
theorem dX5_blowOn_25 : decode cX5_blowOn 25 = .ok (.getfield 7, 3) := by decide +kernel
theorem dX5_blowOn_28 : decode cX5_blowOn 28 = .ok (.iconst 3, 1) := by decide +kernel
theorem dX5_blowOn_29 : decode cX5_blowOn 29 = .ok (.iaload, 1) := by decide +kernel
theorem dX5_blowOn_30 : decode cX5_blowOn 30 = .ok (.aload_n 0, 1) := by decide +kernel
theorem dX5_blowOn_31 : decode cX5_blowOn 31 = .ok (.iload_n 1, 1) := by decide +kernel
theorem dX5_blowOn_32 : decode cX5_blowOn 32 = .ok (.iconst 3, 1) := by decide +kernel
theorem dX5_blowOn_33 : decode cX5_blowOn 33 = .ok (.invokevirtual 29, 3) := by decide +kernel
theorem dX5_blowOn_36 : decode cX5_blowOn 36 = .ok (.isub, 1) := by decide +kernel
theorem dX5_blowOn_37 : decode cX5_blowOn 37 = .ok (.iconst 4, 1) := by decide +kernel
theorem dX5_blowOn_38 : decode cX5_blowOn 38 = .ok (.iadd, 1) := by decide +kernel
theorem dX5_blowOn_39 : decode cX5_blowOn 39 = .ok (.iconst 4, 1) := by decide +kernel
theorem dX5_blowOn_40 : decode cX5_blowOn 40 = .ok (.irem, 1) := by decide +kernel
theorem dX5_blowOn_41 : decode cX5_blowOn 41 = .ok (.istore_n 3, 1) := by decide +kernel
theorem dX5_blowOn_42 : decode cX5_blowOn 42 = .ok (.iload_n 2, 1) := by decide +kernel
theorem dX5_blowOn_43 : decode cX5_blowOn 43 = .ok (.aload_n 0, 1) := by decide +kernel
theorem dX5_blowOn_44 : decode cX5_blowOn 44 = .ok (.iload_n 1, 1) := by decide +kernel
theorem dX5_blowOn_45 : decode cX5_blowOn 45 = .ok (.iconst 2, 1) := by decide +kernel
theorem dX5_blowOn_46 : decode cX5_blowOn 46 = .ok (.invokevirtual 29, 3) := by decide +kernel
theorem dX5_blowOn_49 : decode cX5_blowOn 49 = .ok (.if_icmp .le 7, 3) := by decide +kernel
theorem dX5_blowOn_52 : decode cX5_blowOn 52 = .ok (.iload_n 3, 1) := by decide +kernel
theorem dX5_blowOn_53 : decode cX5_blowOn 53 = .ok (.ifCond .ne 5, 3) := by decide +kernel
theorem dX5_blowOn_56 : decode cX5_blowOn 56 = .ok (.iconst 0, 1) := by decide +kernel
theorem dX5_blowOn_57 : decode cX5_blowOn 57 = .ok (.ireturn, 1) := by decide +kernel
theorem dX5_blowOn_58 : decode cX5_blowOn 58 = .ok (.iload_n 3, 1) := by decide +kernel
theorem dX5_blowOn_59 : decode cX5_blowOn 59 = .ok (.iconst 3, 1) := by decide +kernel
theorem dX5_blowOn_60 : decode cX5_blowOn 60 = .ok (.if_icmp .ne 7, 3) := by decide +kernel
theorem dX5_blowOn_63 : decode cX5_blowOn 63 = .ok (.iconst 3, 1) := by decide +kernel
theorem dX5_blowOn_64 : decode cX5_blowOn 64 = .ok (.goto 4, 3) := by decide +kernel
theorem dX5_blowOn_67 : decode cX5_blowOn 67 = .ok (.iconst 1, 1) := by decide +kernel
theorem dX5_blowOn_68 : decode cX5_blowOn 68 = .ok (.istore 4, 2) := by decide +kernel
theorem dX5_blowOn_70 : decode cX5_blowOn 70 = .ok (.aload_n 0, 1) := by decide +kernel
theorem dX5_blowOn_71 : decode cX5_blowOn 71 = .ok (.iload_n 1, 1) := by decide +kernel
theorem dX5_blowOn_72 : decode cX5_blowOn 72 = .ok (.iconst 3, 1) := by decide +kernel
theorem dX5_blowOn_73 : decode cX5_blowOn 73 = .ok (.aload_n 0, 1) := by decide +kernel
theorem dX5_blowOn_74 : decode cX5_blowOn 74 = .ok (.iload_n 1, 1) := by decide +kernel
theorem dX5_blowOn_75 : decode cX5_blowOn 75 = .ok (.iconst 3, 1) := by decide +kernel
theorem dX5_blowOn_76 : decode cX5_blowOn 76 = .ok (.invokevirtual 29, 3) := by decide +kernel
theorem dX5_blowOn_79 : decode cX5_blowOn 79 = .ok (.iload 4, 2) := by decide +kernel
theorem dX5_blowOn_81 : decode cX5_blowOn 81 = .ok (.iadd, 1) := by decide +kernel
theorem dX5_blowOn_82 : decode cX5_blowOn 82 = .ok (.iconst 4, 1) := by decide +kernel
theorem dX5_blowOn_83 : decode cX5_blowOn 83 = .ok (.irem, 1) := by decide +kernel
theorem dX5_blowOn_84 : decode cX5_blowOn 84 = .ok (.invokevirtual 75, 3) := by decide +kernel
theorem dX5_blowOn_87 : decode cX5_blowOn 87 = .ok (.aload_n 0, 1) := by decide +kernel
theorem dX5_blowOn_88 : decode cX5_blowOn 88 = .ok (.iload_n 1, 1) := by decide +kernel
theorem dX5_blowOn_89 : decode cX5_blowOn 89 = .ok (.bipush 9, 2) := by decide +kernel
theorem dX5_blowOn_91 : decode cX5_blowOn 91 = .ok (.aload_n 0, 1) := by decide +kernel
theorem dX5_blowOn_92 : decode cX5_blowOn 92 = .ok (.iload_n 1, 1) := by decide +kernel
theorem dX5_blowOn_93 : decode cX5_blowOn 93 = .ok (.bipush 9, 2) := by decide +kernel
theorem dX5_blowOn_95 : decode cX5_blowOn 95 = .ok (.invokevirtual 29, 3) := by decide +kernel
theorem dX5_blowOn_98 : decode cX5_blowOn 98 = .ok (.iconst 1, 1) := by decide +kernel
theorem dX5_blowOn_99 : decode cX5_blowOn 99 = .ok (.iadd, 1) := by decide +kernel
theorem dX5_blowOn_100 : decode cX5_blowOn 100 = .ok (.invokevirtual 75, 3) := by decide +kernel
theorem dX5_blowOn_103 : decode cX5_blowOn 103 = .ok (.iconst 1, 1) := by decide +kernel
theorem dX5_blowOn_104 : decode cX5_blowOn 104 = .ok (.ireturn, 1) := by decide +kernel
theorem dX5_pluck_0 : decode cX5_pluck 0 = .ok (.aload_n 0, 1) := by decide +kernel
theorem dX5_pluck_1 : decode cX5_pluck 1 = .ok (.iload_n 1, 1) := by decide +kernel
theorem dX5_pluck_2 : decode cX5_pluck 2 = .ok (.invokevirtual 79, 3) := by decide +kernel
theorem dX5_pluck_5 : decode cX5_pluck 5 = .ok (.istore_n 2, 1) := by decide +kernel
theorem dX5_pluck_6 : decode cX5_pluck 6 = .ok (.aload_n 0, 1) := by decide +kernel
theorem dX5_pluck_7 : decode cX5_pluck 7 = .ok (.iload_n 1, 1) := by decide +kernel
theorem dX5_pluck_8 : decode cX5_pluck 8 = .ok (.iconst 4, 1) := by decide +kernel
theorem dX5_pluck_9 : decode cX5_pluck 9 = .ok (.invokevirtual 29, 3) := by decide +kernel
theorem dX5_pluck_12 : decode cX5_pluck 12 = .ok (.istore_n 3, 1) := by decide +kernel
theorem dX5_pluck_13 : decode cX5_pluck 13 = .ok (.iload_n 2, 1) := by decide +kernel
theorem dX5_pluck_14 : decode cX5_pluck 14 = .ok (.iload_n 3, 1) := by decide +kernel
theorem dX5_pluck_15 : decode cX5_pluck 15 = .ok (.if_icmp .ge 7, 3) := by decide +kernel
theorem dX5_pluck_18 : decode cX5_pluck 18 = .ok (.iload_n 2, 1) := by decide +kernel
theorem dX5_pluck_19 : decode cX5_pluck 19 = .ok (.goto 4, 3) := by decide +kernel
theorem dX5_pluck_22 : decode cX5_pluck 22 = .ok (.iload_n 3, 1) := by decide +kernel
theorem dX5_pluck_23 : decode cX5_pluck 23 = .ok (.istore 4, 2) := by decide +kernel
theorem dX5_pluck_25 : decode cX5_pluck 25 = .ok (.aload_n 0, 1) := by decide +kernel
theorem dX5_pluck_26 : decode cX5_pluck 26 = .ok (.iload_n 1, 1) := by decide +kernel
theorem dX5_pluck_27 : decode cX5_pluck 27 = .ok (.iconst 4, 1) := by decide +kernel
theorem dX5_pluck_28 : decode cX5_pluck 28 = .ok (.iload_n 3, 1) := by decide +kernel
theorem dX5_pluck_29 : decode cX5_pluck 29 = .ok (.iload 4, 2) := by decide +kernel
theorem dX5_pluck_31 : decode cX5_pluck 31 = .ok (.isub, 1) := by decide +kernel
theorem dX5_pluck_32 : decode cX5_pluck 32 = .ok (.invokevirtual 75, 3) := by decide +kernel
theorem dX5_pluck_35 : decode cX5_pluck 35 = .ok (.aload_n 0, 1) := by decide +kernel
theorem dX5_pluck_36 : decode cX5_pluck 36 = .ok (.iload_n 1, 1) := by decide +kernel
theorem dX5_pluck_37 : decode cX5_pluck 37 = .ok (.bipush 10, 2) := by decide +kernel
theorem dX5_pluck_39 : decode cX5_pluck 39 = .ok (.aload_n 0, 1) := by decide +kernel
theorem dX5_pluck_40 : decode cX5_pluck 40 = .ok (.iload_n 1, 1) := by decide +kernel
theorem dX5_pluck_41 : decode cX5_pluck 41 = .ok (.bipush 10, 2) := by decide +kernel
theorem dX5_pluck_43 : decode cX5_pluck 43 = .ok (.invokevirtual 29, 3) := by decide +kernel
theorem dX5_pluck_46 : decode cX5_pluck 46 = .ok (.iload 4, 2) := by decide +kernel
theorem dX5_pluck_48 : decode cX5_pluck 48 = .ok (.iadd, 1) := by decide +kernel
theorem dX5_pluck_49 : decode cX5_pluck 49 = .ok (.invokevirtual 75, 3) := by decide +kernel
theorem dX5_pluck_52 : decode cX5_pluck 52 = .ok (.aload_n 0, 1) := by decide +kernel
theorem dX5_pluck_53 : decode cX5_pluck 53 = .ok (.getfield 7, 3) := by decide +kernel
theorem dX5_pluck_56 : decode cX5_pluck 56 = .ok (.bipush 6, 2) := by decide +kernel
theorem dX5_pluck_58 : decode cX5_pluck 58 = .ok (.dup2, 1) := by decide +kernel
theorem dX5_pluck_59 : decode cX5_pluck 59 = .ok (.iaload, 1) := by decide +kernel
theorem dX5_pluck_60 : decode cX5_pluck 60 = .ok (.iload 4, 2) := by decide +kernel
theorem dX5_pluck_62 : decode cX5_pluck 62 = .ok (.iadd, 1) := by decide +kernel
theorem dX5_pluck_63 : decode cX5_pluck 63 = .ok (.iastore, 1) := by decide +kernel
theorem dX5_pluck_64 : decode cX5_pluck 64 = .ok (.iload_n 3, 1) := by decide +kernel
theorem dX5_pluck_65 : decode cX5_pluck 65 = .ok (.iload 4, 2) := by decide +kernel
theorem dX5_pluck_67 : decode cX5_pluck 67 = .ok (.if_icmp .ne 8, 3) := by decide +kernel
theorem dX5_pluck_70 : decode cX5_pluck 70 = .ok (.aload_n 0, 1) := by decide +kernel
theorem dX5_pluck_71 : decode cX5_pluck 71 = .ok (.iload_n 1, 1) := by decide +kernel
theorem dX5_pluck_72 : decode cX5_pluck 72 = .ok (.invokevirtual 82, 3) := by decide +kernel
theorem dX5_pluck_75 : decode cX5_pluck 75 = .ok (.return_, 1) := by decide +kernel
theorem dX5_flyOff_0 : decode cX5_flyOff 0 = .ok (.iconst 0, 1) := by decide +kernel
theorem dX5_flyOff_1 : decode cX5_flyOff 1 = .ok (.istore_n 2, 1) := by decide +kernel
theorem dX5_flyOff_2 : decode cX5_flyOff 2 = .ok (.iload_n 2, 1) := by decide +kernel
theorem dX5_flyOff_3 : decode cX5_flyOff 3 = .ok (.iconst 4, 1) := by decide +kernel
theorem dX5_flyOff_4 : decode cX5_flyOff 4 = .ok (.if_icmp .ge 18, 3) := by decide +kernel
theorem dX5_flyOff_7 : decode cX5_flyOff 7 = .ok (.aload_n 0, 1) := by decide +kernel
theorem dX5_flyOff_8 : decode cX5_flyOff 8 = .ok (.iload_n 1, 1) := by decide +kernel
theorem dX5_flyOff_9 : decode cX5_flyOff 9 = .ok (.iconst 5, 1) := by decide +kernel
theorem dX5_flyOff_10 : decode cX5_flyOff 10 = .ok (.iload_n 2, 1) := by decide +kernel
theorem dX5_flyOff_11 : decode cX5_flyOff 11 = .ok (.iadd, 1) := by decide +kernel
theorem dX5_flyOff_12 : decode cX5_flyOff 12 = .ok (.iconst 0, 1) := by decide +kernel
theorem dX5_flyOff_13 : decode cX5_flyOff 13 = .ok (.invokevirtual 75, 3) := by decide +kernel
theorem dX5_flyOff_16 : decode cX5_flyOff 16 = .ok (.iinc 2 1, 3) := by decide +kernel
theorem dX5_flyOff_19 : decode cX5_flyOff 19 = .ok (.goto (-17), 3) := by decide +kernel
theorem dX5_flyOff_22 : decode cX5_flyOff 22 = .ok (.return_, 1) := by decide +kernel
theorem dX5_passOne_0 : decode cX5_passOne 0 = .ok (.iconst 0, 1) := by decide +kernel
theorem dX5_passOne_1 : decode cX5_passOne 1 = .ok (.istore_n 1, 1) := by decide +kernel
theorem dX5_passOne_2 : decode cX5_passOne 2 = .ok (.iconst 0, 1) := by decide +kernel
theorem dX5_passOne_3 : decode cX5_passOne 3 = .ok (.istore_n 2, 1) := by decide +kernel
theorem dX5_passOne_4 : decode cX5_passOne 4 = .ok (.iload_n 2, 1) := by decide +kernel
theorem dX5_passOne_5 : decode cX5_passOne 5 = .ok (.aload_n 0, 1) := by decide +kernel
theorem dX5_passOne_6 : decode cX5_passOne 6 = .ok (.getfield 7, 3) := by decide +kernel
theorem dX5_passOne_9 : decode cX5_passOne 9 = .ok (.bipush 10, 2) := by decide +kernel
theorem dX5_passOne_11 : decode cX5_passOne 11 = .ok (.iaload, 1) := by decide +kernel
theorem dX5_passOne_12 : decode cX5_passOne 12 = .ok (.if_icmp .ge 17, 3) := by decide +kernel
theorem dX5_passOne_15 : decode cX5_passOne 15 = .ok (.iload_n 1, 1) := by decide +kernel
theorem dX5_passOne_16 : decode cX5_passOne 16 = .ok (.aload_n 0, 1) := by decide +kernel
theorem dX5_passOne_17 : decode cX5_passOne 17 = .ok (.iload_n 2, 1) := by decide +kernel
theorem dX5_passOne_18 : decode cX5_passOne 18 = .ok (.invokevirtual 86, 3) := by decide +kernel
theorem dX5_passOne_21 : decode cX5_passOne 21 = .ok (.iadd, 1) := by decide +kernel
theorem dX5_passOne_22 : decode cX5_passOne 22 = .ok (.istore_n 1, 1) := by decide +kernel
theorem dX5_passOne_23 : decode cX5_passOne 23 = .ok (.iinc 2 1, 3) := by decide +kernel
theorem dX5_passOne_26 : decode cX5_passOne 26 = .ok (.goto (-22), 3) := by decide +kernel
theorem dX5_passOne_29 : decode cX5_passOne 29 = .ok (.iconst 0, 1) := by decide +kernel
theorem dX5_passOne_30 : decode cX5_passOne 30 = .ok (.istore_n 2, 1) := by decide +kernel
theorem dX5_passOne_31 : decode cX5_passOne 31 = .ok (.iload_n 2, 1) := by decide +kernel
theorem dX5_passOne_32 : decode cX5_passOne 32 = .ok (.aload_n 0, 1) := by decide +kernel
theorem dX5_passOne_33 : decode cX5_passOne 33 = .ok (.getfield 7, 3) := by decide +kernel
theorem dX5_passOne_36 : decode cX5_passOne 36 = .ok (.bipush 10, 2) := by decide +kernel
theorem dX5_passOne_38 : decode cX5_passOne 38 = .ok (.iaload, 1) := by decide +kernel
theorem dX5_passOne_39 : decode cX5_passOne 39 = .ok (.if_icmp .ge 14, 3) := by decide +kernel
theorem dX5_passOne_42 : decode cX5_passOne 42 = .ok (.aload_n 0, 1) := by decide +kernel
theorem dX5_passOne_43 : decode cX5_passOne 43 = .ok (.iload_n 2, 1) := by decide +kernel
theorem dX5_passOne_44 : decode cX5_passOne 44 = .ok (.invokevirtual 89, 3) := by decide +kernel
theorem dX5_passOne_47 : decode cX5_passOne 47 = .ok (.iinc 2 1, 3) := by decide +kernel
theorem dX5_passOne_50 : decode cX5_passOne 50 = .ok (.goto (-19), 3) := by decide +kernel
theorem dX5_passOne_53 : decode cX5_passOne 53 = .ok (.aload_n 0, 1) := by decide +kernel
theorem dX5_passOne_54 : decode cX5_passOne 54 = .ok (.getfield 7, 3) := by decide +kernel
theorem dX5_passOne_57 : decode cX5_passOne 57 = .ok (.iconst 2, 1) := by decide +kernel
theorem dX5_passOne_58 : decode cX5_passOne 58 = .ok (.dup2, 1) := by decide +kernel
theorem dX5_passOne_59 : decode cX5_passOne 59 = .ok (.iaload, 1) := by decide +kernel
theorem dX5_passOne_60 : decode cX5_passOne 60 = .ok (.iconst 1, 1) := by decide +kernel
theorem dX5_passOne_61 : decode cX5_passOne 61 = .ok (.iadd, 1) := by decide +kernel
theorem dX5_passOne_62 : decode cX5_passOne 62 = .ok (.iastore, 1) := by decide +kernel
theorem dX5_passOne_63 : decode cX5_passOne 63 = .ok (.aload_n 0, 1) := by decide +kernel
theorem dX5_passOne_64 : decode cX5_passOne 64 = .ok (.getfield 7, 3) := by decide +kernel
theorem dX5_passOne_67 : decode cX5_passOne 67 = .ok (.bipush 7, 2) := by decide +kernel
theorem dX5_passOne_69 : decode cX5_passOne 69 = .ok (.dup2, 1) := by decide +kernel
theorem dX5_passOne_70 : decode cX5_passOne 70 = .ok (.iaload, 1) := by decide +kernel
theorem dX5_passOne_71 : decode cX5_passOne 71 = .ok (.iload_n 1, 1) := by decide +kernel
theorem dX5_passOne_72 : decode cX5_passOne 72 = .ok (.iadd, 1) := by decide +kernel
theorem dX5_passOne_73 : decode cX5_passOne 73 = .ok (.iastore, 1) := by decide +kernel
theorem dX5_passOne_74 : decode cX5_passOne 74 = .ok (.aload_n 0, 1) := by decide +kernel
theorem dX5_passOne_75 : decode cX5_passOne 75 = .ok (.getfield 7, 3) := by decide +kernel
theorem dX5_passOne_78 : decode cX5_passOne 78 = .ok (.iconst 0, 1) := by decide +kernel
theorem dX5_passOne_79 : decode cX5_passOne 79 = .ok (.iaload, 1) := by decide +kernel
theorem dX5_passOne_80 : decode cX5_passOne 80 = .ok (.ifCond .le 35, 3) := by decide +kernel
theorem dX5_passOne_83 : decode cX5_passOne 83 = .ok (.aload_n 0, 1) := by decide +kernel
theorem dX5_passOne_84 : decode cX5_passOne 84 = .ok (.getfield 7, 3) := by decide +kernel
theorem dX5_passOne_87 : decode cX5_passOne 87 = .ok (.iconst 2, 1) := by decide +kernel
theorem dX5_passOne_88 : decode cX5_passOne 88 = .ok (.iaload, 1) := by decide +kernel
theorem dX5_passOne_89 : decode cX5_passOne 89 = .ok (.aload_n 0, 1) := by decide +kernel
theorem dX5_passOne_90 : decode cX5_passOne 90 = .ok (.getfield 7, 3) := by decide +kernel
theorem dX5_passOne_93 : decode cX5_passOne 93 = .ok (.iconst 0, 1) := by decide +kernel
theorem dX5_passOne_94 : decode cX5_passOne 94 = .ok (.iaload, 1) := by decide +kernel
theorem dX5_passOne_95 : decode cX5_passOne 95 = .ok (.irem, 1) := by decide +kernel
theorem dX5_passOne_96 : decode cX5_passOne 96 = .ok (.ifCond .ne 19, 3) := by decide +kernel
theorem dX5_passOne_99 : decode cX5_passOne 99 = .ok (.aload_n 0, 1) := by decide +kernel
theorem dX5_passOne_100 : decode cX5_passOne 100 = .ok (.getfield 7, 3) := by decide +kernel
theorem dX5_passOne_103 : decode cX5_passOne 103 = .ok (.iconst 3, 1) := by decide +kernel
theorem dX5_passOne_104 : decode cX5_passOne 104 = .ok (.aload_n 0, 1) := by decide +kernel
theorem dX5_passOne_105 : decode cX5_passOne 105 = .ok (.getfield 7, 3) := by decide +kernel
theorem dX5_passOne_108 : decode cX5_passOne 108 = .ok (.iconst 3, 1) := by decide +kernel
theorem dX5_passOne_109 : decode cX5_passOne 109 = .ok (.iaload, 1) := by decide +kernel
theorem dX5_passOne_110 : decode cX5_passOne 110 = .ok (.iconst 1, 1) := by decide +kernel
theorem dX5_passOne_111 : decode cX5_passOne 111 = .ok (.iadd, 1) := by decide +kernel
theorem dX5_passOne_112 : decode cX5_passOne 112 = .ok (.iconst 4, 1) := by decide +kernel
theorem dX5_passOne_113 : decode cX5_passOne 113 = .ok (.irem, 1) := by decide +kernel
theorem dX5_passOne_114 : decode cX5_passOne 114 = .ok (.iastore, 1) := by decide +kernel
theorem dX5_passOne_115 : decode cX5_passOne 115 = .ok (.iload_n 1, 1) := by decide +kernel
theorem dX5_passOne_116 : decode cX5_passOne 116 = .ok (.ireturn, 1) := by decide +kernel
theorem dX5_passMany_0 : decode cX5_passMany 0 = .ok (.iconst 0, 1) := by decide +kernel
theorem dX5_passMany_1 : decode cX5_passMany 1 = .ok (.istore_n 2, 1) := by decide +kernel
theorem dX5_passMany_2 : decode cX5_passMany 2 = .ok (.iconst 0, 1) := by decide +kernel
theorem dX5_passMany_3 : decode cX5_passMany 3 = .ok (.istore_n 3, 1) := by decide +kernel
theorem dX5_passMany_4 : decode cX5_passMany 4 = .ok (.iload_n 3, 1) := by decide +kernel
theorem dX5_passMany_5 : decode cX5_passMany 5 = .ok (.iload_n 1, 1) := by decide +kernel
theorem dX5_passMany_6 : decode cX5_passMany 6 = .ok (.if_icmp .ge 16, 3) := by decide +kernel
theorem dX5_passMany_9 : decode cX5_passMany 9 = .ok (.iload_n 2, 1) := by decide +kernel
theorem dX5_passMany_10 : decode cX5_passMany 10 = .ok (.aload_n 0, 1) := by decide +kernel
theorem dX5_passMany_11 : decode cX5_passMany 11 = .ok (.invokevirtual 92, 3) := by decide +kernel
theorem dX5_passMany_14 : decode cX5_passMany 14 = .ok (.iadd, 1) := by decide +kernel
theorem dX5_passMany_15 : decode cX5_passMany 15 = .ok (.istore_n 2, 1) := by decide +kernel
theorem dX5_passMany_16 : decode cX5_passMany 16 = .ok (.iinc 3 1, 3) := by decide +kernel
theorem dX5_passMany_19 : decode cX5_passMany 19 = .ok (.goto (-15), 3) := by decide +kernel
theorem dX5_passMany_22 : decode cX5_passMany 22 = .ok (.iload_n 2, 1) := by decide +kernel
theorem dX5_passMany_23 : decode cX5_passMany 23 = .ok (.ireturn, 1) := by decide +kernel
theorem dX5_doCrow_0 : decode cX5_doCrow 0 = .ok (.aload_n 0, 1) := by decide +kernel
theorem dX5_doCrow_1 : decode cX5_doCrow 1 = .ok (.iload_n 1, 1) := by decide +kernel
theorem dX5_doCrow_2 : decode cX5_doCrow 2 = .ok (.invokevirtual 95, 3) := by decide +kernel
theorem dX5_doCrow_5 : decode cX5_doCrow 5 = .ok (.ifCond .eq 10, 3) := by decide +kernel
theorem dX5_doCrow_8 : decode cX5_doCrow 8 = .ok (.iload_n 2, 1) := by decide +kernel
theorem dX5_doCrow_9 : decode cX5_doCrow 9 = .ok (.invokestatic 98, 3) := by decide +kernel
theorem dX5_doCrow_12 : decode cX5_doCrow 12 = .ok (.ifCond .ne 5, 3) := by decide +kernel
theorem dX5_doCrow_15 : decode cX5_doCrow 15 = .ok (.iconst (-1), 1) := by decide +kernel
theorem dX5_doCrow_16 : decode cX5_doCrow 16 = .ok (.ireturn, 1) := by decide +kernel
theorem dX5_doCrow_17 : decode cX5_doCrow 17 = .ok (.aload_n 0, 1) := by decide +kernel
theorem dX5_doCrow_18 : decode cX5_doCrow 18 = .ok (.iload_n 1, 1) := by decide +kernel
theorem dX5_doCrow_19 : decode cX5_doCrow 19 = .ok (.iconst 4, 1) := by decide +kernel
theorem dX5_doCrow_20 : decode cX5_doCrow 20 = .ok (.invokevirtual 29, 3) := by decide +kernel
theorem dX5_doCrow_23 : decode cX5_doCrow 23 = .ok (.ifCond .ne 6, 3) := by decide +kernel
theorem dX5_doCrow_26 : decode cX5_doCrow 26 = .ok (.bipush (-4), 2) := by decide +kernel
theorem dX5_doCrow_28 : decode cX5_doCrow 28 = .ok (.ireturn, 1) := by decide +kernel
theorem dX5_doCrow_29 : decode cX5_doCrow 29 = .ok (.aload_n 0, 1) := by decide +kernel
theorem dX5_doCrow_30 : decode cX5_doCrow 30 = .ok (.iload_n 1, 1) := by decide +kernel
theorem dX5_doCrow_31 : decode cX5_doCrow 31 = .ok (.invokevirtual 79, 3) := by decide +kernel
theorem dX5_doCrow_34 : decode cX5_doCrow 34 = .ok (.bipush 9, 2) := by decide +kernel
theorem dX5_doCrow_36 : decode cX5_doCrow 36 = .ok (.if_icmp .ne 6, 3) := by decide +kernel
theorem dX5_doCrow_39 : decode cX5_doCrow 39 = .ok (.bipush (-3), 2) := by decide +kernel
theorem dX5_doCrow_41 : decode cX5_doCrow 41 = .ok (.ireturn, 1) := by decide +kernel
theorem dX5_doCrow_42 : decode cX5_doCrow 42 = .ok (.aload_n 0, 1) := by decide +kernel
theorem dX5_doCrow_43 : decode cX5_doCrow 43 = .ok (.iload_n 1, 1) := by decide +kernel
theorem dX5_doCrow_44 : decode cX5_doCrow 44 = .ok (.iconst 5, 1) := by decide +kernel
theorem dX5_doCrow_45 : decode cX5_doCrow 45 = .ok (.iload_n 2, 1) := by decide +kernel
theorem dX5_doCrow_46 : decode cX5_doCrow 46 = .ok (.iadd, 1) := by decide +kernel
theorem dX5_doCrow_47 : decode cX5_doCrow 47 = .ok (.aload_n 0, 1) := by decide +kernel
theorem dX5_doCrow_48 : decode cX5_doCrow 48 = .ok (.iload_n 1, 1) := by decide +kernel
theorem dX5_doCrow_49 : decode cX5_doCrow 49 = .ok (.iconst 5, 1) := by decide +kernel
theorem dX5_doCrow_50 : decode cX5_doCrow 50 = .ok (.iload_n 2, 1) := by decide +kernel
theorem dX5_doCrow_51 : decode cX5_doCrow 51 = .ok (.iadd, 1) := by decide +kernel
theorem dX5_doCrow_52 : decode cX5_doCrow 52 = .ok (.invokevirtual 29, 3) := by decide +kernel
theorem dX5_doCrow_55 : decode cX5_doCrow 55 = .ok (.iconst 1, 1) := by decide +kernel
theorem dX5_doCrow_56 : decode cX5_doCrow 56 = .ok (.iadd, 1) := by decide +kernel
theorem dX5_doCrow_57 : decode cX5_doCrow 57 = .ok (.invokevirtual 75, 3) := by decide +kernel
theorem dX5_doCrow_60 : decode cX5_doCrow 60 = .ok (.aload_n 0, 1) := by decide +kernel
theorem dX5_doCrow_61 : decode cX5_doCrow 61 = .ok (.iload_n 1, 1) := by decide +kernel
theorem dX5_doCrow_62 : decode cX5_doCrow 62 = .ok (.invokevirtual 79, 3) := by decide +kernel
theorem dX5_doCrow_65 : decode cX5_doCrow 65 = .ok (.ireturn, 1) := by decide +kernel
theorem dX5_doFill_0 : decode cX5_doFill 0 = .ok (.aload_n 0, 1) := by decide +kernel
theorem dX5_doFill_1 : decode cX5_doFill 1 = .ok (.iload_n 1, 1) := by decide +kernel
theorem dX5_doFill_2 : decode cX5_doFill 2 = .ok (.invokevirtual 95, 3) := by decide +kernel
theorem dX5_doFill_5 : decode cX5_doFill 5 = .ok (.ifCond .ne 5, 3) := by decide +kernel
theorem dX5_doFill_8 : decode cX5_doFill 8 = .ok (.iconst (-1), 1) := by decide +kernel
theorem dX5_doFill_9 : decode cX5_doFill 9 = .ok (.ireturn, 1) := by decide +kernel
theorem dX5_doFill_10 : decode cX5_doFill 10 = .ok (.iload_n 2, 1) := by decide +kernel
theorem dX5_doFill_11 : decode cX5_doFill 11 = .ok (.iconst 1, 1) := by decide +kernel
theorem dX5_doFill_12 : decode cX5_doFill 12 = .ok (.bipush 64, 2) := by decide +kernel
theorem dX5_doFill_14 : decode cX5_doFill 14 = .ok (.invokestatic 25, 3) := by decide +kernel
theorem dX5_doFill_17 : decode cX5_doFill 17 = .ok (.ifCond .ne 6, 3) := by decide +kernel
theorem dX5_doFill_20 : decode cX5_doFill 20 = .ok (.bipush (-2), 2) := by decide +kernel
theorem dX5_doFill_22 : decode cX5_doFill 22 = .ok (.ireturn, 1) := by decide +kernel
theorem dX5_doFill_23 : decode cX5_doFill 23 = .ok (.bipush 64, 2) := by decide +kernel
theorem dX5_doFill_25 : decode cX5_doFill 25 = .ok (.aload_n 0, 1) := by decide +kernel
theorem dX5_doFill_26 : decode cX5_doFill 26 = .ok (.iload_n 1, 1) := by decide +kernel
theorem dX5_doFill_27 : decode cX5_doFill 27 = .ok (.iconst 4, 1) := by decide +kernel
theorem dX5_doFill_28 : decode cX5_doFill 28 = .ok (.invokevirtual 29, 3) := by decide +kernel
theorem dX5_doFill_31 : decode cX5_doFill 31 = .ok (.isub, 1) := by decide +kernel
theorem dX5_doFill_32 : decode cX5_doFill 32 = .ok (.istore_n 3, 1) := by decide +kernel
theorem dX5_doFill_33 : decode cX5_doFill 33 = .ok (.iload_n 2, 1) := by decide +kernel
theorem dX5_doFill_34 : decode cX5_doFill 34 = .ok (.iload_n 3, 1) := by decide +kernel
theorem dX5_doFill_35 : decode cX5_doFill 35 = .ok (.if_icmp .ge 7, 3) := by decide +kernel
theorem dX5_doFill_38 : decode cX5_doFill 38 = .ok (.iload_n 2, 1) := by decide +kernel
theorem dX5_doFill_39 : decode cX5_doFill 39 = .ok (.goto 4, 3) := by decide +kernel
theorem dX5_doFill_42 : decode cX5_doFill 42 = .ok (.iload_n 3, 1) := by decide +kernel
theorem dX5_doFill_43 : decode cX5_doFill 43 = .ok (.istore 4, 2) := by decide +kernel
theorem dX5_doFill_45 : decode cX5_doFill 45 = .ok (.iload 4, 2) := by decide +kernel
theorem dX5_doFill_47 : decode cX5_doFill 47 = .ok (.aload_n 0, 1) := by decide +kernel
theorem dX5_doFill_48 : decode cX5_doFill 48 = .ok (.getfield 7, 3) := by decide +kernel
theorem dX5_doFill_51 : decode cX5_doFill 51 = .ok (.iconst 5, 1) := by decide +kernel
theorem dX5_doFill_52 : decode cX5_doFill 52 = .ok (.iaload, 1) := by decide +kernel
theorem dX5_doFill_53 : decode cX5_doFill 53 = .ok (.if_icmp .ge 8, 3) := by decide +kernel
theorem dX5_doFill_56 : decode cX5_doFill 56 = .ok (.iload 4, 2) := by decide +kernel
theorem dX5_doFill_58 : decode cX5_doFill 58 = .ok (.goto 9, 3) := by decide +kernel
theorem dX5_doFill_61 : decode cX5_doFill 61 = .ok (.aload_n 0, 1) := by decide +kernel
theorem dX5_doFill_62 : decode cX5_doFill 62 = .ok (.getfield 7, 3) := by decide +kernel
theorem dX5_doFill_65 : decode cX5_doFill 65 = .ok (.iconst 5, 1) := by decide +kernel
theorem dX5_doFill_66 : decode cX5_doFill 66 = .ok (.iaload, 1) := by decide +kernel
theorem dX5_doFill_67 : decode cX5_doFill 67 = .ok (.istore 4, 2) := by decide +kernel
theorem dX5_doFill_69 : decode cX5_doFill 69 = .ok (.aload_n 0, 1) := by decide +kernel
theorem dX5_doFill_70 : decode cX5_doFill 70 = .ok (.iload_n 1, 1) := by decide +kernel
theorem dX5_doFill_71 : decode cX5_doFill 71 = .ok (.iconst 4, 1) := by decide +kernel
theorem dX5_doFill_72 : decode cX5_doFill 72 = .ok (.aload_n 0, 1) := by decide +kernel
theorem dX5_doFill_73 : decode cX5_doFill 73 = .ok (.iload_n 1, 1) := by decide +kernel
theorem dX5_doFill_74 : decode cX5_doFill 74 = .ok (.iconst 4, 1) := by decide +kernel
theorem dX5_doFill_75 : decode cX5_doFill 75 = .ok (.invokevirtual 29, 3) := by decide +kernel
theorem dX5_doFill_78 : decode cX5_doFill 78 = .ok (.iload 4, 2) := by decide +kernel
theorem dX5_doFill_80 : decode cX5_doFill 80 = .ok (.iadd, 1) := by decide +kernel
theorem dX5_doFill_81 : decode cX5_doFill 81 = .ok (.invokevirtual 75, 3) := by decide +kernel
theorem dX5_doFill_84 : decode cX5_doFill 84 = .ok (.aload_n 0, 1) := by decide +kernel
theorem dX5_doFill_85 : decode cX5_doFill 85 = .ok (.getfield 7, 3) := by decide +kernel
theorem dX5_doFill_88 : decode cX5_doFill 88 = .ok (.iconst 5, 1) := by decide +kernel
theorem dX5_doFill_89 : decode cX5_doFill 89 = .ok (.dup2, 1) := by decide +kernel
theorem dX5_doFill_90 : decode cX5_doFill 90 = .ok (.iaload, 1) := by decide +kernel
theorem dX5_doFill_91 : decode cX5_doFill 91 = .ok (.iload 4, 2) := by decide +kernel
theorem dX5_doFill_93 : decode cX5_doFill 93 = .ok (.isub, 1) := by decide +kernel
theorem dX5_doFill_94 : decode cX5_doFill 94 = .ok (.iastore, 1) := by decide +kernel
theorem dX5_doFill_95 : decode cX5_doFill 95 = .ok (.iload 4, 2) := by decide +kernel
theorem dX5_doFill_97 : decode cX5_doFill 97 = .ok (.ifCond .ne 8, 3) := by decide +kernel
theorem dX5_doFill_100 : decode cX5_doFill 100 = .ok (.bipush (-5), 2) := by decide +kernel
theorem dX5_doFill_102 : decode cX5_doFill 102 = .ok (.goto 5, 3) := by decide +kernel
theorem dX5_doFill_105 : decode cX5_doFill 105 = .ok (.iload 4, 2) := by decide +kernel
theorem dX5_doFill_107 : decode cX5_doFill 107 = .ok (.ireturn, 1) := by decide +kernel
theorem dX5_doWind_0 : decode cX5_doWind 0 = .ok (.iload_n 1, 1) := by decide +kernel
theorem dX5_doWind_1 : decode cX5_doWind 1 = .ok (.invokestatic 98, 3) := by decide +kernel
theorem dX5_doWind_4 : decode cX5_doWind 4 = .ok (.ifCond .ne 5, 3) := by decide +kernel
theorem dX5_doWind_7 : decode cX5_doWind 7 = .ok (.iconst (-1), 1) := by decide +kernel
theorem dX5_doWind_8 : decode cX5_doWind 8 = .ok (.ireturn, 1) := by decide +kernel
theorem dX5_doWind_9 : decode cX5_doWind 9 = .ok (.iload_n 2, 1) := by decide +kernel
theorem dX5_doWind_10 : decode cX5_doWind 10 = .ok (.iconst 0, 1) := by decide +kernel
theorem dX5_doWind_11 : decode cX5_doWind 11 = .ok (.bipush 9, 2) := by decide +kernel
theorem dX5_doWind_13 : decode cX5_doWind 13 = .ok (.invokestatic 25, 3) := by decide +kernel
theorem dX5_doWind_16 : decode cX5_doWind 16 = .ok (.ifCond .ne 6, 3) := by decide +kernel
theorem dX5_doWind_19 : decode cX5_doWind 19 = .ok (.bipush (-2), 2) := by decide +kernel
theorem dX5_doWind_21 : decode cX5_doWind 21 = .ok (.ireturn, 1) := by decide +kernel
theorem dX5_doWind_22 : decode cX5_doWind 22 = .ok (.bipush 10, 2) := by decide +kernel
theorem dX5_doWind_24 : decode cX5_doWind 24 = .ok (.aload_n 0, 1) := by decide +kernel
theorem dX5_doWind_25 : decode cX5_doWind 25 = .ok (.getfield 7, 3) := by decide +kernel
theorem dX5_doWind_28 : decode cX5_doWind 28 = .ok (.iconst 3, 1) := by decide +kernel
theorem dX5_doWind_29 : decode cX5_doWind 29 = .ok (.iaload, 1) := by decide +kernel
theorem dX5_doWind_30 : decode cX5_doWind 30 = .ok (.imul, 1) := by decide +kernel
theorem dX5_doWind_31 : decode cX5_doWind 31 = .ok (.aload_n 0, 1) := by decide +kernel
theorem dX5_doWind_32 : decode cX5_doWind 32 = .ok (.getfield 7, 3) := by decide +kernel
theorem dX5_doWind_35 : decode cX5_doWind 35 = .ok (.iconst 4, 1) := by decide +kernel
theorem dX5_doWind_36 : decode cX5_doWind 36 = .ok (.iaload, 1) := by decide +kernel
theorem dX5_doWind_37 : decode cX5_doWind 37 = .ok (.iadd, 1) := by decide +kernel
theorem dX5_doWind_38 : decode cX5_doWind 38 = .ok (.istore_n 3, 1) := by decide +kernel
theorem dX5_doWind_39 : decode cX5_doWind 39 = .ok (.aload_n 0, 1) := by decide +kernel
theorem dX5_doWind_40 : decode cX5_doWind 40 = .ok (.getfield 7, 3) := by decide +kernel
theorem dX5_doWind_43 : decode cX5_doWind 43 = .ok (.iconst 3, 1) := by decide +kernel
theorem dX5_doWind_44 : decode cX5_doWind 44 = .ok (.iload_n 1, 1) := by decide +kernel
theorem dX5_doWind_45 : decode cX5_doWind 45 = .ok (.iastore, 1) := by decide +kernel
theorem dX5_doWind_46 : decode cX5_doWind 46 = .ok (.aload_n 0, 1) := by decide +kernel
theorem dX5_doWind_47 : decode cX5_doWind 47 = .ok (.getfield 7, 3) := by decide +kernel
theorem dX5_doWind_50 : decode cX5_doWind 50 = .ok (.iconst 4, 1) := by decide +kernel
theorem dX5_doWind_51 : decode cX5_doWind 51 = .ok (.iload_n 2, 1) := by decide +kernel
theorem dX5_doWind_52 : decode cX5_doWind 52 = .ok (.iastore, 1) := by decide +kernel
theorem dX5_doWind_53 : decode cX5_doWind 53 = .ok (.iload_n 3, 1) := by decide +kernel
theorem dX5_doWind_54 : decode cX5_doWind 54 = .ok (.bipush 10, 2) := by decide +kernel
theorem dX5_doWind_56 : decode cX5_doWind 56 = .ok (.iload_n 1, 1) := by decide +kernel
theorem dX5_doWind_57 : decode cX5_doWind 57 = .ok (.imul, 1) := by decide +kernel
theorem dX5_doWind_58 : decode cX5_doWind 58 = .ok (.iload_n 2, 1) := by decide +kernel
theorem dX5_doWind_59 : decode cX5_doWind 59 = .ok (.iadd, 1) := by decide +kernel
theorem dX5_doWind_60 : decode cX5_doWind 60 = .ok (.if_icmp .ne 8, 3) := by decide +kernel
theorem dX5_doWind_63 : decode cX5_doWind 63 = .ok (.bipush (-5), 2) := by decide +kernel
theorem dX5_doWind_65 : decode cX5_doWind 65 = .ok (.goto 4, 3) := by decide +kernel
theorem dX5_doWind_68 : decode cX5_doWind 68 = .ok (.iload_n 3, 1) := by decide +kernel
theorem dX5_doWind_69 : decode cX5_doWind 69 = .ok (.ireturn, 1) := by decide +kernel
theorem dX5_doVote_0 : decode cX5_doVote 0 = .ok (.aload_n 0, 1) := by decide +kernel
theorem dX5_doVote_1 : decode cX5_doVote 1 = .ok (.aload_n 0, 1) := by decide +kernel
theorem dX5_doVote_2 : decode cX5_doVote 2 = .ok (.getfield 7, 3) := by decide +kernel
theorem dX5_doVote_5 : decode cX5_doVote 5 = .ok (.iconst 1, 1) := by decide +kernel
theorem dX5_doVote_6 : decode cX5_doVote 6 = .ok (.iaload, 1) := by decide +kernel
theorem dX5_doVote_7 : decode cX5_doVote 7 = .ok (.invokevirtual 101, 3) := by decide +kernel
theorem dX5_doVote_10 : decode cX5_doVote 10 = .ok (.istore_n 1, 1) := by decide +kernel
theorem dX5_doVote_11 : decode cX5_doVote 11 = .ok (.iload_n 1, 1) := by decide +kernel
theorem dX5_doVote_12 : decode cX5_doVote 12 = .ok (.bipush (-5), 2) := by decide +kernel
theorem dX5_doVote_14 : decode cX5_doVote 14 = .ok (.if_icmp .ne 6, 3) := by decide +kernel
theorem dX5_doVote_17 : decode cX5_doVote 17 = .ok (.bipush (-4), 2) := by decide +kernel
theorem dX5_doVote_19 : decode cX5_doVote 19 = .ok (.ireturn, 1) := by decide +kernel
theorem dX5_doVote_20 : decode cX5_doVote 20 = .ok (.aload_n 0, 1) := by decide +kernel
theorem dX5_doVote_21 : decode cX5_doVote 21 = .ok (.getfield 7, 3) := by decide +kernel
theorem dX5_doVote_24 : decode cX5_doVote 24 = .ok (.bipush 8, 2) := by decide +kernel
theorem dX5_doVote_26 : decode cX5_doVote 26 = .ok (.dup2, 1) := by decide +kernel
theorem dX5_doVote_27 : decode cX5_doVote 27 = .ok (.iaload, 1) := by decide +kernel
theorem dX5_doVote_28 : decode cX5_doVote 28 = .ok (.iconst 1, 1) := by decide +kernel
theorem dX5_doVote_29 : decode cX5_doVote 29 = .ok (.iadd, 1) := by decide +kernel
theorem dX5_doVote_30 : decode cX5_doVote 30 = .ok (.iastore, 1) := by decide +kernel
theorem dX5_doVote_31 : decode cX5_doVote 31 = .ok (.aload_n 0, 1) := by decide +kernel
theorem dX5_doVote_32 : decode cX5_doVote 32 = .ok (.getfield 7, 3) := by decide +kernel
theorem dX5_doVote_35 : decode cX5_doVote 35 = .ok (.bipush 9, 2) := by decide +kernel
theorem dX5_doVote_37 : decode cX5_doVote 37 = .ok (.iload_n 1, 1) := by decide +kernel
theorem dX5_doVote_38 : decode cX5_doVote 38 = .ok (.iastore, 1) := by decide +kernel
theorem dX5_doVote_39 : decode cX5_doVote 39 = .ok (.iload_n 1, 1) := by decide +kernel
theorem dX5_doVote_40 : decode cX5_doVote 40 = .ok (.ireturn, 1) := by decide +kernel
theorem dX5_doPass_0 : decode cX5_doPass 0 = .ok (.iload_n 1, 1) := by decide +kernel
theorem dX5_doPass_1 : decode cX5_doPass 1 = .ok (.iconst 1, 1) := by decide +kernel
theorem dX5_doPass_2 : decode cX5_doPass 2 = .ok (.bipush 99, 2) := by decide +kernel
theorem dX5_doPass_4 : decode cX5_doPass 4 = .ok (.invokestatic 25, 3) := by decide +kernel
theorem dX5_doPass_7 : decode cX5_doPass 7 = .ok (.ifCond .ne 6, 3) := by decide +kernel
theorem dX5_doPass_10 : decode cX5_doPass 10 = .ok (.bipush (-2), 2) := by decide +kernel
theorem dX5_doPass_12 : decode cX5_doPass 12 = .ok (.ireturn, 1) := by decide +kernel
theorem dX5_doPass_13 : decode cX5_doPass 13 = .ok (.aload_n 0, 1) := by decide +kernel
theorem dX5_doPass_14 : decode cX5_doPass 14 = .ok (.getfield 7, 3) := by decide +kernel
theorem dX5_doPass_17 : decode cX5_doPass 17 = .ok (.iconst 2, 1) := by decide +kernel
theorem dX5_doPass_18 : decode cX5_doPass 18 = .ok (.iaload, 1) := by decide +kernel
theorem dX5_doPass_19 : decode cX5_doPass 19 = .ok (.iload_n 1, 1) := by decide +kernel
theorem dX5_doPass_20 : decode cX5_doPass 20 = .ok (.iadd, 1) := by decide +kernel
theorem dX5_doPass_21 : decode cX5_doPass 21 = .ok (.ldc 104, 2) := by decide +kernel
theorem dX5_doPass_23 : decode cX5_doPass 23 = .ok (.if_icmp .le 8, 3) := by decide +kernel
theorem dX5_doPass_26 : decode cX5_doPass 26 = .ok (.bipush (-3), 2) := by decide +kernel
theorem dX5_doPass_28 : decode cX5_doPass 28 = .ok (.goto 8, 3) := by decide +kernel
theorem dX5_doPass_31 : decode cX5_doPass 31 = .ok (.aload_n 0, 1) := by decide +kernel
theorem dX5_doPass_32 : decode cX5_doPass 32 = .ok (.iload_n 1, 1) := by decide +kernel
theorem dX5_doPass_33 : decode cX5_doPass 33 = .ok (.invokevirtual 105, 3) := by decide +kernel
theorem dX5_doPass_36 : decode cX5_doPass 36 = .ok (.ireturn, 1) := by decide +kernel
theorem dX5_setUp_0 : decode cX5_setUp 0 = .ok (.iload_n 1, 1) := by decide +kernel
theorem dX5_setUp_1 : decode cX5_setUp 1 = .ok (.invokestatic 108, 3) := by decide +kernel
theorem dX5_setUp_4 : decode cX5_setUp 4 = .ok (.ifCond .eq 11, 3) := by decide +kernel
theorem dX5_setUp_7 : decode cX5_setUp 7 = .ok (.iload 4, 2) := by decide +kernel
theorem dX5_setUp_9 : decode cX5_setUp 9 = .ok (.invokestatic 98, 3) := by decide +kernel
theorem dX5_setUp_12 : decode cX5_setUp 12 = .ok (.ifCond .ne 5, 3) := by decide +kernel
theorem dX5_setUp_15 : decode cX5_setUp 15 = .ok (.iconst (-1), 1) := by decide +kernel
theorem dX5_setUp_16 : decode cX5_setUp 16 = .ok (.ireturn, 1) := by decide +kernel
theorem dX5_setUp_17 : decode cX5_setUp 17 = .ok (.iload_n 2, 1) := by decide +kernel
theorem dX5_setUp_18 : decode cX5_setUp 18 = .ok (.iconst 1, 1) := by decide +kernel
theorem dX5_setUp_19 : decode cX5_setUp 19 = .ok (.iconst 5, 1) := by decide +kernel
theorem dX5_setUp_20 : decode cX5_setUp 20 = .ok (.invokestatic 25, 3) := by decide +kernel
theorem dX5_setUp_23 : decode cX5_setUp 23 = .ok (.ifCond .eq 13, 3) := by decide +kernel
theorem dX5_setUp_26 : decode cX5_setUp 26 = .ok (.iload_n 3, 1) := by decide +kernel
theorem dX5_setUp_27 : decode cX5_setUp 27 = .ok (.iconst 1, 1) := by decide +kernel
theorem dX5_setUp_28 : decode cX5_setUp 28 = .ok (.bipush 9, 2) := by decide +kernel
theorem dX5_setUp_30 : decode cX5_setUp 30 = .ok (.invokestatic 25, 3) := by decide +kernel
theorem dX5_setUp_33 : decode cX5_setUp 33 = .ok (.ifCond .ne 6, 3) := by decide +kernel
theorem dX5_setUp_36 : decode cX5_setUp 36 = .ok (.bipush (-2), 2) := by decide +kernel
theorem dX5_setUp_38 : decode cX5_setUp 38 = .ok (.ireturn, 1) := by decide +kernel
theorem dX5_setUp_39 : decode cX5_setUp 39 = .ok (.aload_n 0, 1) := by decide +kernel
theorem dX5_setUp_40 : decode cX5_setUp 40 = .ok (.getfield 7, 3) := by decide +kernel
theorem dX5_setUp_43 : decode cX5_setUp 43 = .ok (.bipush 10, 2) := by decide +kernel
theorem dX5_setUp_45 : decode cX5_setUp 45 = .ok (.iaload, 1) := by decide +kernel
theorem dX5_setUp_46 : decode cX5_setUp 46 = .ok (.bipush 12, 2) := by decide +kernel
theorem dX5_setUp_48 : decode cX5_setUp 48 = .ok (.if_icmp .ne 6, 3) := by decide +kernel
theorem dX5_setUp_51 : decode cX5_setUp 51 = .ok (.bipush (-3), 2) := by decide +kernel
theorem dX5_setUp_53 : decode cX5_setUp 53 = .ok (.ireturn, 1) := by decide +kernel
theorem dX5_setUp_54 : decode cX5_setUp 54 = .ok (.aload_n 0, 1) := by decide +kernel
theorem dX5_setUp_55 : decode cX5_setUp 55 = .ok (.invokevirtual 48, 3) := by decide +kernel
theorem dX5_setUp_58 : decode cX5_setUp 58 = .ok (.aload_n 0, 1) := by decide +kernel
theorem dX5_setUp_59 : decode cX5_setUp 59 = .ok (.getfield 7, 3) := by decide +kernel
theorem dX5_setUp_62 : decode cX5_setUp 62 = .ok (.bipush 10, 2) := by decide +kernel
theorem dX5_setUp_64 : decode cX5_setUp 64 = .ok (.iaload, 1) := by decide +kernel
theorem dX5_setUp_65 : decode cX5_setUp 65 = .ok (.istore 5, 2) := by decide +kernel
theorem dX5_setUp_67 : decode cX5_setUp 67 = .ok (.aload_n 0, 1) := by decide +kernel
theorem dX5_setUp_68 : decode cX5_setUp 68 = .ok (.getfield 7, 3) := by decide +kernel
theorem dX5_setUp_71 : decode cX5_setUp 71 = .ok (.bipush 10, 2) := by decide +kernel
theorem dX5_setUp_73 : decode cX5_setUp 73 = .ok (.dup2, 1) := by decide +kernel
theorem dX5_setUp_74 : decode cX5_setUp 74 = .ok (.iaload, 1) := by decide +kernel
theorem dX5_setUp_75 : decode cX5_setUp 75 = .ok (.iconst 1, 1) := by decide +kernel
theorem dX5_setUp_76 : decode cX5_setUp 76 = .ok (.iadd, 1) := by decide +kernel
theorem dX5_setUp_77 : decode cX5_setUp 77 = .ok (.iastore, 1) := by decide +kernel
theorem dX5_setUp_78 : decode cX5_setUp 78 = .ok (.aload_n 0, 1) := by decide +kernel
theorem dX5_setUp_79 : decode cX5_setUp 79 = .ok (.iload 5, 2) := by decide +kernel
theorem dX5_setUp_81 : decode cX5_setUp 81 = .ok (.iconst 0, 1) := by decide +kernel
theorem dX5_setUp_82 : decode cX5_setUp 82 = .ok (.iload_n 1, 1) := by decide +kernel
theorem dX5_setUp_83 : decode cX5_setUp 83 = .ok (.invokevirtual 75, 3) := by decide +kernel
theorem dX5_setUp_86 : decode cX5_setUp 86 = .ok (.aload_n 0, 1) := by decide +kernel
theorem dX5_setUp_87 : decode cX5_setUp 87 = .ok (.iload 5, 2) := by decide +kernel
theorem dX5_setUp_89 : decode cX5_setUp 89 = .ok (.iconst 1, 1) := by decide +kernel
theorem dX5_setUp_90 : decode cX5_setUp 90 = .ok (.iload_n 2, 1) := by decide +kernel
theorem dX5_setUp_91 : decode cX5_setUp 91 = .ok (.invokevirtual 75, 3) := by decide +kernel
theorem dX5_setUp_94 : decode cX5_setUp 94 = .ok (.aload_n 0, 1) := by decide +kernel
theorem dX5_setUp_95 : decode cX5_setUp 95 = .ok (.iload 5, 2) := by decide +kernel
theorem dX5_setUp_97 : decode cX5_setUp 97 = .ok (.iconst 2, 1) := by decide +kernel
theorem dX5_setUp_98 : decode cX5_setUp 98 = .ok (.iload_n 3, 1) := by decide +kernel
theorem dX5_setUp_99 : decode cX5_setUp 99 = .ok (.invokevirtual 75, 3) := by decide +kernel
theorem dX5_setUp_102 : decode cX5_setUp 102 = .ok (.aload_n 0, 1) := by decide +kernel
theorem dX5_setUp_103 : decode cX5_setUp 103 = .ok (.iload 5, 2) := by decide +kernel
theorem dX5_setUp_105 : decode cX5_setUp 105 = .ok (.iconst 3, 1) := by decide +kernel
theorem dX5_setUp_106 : decode cX5_setUp 106 = .ok (.iload 4, 2) := by decide +kernel
theorem dX5_setUp_108 : decode cX5_setUp 108 = .ok (.invokevirtual 75, 3) := by decide +kernel
theorem dX5_setUp_111 : decode cX5_setUp 111 = .ok (.aload_n 0, 1) := by decide +kernel
theorem dX5_setUp_112 : decode cX5_setUp 112 = .ok (.iload 5, 2) := by decide +kernel
theorem dX5_setUp_114 : decode cX5_setUp 114 = .ok (.iconst 4, 1) := by decide +kernel
theorem dX5_setUp_115 : decode cX5_setUp 115 = .ok (.bipush 64, 2) := by decide +kernel
theorem dX5_setUp_117 : decode cX5_setUp 117 = .ok (.invokevirtual 75, 3) := by decide +kernel
theorem dX5_setUp_120 : decode cX5_setUp 120 = .ok (.aload_n 0, 1) := by decide +kernel
theorem dX5_setUp_121 : decode cX5_setUp 121 = .ok (.iload 5, 2) := by decide +kernel
theorem dX5_setUp_123 : decode cX5_setUp 123 = .ok (.invokevirtual 111, 3) := by decide +kernel
theorem dX5_setUp_126 : decode cX5_setUp 126 = .ok (.ireturn, 1) := by decide +kernel
theorem dX5_carry_0 : decode cX5_carry 0 = .ok (.aload_n 0, 1) := by decide +kernel
theorem dX5_carry_1 : decode cX5_carry 1 = .ok (.iload_n 1, 1) := by decide +kernel
theorem dX5_carry_2 : decode cX5_carry 2 = .ok (.invokevirtual 95, 3) := by decide +kernel
theorem dX5_carry_5 : decode cX5_carry 5 = .ok (.ifCond .eq 10, 3) := by decide +kernel
theorem dX5_carry_8 : decode cX5_carry 8 = .ok (.iload_n 2, 1) := by decide +kernel
theorem dX5_carry_9 : decode cX5_carry 9 = .ok (.invokestatic 108, 3) := by decide +kernel
theorem dX5_carry_12 : decode cX5_carry 12 = .ok (.ifCond .ne 5, 3) := by decide +kernel
theorem dX5_carry_15 : decode cX5_carry 15 = .ok (.iconst (-1), 1) := by decide +kernel
theorem dX5_carry_16 : decode cX5_carry 16 = .ok (.ireturn, 1) := by decide +kernel
theorem dX5_carry_17 : decode cX5_carry 17 = .ok (.aload_n 0, 1) := by decide +kernel
theorem dX5_carry_18 : decode cX5_carry 18 = .ok (.invokevirtual 48, 3) := by decide +kernel
theorem dX5_carry_21 : decode cX5_carry 21 = .ok (.aload_n 0, 1) := by decide +kernel
theorem dX5_carry_22 : decode cX5_carry 22 = .ok (.iload_n 1, 1) := by decide +kernel
theorem dX5_carry_23 : decode cX5_carry 23 = .ok (.iconst 0, 1) := by decide +kernel
theorem dX5_carry_24 : decode cX5_carry 24 = .ok (.invokevirtual 29, 3) := by decide +kernel
theorem dX5_carry_27 : decode cX5_carry 27 = .ok (.istore_n 3, 1) := by decide +kernel
theorem dX5_carry_28 : decode cX5_carry 28 = .ok (.aload_n 0, 1) := by decide +kernel
theorem dX5_carry_29 : decode cX5_carry 29 = .ok (.iload_n 1, 1) := by decide +kernel
theorem dX5_carry_30 : decode cX5_carry 30 = .ok (.iconst 0, 1) := by decide +kernel
theorem dX5_carry_31 : decode cX5_carry 31 = .ok (.iload_n 2, 1) := by decide +kernel
theorem dX5_carry_32 : decode cX5_carry 32 = .ok (.invokevirtual 75, 3) := by decide +kernel
theorem dX5_carry_35 : decode cX5_carry 35 = .ok (.aload_n 0, 1) := by decide +kernel
theorem dX5_carry_36 : decode cX5_carry 36 = .ok (.iload_n 3, 1) := by decide +kernel
theorem dX5_carry_37 : decode cX5_carry 37 = .ok (.iload_n 2, 1) := by decide +kernel
theorem dX5_carry_38 : decode cX5_carry 38 = .ok (.if_icmp .ne 8, 3) := by decide +kernel
theorem dX5_carry_41 : decode cX5_carry 41 = .ok (.bipush (-5), 2) := by decide +kernel
theorem dX5_carry_43 : decode cX5_carry 43 = .ok (.goto 4, 3) := by decide +kernel
theorem dX5_carry_46 : decode cX5_carry 46 = .ok (.iload_n 3, 1) := by decide +kernel
theorem dX5_carry_47 : decode cX5_carry 47 = .ok (.invokevirtual 111, 3) := by decide +kernel
theorem dX5_carry_50 : decode cX5_carry 50 = .ok (.ireturn, 1) := by decide +kernel
theorem dX5_face_0 : decode cX5_face 0 = .ok (.aload_n 0, 1) := by decide +kernel
theorem dX5_face_1 : decode cX5_face 1 = .ok (.iload_n 1, 1) := by decide +kernel
theorem dX5_face_2 : decode cX5_face 2 = .ok (.invokevirtual 95, 3) := by decide +kernel
theorem dX5_face_5 : decode cX5_face 5 = .ok (.ifCond .eq 10, 3) := by decide +kernel
theorem dX5_face_8 : decode cX5_face 8 = .ok (.iload_n 2, 1) := by decide +kernel
theorem dX5_face_9 : decode cX5_face 9 = .ok (.invokestatic 98, 3) := by decide +kernel
theorem dX5_face_12 : decode cX5_face 12 = .ok (.ifCond .ne 5, 3) := by decide +kernel
theorem dX5_face_15 : decode cX5_face 15 = .ok (.iconst (-1), 1) := by decide +kernel
theorem dX5_face_16 : decode cX5_face 16 = .ok (.ireturn, 1) := by decide +kernel
theorem dX5_face_17 : decode cX5_face 17 = .ok (.aload_n 0, 1) := by decide +kernel
theorem dX5_face_18 : decode cX5_face 18 = .ok (.invokevirtual 48, 3) := by decide +kernel
theorem dX5_face_21 : decode cX5_face 21 = .ok (.aload_n 0, 1) := by decide +kernel
theorem dX5_face_22 : decode cX5_face 22 = .ok (.iload_n 1, 1) := by decide +kernel
theorem dX5_face_23 : decode cX5_face 23 = .ok (.iconst 3, 1) := by decide +kernel
theorem dX5_face_24 : decode cX5_face 24 = .ok (.invokevirtual 29, 3) := by decide +kernel
theorem dX5_face_27 : decode cX5_face 27 = .ok (.istore_n 3, 1) := by decide +kernel
theorem dX5_face_28 : decode cX5_face 28 = .ok (.aload_n 0, 1) := by decide +kernel
theorem dX5_face_29 : decode cX5_face 29 = .ok (.iload_n 1, 1) := by decide +kernel
theorem dX5_face_30 : decode cX5_face 30 = .ok (.iconst 3, 1) := by decide +kernel
theorem dX5_face_31 : decode cX5_face 31 = .ok (.iload_n 2, 1) := by decide +kernel
theorem dX5_face_32 : decode cX5_face 32 = .ok (.invokevirtual 75, 3) := by decide +kernel
theorem dX5_face_35 : decode cX5_face 35 = .ok (.aload_n 0, 1) := by decide +kernel
theorem dX5_face_36 : decode cX5_face 36 = .ok (.iload_n 3, 1) := by decide +kernel
theorem dX5_face_37 : decode cX5_face 37 = .ok (.iload_n 2, 1) := by decide +kernel
theorem dX5_face_38 : decode cX5_face 38 = .ok (.if_icmp .ne 8, 3) := by decide +kernel
theorem dX5_face_41 : decode cX5_face 41 = .ok (.bipush (-5), 2) := by decide +kernel
theorem dX5_face_43 : decode cX5_face 43 = .ok (.goto 4, 3) := by decide +kernel
theorem dX5_face_46 : decode cX5_face 46 = .ok (.iload_n 3, 1) := by decide +kernel
theorem dX5_face_47 : decode cX5_face 47 = .ok (.invokevirtual 111, 3) := by decide +kernel
theorem dX5_face_50 : decode cX5_face 50 = .ok (.ireturn, 1) := by decide +kernel
theorem dX5_crow_0 : decode cX5_crow 0 = .ok (.aload_n 0, 1) := by decide +kernel
theorem dX5_crow_1 : decode cX5_crow 1 = .ok (.invokevirtual 48, 3) := by decide +kernel
theorem dX5_crow_4 : decode cX5_crow 4 = .ok (.aload_n 0, 1) := by decide +kernel
theorem dX5_crow_5 : decode cX5_crow 5 = .ok (.aload_n 0, 1) := by decide +kernel
theorem dX5_crow_6 : decode cX5_crow 6 = .ok (.iload_n 1, 1) := by decide +kernel
theorem dX5_crow_7 : decode cX5_crow 7 = .ok (.iload_n 2, 1) := by decide +kernel
theorem dX5_crow_8 : decode cX5_crow 8 = .ok (.invokevirtual 114, 3) := by decide +kernel
theorem dX5_crow_11 : decode cX5_crow 11 = .ok (.invokevirtual 111, 3) := by decide +kernel
theorem dX5_crow_14 : decode cX5_crow 14 = .ok (.ireturn, 1) := by decide +kernel
theorem dX5_scare_0 : decode cX5_scare 0 = .ok (.aload_n 0, 1) := by decide +kernel
theorem dX5_scare_1 : decode cX5_scare 1 = .ok (.iload_n 1, 1) := by decide +kernel
theorem dX5_scare_2 : decode cX5_scare 2 = .ok (.invokevirtual 95, 3) := by decide +kernel
theorem dX5_scare_5 : decode cX5_scare 5 = .ok (.ifCond .ne 5, 3) := by decide +kernel
theorem dX5_scare_8 : decode cX5_scare 8 = .ok (.iconst (-1), 1) := by decide +kernel
theorem dX5_scare_9 : decode cX5_scare 9 = .ok (.ireturn, 1) := by decide +kernel
theorem dX5_scare_10 : decode cX5_scare 10 = .ok (.aload_n 0, 1) := by decide +kernel
theorem dX5_scare_11 : decode cX5_scare 11 = .ok (.invokevirtual 48, 3) := by decide +kernel
theorem dX5_scare_14 : decode cX5_scare 14 = .ok (.aload_n 0, 1) := by decide +kernel
theorem dX5_scare_15 : decode cX5_scare 15 = .ok (.iload_n 1, 1) := by decide +kernel
theorem dX5_scare_16 : decode cX5_scare 16 = .ok (.invokevirtual 79, 3) := by decide +kernel
theorem dX5_scare_19 : decode cX5_scare 19 = .ok (.istore_n 2, 1) := by decide +kernel
theorem dX5_scare_20 : decode cX5_scare 20 = .ok (.aload_n 0, 1) := by decide +kernel
theorem dX5_scare_21 : decode cX5_scare 21 = .ok (.iload_n 1, 1) := by decide +kernel
theorem dX5_scare_22 : decode cX5_scare 22 = .ok (.invokevirtual 82, 3) := by decide +kernel
theorem dX5_scare_25 : decode cX5_scare 25 = .ok (.aload_n 0, 1) := by decide +kernel
theorem dX5_scare_26 : decode cX5_scare 26 = .ok (.iload_n 2, 1) := by decide +kernel
theorem dX5_scare_27 : decode cX5_scare 27 = .ok (.ifCond .ne 8, 3) := by decide +kernel
theorem dX5_scare_30 : decode cX5_scare 30 = .ok (.bipush (-5), 2) := by decide +kernel
theorem dX5_scare_32 : decode cX5_scare 32 = .ok (.goto 4, 3) := by decide +kernel
theorem dX5_scare_35 : decode cX5_scare 35 = .ok (.iload_n 2, 1) := by decide +kernel
theorem dX5_scare_36 : decode cX5_scare 36 = .ok (.invokevirtual 111, 3) := by decide +kernel
theorem dX5_scare_39 : decode cX5_scare 39 = .ok (.ireturn, 1) := by decide +kernel
theorem dX5_fill_0 : decode cX5_fill 0 = .ok (.aload_n 0, 1) := by decide +kernel
theorem dX5_fill_1 : decode cX5_fill 1 = .ok (.invokevirtual 48, 3) := by decide +kernel
theorem dX5_fill_4 : decode cX5_fill 4 = .ok (.aload_n 0, 1) := by decide +kernel
theorem dX5_fill_5 : decode cX5_fill 5 = .ok (.aload_n 0, 1) := by decide +kernel
theorem dX5_fill_6 : decode cX5_fill 6 = .ok (.iload_n 1, 1) := by decide +kernel
theorem dX5_fill_7 : decode cX5_fill 7 = .ok (.iload_n 2, 1) := by decide +kernel
theorem dX5_fill_8 : decode cX5_fill 8 = .ok (.invokevirtual 117, 3) := by decide +kernel
theorem dX5_fill_11 : decode cX5_fill 11 = .ok (.invokevirtual 111, 3) := by decide +kernel
theorem dX5_fill_14 : decode cX5_fill 14 = .ok (.ireturn, 1) := by decide +kernel
theorem dX5_seats_0 : decode cX5_seats 0 = .ok (.iload_n 1, 1) := by decide +kernel
theorem dX5_seats_1 : decode cX5_seats 1 = .ok (.invokestatic 108, 3) := by decide +kernel
theorem dX5_seats_4 : decode cX5_seats 4 = .ok (.ifCond .ne 5, 3) := by decide +kernel
theorem dX5_seats_7 : decode cX5_seats 7 = .ok (.iconst (-1), 1) := by decide +kernel
theorem dX5_seats_8 : decode cX5_seats 8 = .ok (.ireturn, 1) := by decide +kernel
theorem dX5_seats_9 : decode cX5_seats 9 = .ok (.iload_n 2, 1) := by decide +kernel
theorem dX5_seats_10 : decode cX5_seats 10 = .ok (.iconst 1, 1) := by decide +kernel
theorem dX5_seats_11 : decode cX5_seats 11 = .ok (.bipush 9, 2) := by decide +kernel
theorem dX5_seats_13 : decode cX5_seats 13 = .ok (.invokestatic 25, 3) := by decide +kernel
theorem dX5_seats_16 : decode cX5_seats 16 = .ok (.ifCond .ne 6, 3) := by decide +kernel
theorem dX5_seats_19 : decode cX5_seats 19 = .ok (.bipush (-2), 2) := by decide +kernel
theorem dX5_seats_21 : decode cX5_seats 21 = .ok (.ireturn, 1) := by decide +kernel
theorem dX5_seats_22 : decode cX5_seats 22 = .ok (.aload_n 0, 1) := by decide +kernel
theorem dX5_seats_23 : decode cX5_seats 23 = .ok (.invokevirtual 48, 3) := by decide +kernel
theorem dX5_seats_26 : decode cX5_seats 26 = .ok (.aload_n 0, 1) := by decide +kernel
theorem dX5_seats_27 : decode cX5_seats 27 = .ok (.getfield 7, 3) := by decide +kernel
theorem dX5_seats_30 : decode cX5_seats 30 = .ok (.bipush 11, 2) := by decide +kernel
theorem dX5_seats_32 : decode cX5_seats 32 = .ok (.iload_n 1, 1) := by decide +kernel
theorem dX5_seats_33 : decode cX5_seats 33 = .ok (.iadd, 1) := by decide +kernel
theorem dX5_seats_34 : decode cX5_seats 34 = .ok (.iaload, 1) := by decide +kernel
theorem dX5_seats_35 : decode cX5_seats 35 = .ok (.istore_n 3, 1) := by decide +kernel
theorem dX5_seats_36 : decode cX5_seats 36 = .ok (.aload_n 0, 1) := by decide +kernel
theorem dX5_seats_37 : decode cX5_seats 37 = .ok (.getfield 7, 3) := by decide +kernel
theorem dX5_seats_40 : decode cX5_seats 40 = .ok (.bipush 11, 2) := by decide +kernel
theorem dX5_seats_42 : decode cX5_seats 42 = .ok (.iload_n 1, 1) := by decide +kernel
theorem dX5_seats_43 : decode cX5_seats 43 = .ok (.iadd, 1) := by decide +kernel
theorem dX5_seats_44 : decode cX5_seats 44 = .ok (.iload_n 2, 1) := by decide +kernel
theorem dX5_seats_45 : decode cX5_seats 45 = .ok (.iastore, 1) := by decide +kernel
theorem dX5_seats_46 : decode cX5_seats 46 = .ok (.aload_n 0, 1) := by decide +kernel
theorem dX5_seats_47 : decode cX5_seats 47 = .ok (.iload_n 3, 1) := by decide +kernel
theorem dX5_seats_48 : decode cX5_seats 48 = .ok (.iload_n 2, 1) := by decide +kernel
theorem dX5_seats_49 : decode cX5_seats 49 = .ok (.if_icmp .ne 8, 3) := by decide +kernel
theorem dX5_seats_52 : decode cX5_seats 52 = .ok (.bipush (-5), 2) := by decide +kernel
theorem dX5_seats_54 : decode cX5_seats 54 = .ok (.goto 4, 3) := by decide +kernel
theorem dX5_seats_57 : decode cX5_seats 57 = .ok (.iload_n 3, 1) := by decide +kernel
theorem dX5_seats_58 : decode cX5_seats 58 = .ok (.invokevirtual 111, 3) := by decide +kernel
theorem dX5_seats_61 : decode cX5_seats 61 = .ok (.ireturn, 1) := by decide +kernel
theorem dX5_wind_0 : decode cX5_wind 0 = .ok (.aload_n 0, 1) := by decide +kernel
theorem dX5_wind_1 : decode cX5_wind 1 = .ok (.invokevirtual 48, 3) := by decide +kernel
theorem dX5_wind_4 : decode cX5_wind 4 = .ok (.aload_n 0, 1) := by decide +kernel
theorem dX5_wind_5 : decode cX5_wind 5 = .ok (.aload_n 0, 1) := by decide +kernel
theorem dX5_wind_6 : decode cX5_wind 6 = .ok (.iload_n 1, 1) := by decide +kernel
theorem dX5_wind_7 : decode cX5_wind 7 = .ok (.iload_n 2, 1) := by decide +kernel
theorem dX5_wind_8 : decode cX5_wind 8 = .ok (.invokevirtual 120, 3) := by decide +kernel
theorem dX5_wind_11 : decode cX5_wind 11 = .ok (.invokevirtual 111, 3) := by decide +kernel
theorem dX5_wind_14 : decode cX5_wind 14 = .ok (.ireturn, 1) := by decide +kernel
theorem dX5_set_0 : decode cX5_set 0 = .ok (.iload_n 1, 1) := by decide +kernel
theorem dX5_set_1 : decode cX5_set 1 = .ok (.iconst 0, 1) := by decide +kernel
theorem dX5_set_2 : decode cX5_set 2 = .ok (.iconst 1, 1) := by decide +kernel
theorem dX5_set_3 : decode cX5_set 3 = .ok (.invokestatic 25, 3) := by decide +kernel
theorem dX5_set_6 : decode cX5_set 6 = .ok (.ifCond .ne 5, 3) := by decide +kernel
theorem dX5_set_9 : decode cX5_set 9 = .ok (.iconst (-1), 1) := by decide +kernel
theorem dX5_set_10 : decode cX5_set 10 = .ok (.ireturn, 1) := by decide +kernel
theorem dX5_set_11 : decode cX5_set 11 = .ok (.iload_n 2, 1) := by decide +kernel
theorem dX5_set_12 : decode cX5_set 12 = .ok (.iconst 0, 1) := by decide +kernel
theorem dX5_set_13 : decode cX5_set 13 = .ok (.iload_n 1, 1) := by decide +kernel
theorem dX5_set_14 : decode cX5_set 14 = .ok (.ifCond .ne 8, 3) := by decide +kernel
theorem dX5_set_17 : decode cX5_set 17 = .ok (.bipush 50, 2) := by decide +kernel
theorem dX5_set_19 : decode cX5_set 19 = .ok (.goto 5, 3) := by decide +kernel
theorem dX5_set_22 : decode cX5_set 22 = .ok (.bipush 8, 2) := by decide +kernel
theorem dX5_set_24 : decode cX5_set 24 = .ok (.invokestatic 25, 3) := by decide +kernel
theorem dX5_set_27 : decode cX5_set 27 = .ok (.ifCond .ne 6, 3) := by decide +kernel
theorem dX5_set_30 : decode cX5_set 30 = .ok (.bipush (-2), 2) := by decide +kernel
theorem dX5_set_32 : decode cX5_set 32 = .ok (.ireturn, 1) := by decide +kernel
theorem dX5_set_33 : decode cX5_set 33 = .ok (.aload_n 0, 1) := by decide +kernel
theorem dX5_set_34 : decode cX5_set 34 = .ok (.invokevirtual 48, 3) := by decide +kernel
theorem dX5_set_37 : decode cX5_set 37 = .ok (.aload_n 0, 1) := by decide +kernel
theorem dX5_set_38 : decode cX5_set 38 = .ok (.getfield 7, 3) := by decide +kernel
theorem dX5_set_41 : decode cX5_set 41 = .ok (.iconst 0, 1) := by decide +kernel
theorem dX5_set_42 : decode cX5_set 42 = .ok (.iload_n 1, 1) := by decide +kernel
theorem dX5_set_43 : decode cX5_set 43 = .ok (.iadd, 1) := by decide +kernel
theorem dX5_set_44 : decode cX5_set 44 = .ok (.iaload, 1) := by decide +kernel
theorem dX5_set_45 : decode cX5_set 45 = .ok (.istore_n 3, 1) := by decide +kernel
theorem dX5_set_46 : decode cX5_set 46 = .ok (.aload_n 0, 1) := by decide +kernel
theorem dX5_set_47 : decode cX5_set 47 = .ok (.getfield 7, 3) := by decide +kernel
theorem dX5_set_50 : decode cX5_set 50 = .ok (.iconst 0, 1) := by decide +kernel
theorem dX5_set_51 : decode cX5_set 51 = .ok (.iload_n 1, 1) := by decide +kernel
theorem dX5_set_52 : decode cX5_set 52 = .ok (.iadd, 1) := by decide +kernel
theorem dX5_set_53 : decode cX5_set 53 = .ok (.iload_n 2, 1) := by decide +kernel
theorem dX5_set_54 : decode cX5_set 54 = .ok (.iastore, 1) := by decide +kernel
theorem dX5_set_55 : decode cX5_set 55 = .ok (.aload_n 0, 1) := by decide +kernel
theorem dX5_set_56 : decode cX5_set 56 = .ok (.iload_n 3, 1) := by decide +kernel
theorem dX5_set_57 : decode cX5_set 57 = .ok (.iload_n 2, 1) := by decide +kernel
theorem dX5_set_58 : decode cX5_set 58 = .ok (.if_icmp .ne 8, 3) := by decide +kernel
theorem dX5_set_61 : decode cX5_set 61 = .ok (.bipush (-5), 2) := by decide +kernel
theorem dX5_set_63 : decode cX5_set 63 = .ok (.goto 4, 3) := by decide +kernel
theorem dX5_set_66 : decode cX5_set 66 = .ok (.iload_n 3, 1) := by decide +kernel
theorem dX5_set_67 : decode cX5_set 67 = .ok (.invokevirtual 111, 3) := by decide +kernel
theorem dX5_set_70 : decode cX5_set 70 = .ok (.ireturn, 1) := by decide +kernel
theorem dX5_vote_0 : decode cX5_vote 0 = .ok (.aload_n 0, 1) := by decide +kernel
theorem dX5_vote_1 : decode cX5_vote 1 = .ok (.invokevirtual 48, 3) := by decide +kernel
theorem dX5_vote_4 : decode cX5_vote 4 = .ok (.aload_n 0, 1) := by decide +kernel
theorem dX5_vote_5 : decode cX5_vote 5 = .ok (.aload_n 0, 1) := by decide +kernel
theorem dX5_vote_6 : decode cX5_vote 6 = .ok (.invokevirtual 123, 3) := by decide +kernel
theorem dX5_vote_9 : decode cX5_vote 9 = .ok (.invokevirtual 111, 3) := by decide +kernel
theorem dX5_vote_12 : decode cX5_vote 12 = .ok (.ireturn, 1) := by decide +kernel
theorem dX5_pass_0 : decode cX5_pass 0 = .ok (.aload_n 0, 1) := by decide +kernel
theorem dX5_pass_1 : decode cX5_pass 1 = .ok (.invokevirtual 48, 3) := by decide +kernel
theorem dX5_pass_4 : decode cX5_pass 4 = .ok (.aload_n 0, 1) := by decide +kernel
theorem dX5_pass_5 : decode cX5_pass 5 = .ok (.aload_n 0, 1) := by decide +kernel
theorem dX5_pass_6 : decode cX5_pass 6 = .ok (.iload_n 1, 1) := by decide +kernel
theorem dX5_pass_7 : decode cX5_pass 7 = .ok (.invokevirtual 126, 3) := by decide +kernel
theorem dX5_pass_10 : decode cX5_pass 10 = .ok (.invokevirtual 111, 3) := by decide +kernel
theorem dX5_pass_13 : decode cX5_pass 13 = .ok (.ireturn, 1) := by decide +kernel
theorem dX5_type_0 : decode cX5_type 0 = .ok (.aload_n 0, 1) := by decide +kernel
theorem dX5_type_1 : decode cX5_type 1 = .ok (.getfield 129, 3) := by decide +kernel
theorem dX5_type_4 : decode cX5_type 4 = .ok (.bipush 60, 2) := by decide +kernel
theorem dX5_type_6 : decode cX5_type 6 = .ok (.if_icmp .ne 6, 3) := by decide +kernel
theorem dX5_type_9 : decode cX5_type 9 = .ok (.bipush (-3), 2) := by decide +kernel
theorem dX5_type_11 : decode cX5_type 11 = .ok (.ireturn, 1) := by decide +kernel
theorem dX5_type_12 : decode cX5_type 12 = .ok (.aload_n 0, 1) := by decide +kernel
theorem dX5_type_13 : decode cX5_type 13 = .ok (.getfield 22, 3) := by decide +kernel
theorem dX5_type_16 : decode cX5_type 16 = .ok (.aload_n 0, 1) := by decide +kernel
theorem dX5_type_17 : decode cX5_type 17 = .ok (.getfield 129, 3) := by decide +kernel
theorem dX5_type_20 : decode cX5_type 20 = .ok (.iload_n 1, 1) := by decide +kernel
theorem dX5_type_21 : decode cX5_type 21 = .ok (.iastore, 1) := by decide +kernel
theorem dX5_type_22 : decode cX5_type 22 = .ok (.aload_n 0, 1) := by decide +kernel
theorem dX5_type_23 : decode cX5_type 23 = .ok (.dup, 1) := by decide +kernel
theorem dX5_type_24 : decode cX5_type 24 = .ok (.getfield 129, 3) := by decide +kernel
theorem dX5_type_27 : decode cX5_type 27 = .ok (.iconst 1, 1) := by decide +kernel
theorem dX5_type_28 : decode cX5_type 28 = .ok (.iadd, 1) := by decide +kernel
theorem dX5_type_29 : decode cX5_type 29 = .ok (.putfield 129, 3) := by decide +kernel
theorem dX5_type_32 : decode cX5_type 32 = .ok (.aload_n 0, 1) := by decide +kernel
theorem dX5_type_33 : decode cX5_type 33 = .ok (.getfield 129, 3) := by decide +kernel
theorem dX5_type_36 : decode cX5_type 36 = .ok (.ireturn, 1) := by decide +kernel
theorem dX5_clearText_0 : decode cX5_clearText 0 = .ok (.aload_n 0, 1) := by decide +kernel
theorem dX5_clearText_1 : decode cX5_clearText 1 = .ok (.getfield 129, 3) := by decide +kernel
theorem dX5_clearText_4 : decode cX5_clearText 4 = .ok (.istore_n 1, 1) := by decide +kernel
theorem dX5_clearText_5 : decode cX5_clearText 5 = .ok (.aload_n 0, 1) := by decide +kernel
theorem dX5_clearText_6 : decode cX5_clearText 6 = .ok (.iconst 0, 1) := by decide +kernel
theorem dX5_clearText_7 : decode cX5_clearText 7 = .ok (.putfield 129, 3) := by decide +kernel
theorem dX5_clearText_10 : decode cX5_clearText 10 = .ok (.iload_n 1, 1) := by decide +kernel
theorem dX5_clearText_11 : decode cX5_clearText 11 = .ok (.ireturn, 1) := by decide +kernel
theorem dX5_code_0 : decode cX5_code 0 = .ok (.aload_n 0, 1) := by decide +kernel
theorem dX5_code_1 : decode cX5_code 1 = .ok (.getfield 132, 3) := by decide +kernel
theorem dX5_code_4 : decode cX5_code 4 = .ok (.aload_n 0, 1) := by decide +kernel
theorem dX5_code_5 : decode cX5_code 5 = .ok (.getfield 129, 3) := by decide +kernel
theorem dX5_code_8 : decode cX5_code 8 = .ok (.if_icmp .ge 15, 3) := by decide +kernel
theorem dX5_code_11 : decode cX5_code 11 = .ok (.aload_n 0, 1) := by decide +kernel
theorem dX5_code_12 : decode cX5_code 12 = .ok (.getfield 22, 3) := by decide +kernel
theorem dX5_code_15 : decode cX5_code 15 = .ok (.aload_n 0, 1) := by decide +kernel
theorem dX5_code_16 : decode cX5_code 16 = .ok (.getfield 132, 3) := by decide +kernel
theorem dX5_code_19 : decode cX5_code 19 = .ok (.iaload, 1) := by decide +kernel
theorem dX5_code_20 : decode cX5_code 20 = .ok (.goto 4, 3) := by decide +kernel
theorem dX5_code_23 : decode cX5_code 23 = .ok (.iconst 0, 1) := by decide +kernel
theorem dX5_code_24 : decode cX5_code 24 = .ok (.ireturn, 1) := by decide +kernel
theorem dX5_takes_0 : decode cX5_takes 0 = .ok (.aload_n 0, 1) := by decide +kernel
theorem dX5_takes_1 : decode cX5_takes 1 = .ok (.getfield 132, 3) := by decide +kernel
theorem dX5_takes_4 : decode cX5_takes 4 = .ok (.aload_n 0, 1) := by decide +kernel
theorem dX5_takes_5 : decode cX5_takes 5 = .ok (.getfield 129, 3) := by decide +kernel
theorem dX5_takes_8 : decode cX5_takes 8 = .ok (.if_icmp .ge 20, 3) := by decide +kernel
theorem dX5_takes_11 : decode cX5_takes 11 = .ok (.aload_n 0, 1) := by decide +kernel
theorem dX5_takes_12 : decode cX5_takes 12 = .ok (.getfield 22, 3) := by decide +kernel
theorem dX5_takes_15 : decode cX5_takes 15 = .ok (.aload_n 0, 1) := by decide +kernel
theorem dX5_takes_16 : decode cX5_takes 16 = .ok (.getfield 132, 3) := by decide +kernel
theorem dX5_takes_19 : decode cX5_takes 19 = .ok (.iaload, 1) := by decide +kernel
theorem dX5_takes_20 : decode cX5_takes 20 = .ok (.iload_n 1, 1) := by decide +kernel
theorem dX5_takes_21 : decode cX5_takes 21 = .ok (.if_icmp .ne 7, 3) := by decide +kernel
theorem dX5_takes_24 : decode cX5_takes 24 = .ok (.iconst 1, 1) := by decide +kernel
theorem dX5_takes_25 : decode cX5_takes 25 = .ok (.goto 4, 3) := by decide +kernel
theorem dX5_takes_28 : decode cX5_takes 28 = .ok (.iconst 0, 1) := by decide +kernel
theorem dX5_takes_29 : decode cX5_takes 29 = .ok (.istore_n 2, 1) := by decide +kernel
theorem dX5_takes_30 : decode cX5_takes 30 = .ok (.aload_n 0, 1) := by decide +kernel
theorem dX5_takes_31 : decode cX5_takes 31 = .ok (.dup, 1) := by decide +kernel
theorem dX5_takes_32 : decode cX5_takes 32 = .ok (.getfield 132, 3) := by decide +kernel
theorem dX5_takes_35 : decode cX5_takes 35 = .ok (.iload_n 2, 1) := by decide +kernel
theorem dX5_takes_36 : decode cX5_takes 36 = .ok (.ifCond .eq 7, 3) := by decide +kernel
theorem dX5_takes_39 : decode cX5_takes 39 = .ok (.iconst 1, 1) := by decide +kernel
theorem dX5_takes_40 : decode cX5_takes 40 = .ok (.goto 4, 3) := by decide +kernel
theorem dX5_takes_43 : decode cX5_takes 43 = .ok (.iconst 0, 1) := by decide +kernel
theorem dX5_takes_44 : decode cX5_takes 44 = .ok (.iadd, 1) := by decide +kernel
theorem dX5_takes_45 : decode cX5_takes 45 = .ok (.putfield 132, 3) := by decide +kernel
theorem dX5_takes_48 : decode cX5_takes 48 = .ok (.iload_n 2, 1) := by decide +kernel
theorem dX5_takes_49 : decode cX5_takes 49 = .ok (.ireturn, 1) := by decide +kernel
theorem dX5_readNumber_0 : decode cX5_readNumber 0 = .ok (.aload_n 0, 1) := by decide +kernel
theorem dX5_readNumber_1 : decode cX5_readNumber 1 = .ok (.invokevirtual 135, 3) := by decide +kernel
theorem dX5_readNumber_4 : decode cX5_readNumber 4 = .ok (.bipush 48, 2) := by decide +kernel
theorem dX5_readNumber_6 : decode cX5_readNumber 6 = .ok (.isub, 1) := by decide +kernel
theorem dX5_readNumber_7 : decode cX5_readNumber 7 = .ok (.istore_n 3, 1) := by decide +kernel
theorem dX5_readNumber_8 : decode cX5_readNumber 8 = .ok (.iload_n 3, 1) := by decide +kernel
theorem dX5_readNumber_9 : decode cX5_readNumber 9 = .ok (.iload_n 1, 1) := by decide +kernel
theorem dX5_readNumber_10 : decode cX5_readNumber 10 = .ok (.bipush 9, 2) := by decide +kernel
theorem dX5_readNumber_12 : decode cX5_readNumber 12 = .ok (.invokestatic 25, 3) := by decide +kernel
theorem dX5_readNumber_15 : decode cX5_readNumber 15 = .ok (.ifCond .eq 8, 3) := by decide +kernel
theorem dX5_readNumber_18 : decode cX5_readNumber 18 = .ok (.iload_n 3, 1) := by decide +kernel
theorem dX5_readNumber_19 : decode cX5_readNumber 19 = .ok (.iload_n 2, 1) := by decide +kernel
theorem dX5_readNumber_20 : decode cX5_readNumber 20 = .ok (.if_icmp .le 6, 3) := by decide +kernel
theorem dX5_readNumber_23 : decode cX5_readNumber 23 = .ok (.bipush (-5), 2) := by decide +kernel
theorem dX5_readNumber_25 : decode cX5_readNumber 25 = .ok (.ireturn, 1) := by decide +kernel
theorem dX5_readNumber_26 : decode cX5_readNumber 26 = .ok (.aload_n 0, 1) := by decide +kernel
theorem dX5_readNumber_27 : decode cX5_readNumber 27 = .ok (.dup, 1) := by decide +kernel
theorem dX5_readNumber_28 : decode cX5_readNumber 28 = .ok (.getfield 132, 3) := by decide +kernel
theorem dX5_readNumber_31 : decode cX5_readNumber 31 = .ok (.iconst 1, 1) := by decide +kernel
theorem dX5_readNumber_32 : decode cX5_readNumber 32 = .ok (.iadd, 1) := by decide +kernel
theorem dX5_readNumber_33 : decode cX5_readNumber 33 = .ok (.putfield 132, 3) := by decide +kernel
theorem dX5_readNumber_36 : decode cX5_readNumber 36 = .ok (.aload_n 0, 1) := by decide +kernel
theorem dX5_readNumber_37 : decode cX5_readNumber 37 = .ok (.invokevirtual 135, 3) := by decide +kernel
theorem dX5_readNumber_40 : decode cX5_readNumber 40 = .ok (.bipush 48, 2) := by decide +kernel
theorem dX5_readNumber_42 : decode cX5_readNumber 42 = .ok (.isub, 1) := by decide +kernel
theorem dX5_readNumber_43 : decode cX5_readNumber 43 = .ok (.istore 4, 2) := by decide +kernel
theorem dX5_readNumber_45 : decode cX5_readNumber 45 = .ok (.iload_n 3, 1) := by decide +kernel
theorem dX5_readNumber_46 : decode cX5_readNumber 46 = .ok (.ifCond .le 43, 3) := by decide +kernel
theorem dX5_readNumber_49 : decode cX5_readNumber 49 = .ok (.iload 4, 2) := by decide +kernel
theorem dX5_readNumber_51 : decode cX5_readNumber 51 = .ok (.iconst 0, 1) := by decide +kernel
theorem dX5_readNumber_52 : decode cX5_readNumber 52 = .ok (.bipush 9, 2) := by decide +kernel
theorem dX5_readNumber_54 : decode cX5_readNumber 54 = .ok (.invokestatic 25, 3) := by decide +kernel
theorem dX5_readNumber_57 : decode cX5_readNumber 57 = .ok (.ifCond .eq 32, 3) := by decide +kernel
theorem dX5_readNumber_60 : decode cX5_readNumber 60 = .ok (.bipush 10, 2) := by decide +kernel
theorem dX5_readNumber_62 : decode cX5_readNumber 62 = .ok (.iload_n 3, 1) := by decide +kernel
theorem dX5_readNumber_63 : decode cX5_readNumber 63 = .ok (.imul, 1) := by decide +kernel
theorem dX5_readNumber_64 : decode cX5_readNumber 64 = .ok (.iload 4, 2) := by decide +kernel
theorem dX5_readNumber_66 : decode cX5_readNumber 66 = .ok (.iadd, 1) := by decide +kernel
theorem dX5_readNumber_67 : decode cX5_readNumber 67 = .ok (.iload_n 2, 1) := by decide +kernel
theorem dX5_readNumber_68 : decode cX5_readNumber 68 = .ok (.if_icmp .gt 21, 3) := by decide +kernel
theorem dX5_readNumber_71 : decode cX5_readNumber 71 = .ok (.bipush 10, 2) := by decide +kernel
theorem dX5_readNumber_73 : decode cX5_readNumber 73 = .ok (.iload_n 3, 1) := by decide +kernel
theorem dX5_readNumber_74 : decode cX5_readNumber 74 = .ok (.imul, 1) := by decide +kernel
theorem dX5_readNumber_75 : decode cX5_readNumber 75 = .ok (.iload 4, 2) := by decide +kernel
theorem dX5_readNumber_77 : decode cX5_readNumber 77 = .ok (.iadd, 1) := by decide +kernel
theorem dX5_readNumber_78 : decode cX5_readNumber 78 = .ok (.istore_n 3, 1) := by decide +kernel
theorem dX5_readNumber_79 : decode cX5_readNumber 79 = .ok (.aload_n 0, 1) := by decide +kernel
theorem dX5_readNumber_80 : decode cX5_readNumber 80 = .ok (.dup, 1) := by decide +kernel
theorem dX5_readNumber_81 : decode cX5_readNumber 81 = .ok (.getfield 132, 3) := by decide +kernel
theorem dX5_readNumber_84 : decode cX5_readNumber 84 = .ok (.iconst 1, 1) := by decide +kernel
theorem dX5_readNumber_85 : decode cX5_readNumber 85 = .ok (.iadd, 1) := by decide +kernel
theorem dX5_readNumber_86 : decode cX5_readNumber 86 = .ok (.putfield 132, 3) := by decide +kernel
theorem dX5_readNumber_89 : decode cX5_readNumber 89 = .ok (.iload_n 3, 1) := by decide +kernel
theorem dX5_readNumber_90 : decode cX5_readNumber 90 = .ok (.ireturn, 1) := by decide +kernel
theorem dX5_readsBoth_0 : decode cX5_readsBoth 0 = .ok (.aload_n 0, 1) := by decide +kernel
theorem dX5_readsBoth_1 : decode cX5_readsBoth 1 = .ok (.aload_n 0, 1) := by decide +kernel
theorem dX5_readsBoth_2 : decode cX5_readsBoth 2 = .ok (.iconst 0, 1) := by decide +kernel
theorem dX5_readsBoth_3 : decode cX5_readsBoth 3 = .ok (.iload_n 1, 1) := by decide +kernel
theorem dX5_readsBoth_4 : decode cX5_readsBoth 4 = .ok (.invokevirtual 138, 3) := by decide +kernel
theorem dX5_readsBoth_7 : decode cX5_readsBoth 7 = .ok (.putfield 141, 3) := by decide +kernel
theorem dX5_readsBoth_10 : decode cX5_readsBoth 10 = .ok (.aload_n 0, 1) := by decide +kernel
theorem dX5_readsBoth_11 : decode cX5_readsBoth 11 = .ok (.getfield 141, 3) := by decide +kernel
theorem dX5_readsBoth_14 : decode cX5_readsBoth 14 = .ok (.bipush (-5), 2) := by decide +kernel
theorem dX5_readsBoth_16 : decode cX5_readsBoth 16 = .ok (.if_icmp .eq 11, 3) := by decide +kernel
theorem dX5_readsBoth_19 : decode cX5_readsBoth 19 = .ok (.aload_n 0, 1) := by decide +kernel
theorem dX5_readsBoth_20 : decode cX5_readsBoth 20 = .ok (.iload_n 2, 1) := by decide +kernel
theorem dX5_readsBoth_21 : decode cX5_readsBoth 21 = .ok (.invokevirtual 144, 3) := by decide +kernel
theorem dX5_readsBoth_24 : decode cX5_readsBoth 24 = .ok (.ifCond .ne 5, 3) := by decide +kernel
theorem dX5_readsBoth_27 : decode cX5_readsBoth 27 = .ok (.iconst 0, 1) := by decide +kernel
theorem dX5_readsBoth_28 : decode cX5_readsBoth 28 = .ok (.ireturn, 1) := by decide +kernel
theorem dX5_readsBoth_29 : decode cX5_readsBoth 29 = .ok (.aload_n 0, 1) := by decide +kernel
theorem dX5_readsBoth_30 : decode cX5_readsBoth 30 = .ok (.aload_n 0, 1) := by decide +kernel
theorem dX5_readsBoth_31 : decode cX5_readsBoth 31 = .ok (.iload_n 3, 1) := by decide +kernel
theorem dX5_readsBoth_32 : decode cX5_readsBoth 32 = .ok (.iload 4, 2) := by decide +kernel
theorem dX5_readsBoth_34 : decode cX5_readsBoth 34 = .ok (.invokevirtual 138, 3) := by decide +kernel
theorem dX5_readsBoth_37 : decode cX5_readsBoth 37 = .ok (.putfield 147, 3) := by decide +kernel
theorem dX5_readsBoth_40 : decode cX5_readsBoth 40 = .ok (.aload_n 0, 1) := by decide +kernel
theorem dX5_readsBoth_41 : decode cX5_readsBoth 41 = .ok (.getfield 147, 3) := by decide +kernel
theorem dX5_readsBoth_44 : decode cX5_readsBoth 44 = .ok (.bipush (-5), 2) := by decide +kernel
theorem dX5_readsBoth_46 : decode cX5_readsBoth 46 = .ok (.if_icmp .eq 7, 3) := by decide +kernel
theorem dX5_readsBoth_49 : decode cX5_readsBoth 49 = .ok (.iconst 1, 1) := by decide +kernel
theorem dX5_readsBoth_50 : decode cX5_readsBoth 50 = .ok (.goto 4, 3) := by decide +kernel
theorem dX5_readsBoth_53 : decode cX5_readsBoth 53 = .ok (.iconst 0, 1) := by decide +kernel
theorem dX5_readsBoth_54 : decode cX5_readsBoth 54 = .ok (.ireturn, 1) := by decide +kernel
theorem dX5_readsThing_0 : decode cX5_readsThing 0 = .ok (.aload_n 0, 1) := by decide +kernel
theorem dX5_readsThing_1 : decode cX5_readsThing 1 = .ok (.aload_n 0, 1) := by decide +kernel
theorem dX5_readsThing_2 : decode cX5_readsThing 2 = .ok (.invokevirtual 135, 3) := by decide +kernel
theorem dX5_readsThing_5 : decode cX5_readsThing 5 = .ok (.putfield 150, 3) := by decide +kernel
theorem dX5_readsThing_8 : decode cX5_readsThing 8 = .ok (.aload_n 0, 1) := by decide +kernel
theorem dX5_readsThing_9 : decode cX5_readsThing 9 = .ok (.getfield 150, 3) := by decide +kernel
theorem dX5_readsThing_12 : decode cX5_readsThing 12 = .ok (.lookupswitch 164 #[(46, 116), (99, 73), (102, 94), (118, 152), (119, 52)], 52) := by decide +kernel
theorem dX5_readsThing_64 : decode cX5_readsThing 64 = .ok (.aload_n 0, 1) := by decide +kernel
theorem dX5_readsThing_65 : decode cX5_readsThing 65 = .ok (.dup, 1) := by decide +kernel
theorem dX5_readsThing_66 : decode cX5_readsThing 66 = .ok (.getfield 132, 3) := by decide +kernel
theorem dX5_readsThing_69 : decode cX5_readsThing 69 = .ok (.iconst 1, 1) := by decide +kernel
theorem dX5_readsThing_70 : decode cX5_readsThing 70 = .ok (.iadd, 1) := by decide +kernel
theorem dX5_readsThing_71 : decode cX5_readsThing 71 = .ok (.putfield 132, 3) := by decide +kernel
theorem dX5_readsThing_74 : decode cX5_readsThing 74 = .ok (.aload_n 0, 1) := by decide +kernel
theorem dX5_readsThing_75 : decode cX5_readsThing 75 = .ok (.iconst 3, 1) := by decide +kernel
theorem dX5_readsThing_76 : decode cX5_readsThing 76 = .ok (.bipush 42, 2) := by decide +kernel
theorem dX5_readsThing_78 : decode cX5_readsThing 78 = .ok (.iconst 0, 1) := by decide +kernel
theorem dX5_readsThing_79 : decode cX5_readsThing 79 = .ok (.bipush 9, 2) := by decide +kernel
theorem dX5_readsThing_81 : decode cX5_readsThing 81 = .ok (.invokevirtual 153, 3) := by decide +kernel
theorem dX5_readsThing_84 : decode cX5_readsThing 84 = .ok (.ireturn, 1) := by decide +kernel
theorem dX5_readsThing_85 : decode cX5_readsThing 85 = .ok (.aload_n 0, 1) := by decide +kernel
theorem dX5_readsThing_86 : decode cX5_readsThing 86 = .ok (.dup, 1) := by decide +kernel
theorem dX5_readsThing_87 : decode cX5_readsThing 87 = .ok (.getfield 132, 3) := by decide +kernel
theorem dX5_readsThing_90 : decode cX5_readsThing 90 = .ok (.iconst 1, 1) := by decide +kernel
theorem dX5_readsThing_91 : decode cX5_readsThing 91 = .ok (.iadd, 1) := by decide +kernel
theorem dX5_readsThing_92 : decode cX5_readsThing 92 = .ok (.putfield 132, 3) := by decide +kernel
theorem dX5_readsThing_95 : decode cX5_readsThing 95 = .ok (.aload_n 0, 1) := by decide +kernel
theorem dX5_readsThing_96 : decode cX5_readsThing 96 = .ok (.bipush 11, 2) := by decide +kernel
theorem dX5_readsThing_98 : decode cX5_readsThing 98 = .ok (.bipush 58, 2) := by decide +kernel
theorem dX5_readsThing_100 : decode cX5_readsThing 100 = .ok (.iconst 0, 1) := by decide +kernel
theorem dX5_readsThing_101 : decode cX5_readsThing 101 = .ok (.iconst 3, 1) := by decide +kernel
theorem dX5_readsThing_102 : decode cX5_readsThing 102 = .ok (.invokevirtual 153, 3) := by decide +kernel
theorem dX5_readsThing_105 : decode cX5_readsThing 105 = .ok (.ireturn, 1) := by decide +kernel
theorem dX5_readsThing_106 : decode cX5_readsThing 106 = .ok (.aload_n 0, 1) := by decide +kernel
theorem dX5_readsThing_107 : decode cX5_readsThing 107 = .ok (.dup, 1) := by decide +kernel
theorem dX5_readsThing_108 : decode cX5_readsThing 108 = .ok (.getfield 132, 3) := by decide +kernel
theorem dX5_readsThing_111 : decode cX5_readsThing 111 = .ok (.iconst 1, 1) := by decide +kernel
theorem dX5_readsThing_112 : decode cX5_readsThing 112 = .ok (.iadd, 1) := by decide +kernel
theorem dX5_readsThing_113 : decode cX5_readsThing 113 = .ok (.putfield 132, 3) := by decide +kernel
theorem dX5_readsThing_116 : decode cX5_readsThing 116 = .ok (.aload_n 0, 1) := by decide +kernel
theorem dX5_readsThing_117 : decode cX5_readsThing 117 = .ok (.bipush 11, 2) := by decide +kernel
theorem dX5_readsThing_119 : decode cX5_readsThing 119 = .ok (.bipush 43, 2) := by decide +kernel
theorem dX5_readsThing_121 : decode cX5_readsThing 121 = .ok (.iconst 1, 1) := by decide +kernel
theorem dX5_readsThing_122 : decode cX5_readsThing 122 = .ok (.bipush 64, 2) := by decide +kernel
theorem dX5_readsThing_124 : decode cX5_readsThing 124 = .ok (.invokevirtual 153, 3) := by decide +kernel
theorem dX5_readsThing_127 : decode cX5_readsThing 127 = .ok (.ireturn, 1) := by decide +kernel
theorem dX5_readsThing_128 : decode cX5_readsThing 128 = .ok (.aload_n 0, 1) := by decide +kernel
theorem dX5_readsThing_129 : decode cX5_readsThing 129 = .ok (.dup, 1) := by decide +kernel
theorem dX5_readsThing_130 : decode cX5_readsThing 130 = .ok (.getfield 132, 3) := by decide +kernel
theorem dX5_readsThing_133 : decode cX5_readsThing 133 = .ok (.iconst 1, 1) := by decide +kernel
theorem dX5_readsThing_134 : decode cX5_readsThing 134 = .ok (.iadd, 1) := by decide +kernel
theorem dX5_readsThing_135 : decode cX5_readsThing 135 = .ok (.putfield 132, 3) := by decide +kernel
theorem dX5_readsThing_138 : decode cX5_readsThing 138 = .ok (.aload_n 0, 1) := by decide +kernel
theorem dX5_readsThing_139 : decode cX5_readsThing 139 = .ok (.aload_n 0, 1) := by decide +kernel
theorem dX5_readsThing_140 : decode cX5_readsThing 140 = .ok (.iconst 1, 1) := by decide +kernel
theorem dX5_readsThing_141 : decode cX5_readsThing 141 = .ok (.bipush 99, 2) := by decide +kernel
theorem dX5_readsThing_143 : decode cX5_readsThing 143 = .ok (.invokevirtual 138, 3) := by decide +kernel
theorem dX5_readsThing_146 : decode cX5_readsThing 146 = .ok (.putfield 141, 3) := by decide +kernel
theorem dX5_readsThing_149 : decode cX5_readsThing 149 = .ok (.aload_n 0, 1) := by decide +kernel
theorem dX5_readsThing_150 : decode cX5_readsThing 150 = .ok (.getfield 141, 3) := by decide +kernel
theorem dX5_readsThing_153 : decode cX5_readsThing 153 = .ok (.bipush (-5), 2) := by decide +kernel
theorem dX5_readsThing_155 : decode cX5_readsThing 155 = .ok (.if_icmp .eq 7, 3) := by decide +kernel
theorem dX5_readsThing_158 : decode cX5_readsThing 158 = .ok (.iconst 1, 1) := by decide +kernel
theorem dX5_readsThing_159 : decode cX5_readsThing 159 = .ok (.goto 4, 3) := by decide +kernel
theorem dX5_readsThing_162 : decode cX5_readsThing 162 = .ok (.iconst 0, 1) := by decide +kernel
theorem dX5_readsThing_163 : decode cX5_readsThing 163 = .ok (.ireturn, 1) := by decide +kernel
theorem dX5_readsThing_164 : decode cX5_readsThing 164 = .ok (.aload_n 0, 1) := by decide +kernel
theorem dX5_readsThing_165 : decode cX5_readsThing 165 = .ok (.dup, 1) := by decide +kernel
theorem dX5_readsThing_166 : decode cX5_readsThing 166 = .ok (.getfield 132, 3) := by decide +kernel
theorem dX5_readsThing_169 : decode cX5_readsThing 169 = .ok (.iconst 1, 1) := by decide +kernel
theorem dX5_readsThing_170 : decode cX5_readsThing 170 = .ok (.iadd, 1) := by decide +kernel
theorem dX5_readsThing_171 : decode cX5_readsThing 171 = .ok (.putfield 132, 3) := by decide +kernel
theorem dX5_readsThing_174 : decode cX5_readsThing 174 = .ok (.iconst 1, 1) := by decide +kernel
theorem dX5_readsThing_175 : decode cX5_readsThing 175 = .ok (.ireturn, 1) := by decide +kernel
theorem dX5_readsThing_176 : decode cX5_readsThing 176 = .ok (.iconst 0, 1) := by decide +kernel
theorem dX5_readsThing_177 : decode cX5_readsThing 177 = .ok (.ireturn, 1) := by decide +kernel
theorem dX5_findFault_0 : decode cX5_findFault 0 = .ok (.aload_n 0, 1) := by decide +kernel
theorem dX5_findFault_1 : decode cX5_findFault 1 = .ok (.iconst 0, 1) := by decide +kernel
theorem dX5_findFault_2 : decode cX5_findFault 2 = .ok (.putfield 132, 3) := by decide +kernel
theorem dX5_findFault_5 : decode cX5_findFault 5 = .ok (.aload_n 0, 1) := by decide +kernel
theorem dX5_findFault_6 : decode cX5_findFault 6 = .ok (.invokevirtual 157, 3) := by decide +kernel
theorem dX5_findFault_9 : decode cX5_findFault 9 = .ok (.ifCond .eq 31, 3) := by decide +kernel
theorem dX5_findFault_12 : decode cX5_findFault 12 = .ok (.aload_n 0, 1) := by decide +kernel
theorem dX5_findFault_13 : decode cX5_findFault 13 = .ok (.getfield 132, 3) := by decide +kernel
theorem dX5_findFault_16 : decode cX5_findFault 16 = .ok (.aload_n 0, 1) := by decide +kernel
theorem dX5_findFault_17 : decode cX5_findFault 17 = .ok (.getfield 129, 3) := by decide +kernel
theorem dX5_findFault_20 : decode cX5_findFault 20 = .ok (.if_icmp .ne 6, 3) := by decide +kernel
theorem dX5_findFault_23 : decode cX5_findFault 23 = .ok (.bipush (-5), 2) := by decide +kernel
theorem dX5_findFault_25 : decode cX5_findFault 25 = .ok (.ireturn, 1) := by decide +kernel
theorem dX5_findFault_26 : decode cX5_findFault 26 = .ok (.aload_n 0, 1) := by decide +kernel
theorem dX5_findFault_27 : decode cX5_findFault 27 = .ok (.bipush 59, 2) := by decide +kernel
theorem dX5_findFault_29 : decode cX5_findFault 29 = .ok (.invokevirtual 144, 3) := by decide +kernel
theorem dX5_findFault_32 : decode cX5_findFault 32 = .ok (.ifCond .ne (-27), 3) := by decide +kernel
theorem dX5_findFault_35 : decode cX5_findFault 35 = .ok (.aload_n 0, 1) := by decide +kernel
theorem dX5_findFault_36 : decode cX5_findFault 36 = .ok (.getfield 132, 3) := by decide +kernel
theorem dX5_findFault_39 : decode cX5_findFault 39 = .ok (.ireturn, 1) := by decide +kernel
theorem dX5_findFault_40 : decode cX5_findFault 40 = .ok (.aload_n 0, 1) := by decide +kernel
theorem dX5_findFault_41 : decode cX5_findFault 41 = .ok (.getfield 132, 3) := by decide +kernel
theorem dX5_findFault_44 : decode cX5_findFault 44 = .ok (.ireturn, 1) := by decide +kernel
theorem dX5_doThing_0 : decode cX5_doThing 0 = .ok (.aload_n 0, 1) := by decide +kernel
theorem dX5_doThing_1 : decode cX5_doThing 1 = .ok (.getfield 150, 3) := by decide +kernel
theorem dX5_doThing_4 : decode cX5_doThing 4 = .ok (.lookupswitch 92 #[(46, 83), (99, 57), (102, 70), (119, 44)], 44) := by decide +kernel
theorem dX5_doThing_48 : decode cX5_doThing 48 = .ok (.aload_n 0, 1) := by decide +kernel
theorem dX5_doThing_49 : decode cX5_doThing 49 = .ok (.aload_n 0, 1) := by decide +kernel
theorem dX5_doThing_50 : decode cX5_doThing 50 = .ok (.getfield 141, 3) := by decide +kernel
theorem dX5_doThing_53 : decode cX5_doThing 53 = .ok (.aload_n 0, 1) := by decide +kernel
theorem dX5_doThing_54 : decode cX5_doThing 54 = .ok (.getfield 147, 3) := by decide +kernel
theorem dX5_doThing_57 : decode cX5_doThing 57 = .ok (.invokevirtual 120, 3) := by decide +kernel
theorem dX5_doThing_60 : decode cX5_doThing 60 = .ok (.ireturn, 1) := by decide +kernel
theorem dX5_doThing_61 : decode cX5_doThing 61 = .ok (.aload_n 0, 1) := by decide +kernel
theorem dX5_doThing_62 : decode cX5_doThing 62 = .ok (.aload_n 0, 1) := by decide +kernel
theorem dX5_doThing_63 : decode cX5_doThing 63 = .ok (.getfield 141, 3) := by decide +kernel
theorem dX5_doThing_66 : decode cX5_doThing 66 = .ok (.aload_n 0, 1) := by decide +kernel
theorem dX5_doThing_67 : decode cX5_doThing 67 = .ok (.getfield 147, 3) := by decide +kernel
theorem dX5_doThing_70 : decode cX5_doThing 70 = .ok (.invokevirtual 114, 3) := by decide +kernel
theorem dX5_doThing_73 : decode cX5_doThing 73 = .ok (.ireturn, 1) := by decide +kernel
theorem dX5_doThing_74 : decode cX5_doThing 74 = .ok (.aload_n 0, 1) := by decide +kernel
theorem dX5_doThing_75 : decode cX5_doThing 75 = .ok (.aload_n 0, 1) := by decide +kernel
theorem dX5_doThing_76 : decode cX5_doThing 76 = .ok (.getfield 141, 3) := by decide +kernel
theorem dX5_doThing_79 : decode cX5_doThing 79 = .ok (.aload_n 0, 1) := by decide +kernel
theorem dX5_doThing_80 : decode cX5_doThing 80 = .ok (.getfield 147, 3) := by decide +kernel
theorem dX5_doThing_83 : decode cX5_doThing 83 = .ok (.invokevirtual 117, 3) := by decide +kernel
theorem dX5_doThing_86 : decode cX5_doThing 86 = .ok (.ireturn, 1) := by decide +kernel
theorem dX5_doThing_87 : decode cX5_doThing 87 = .ok (.aload_n 0, 1) := by decide +kernel
theorem dX5_doThing_88 : decode cX5_doThing 88 = .ok (.aload_n 0, 1) := by decide +kernel
theorem dX5_doThing_89 : decode cX5_doThing 89 = .ok (.getfield 141, 3) := by decide +kernel
theorem dX5_doThing_92 : decode cX5_doThing 92 = .ok (.invokevirtual 126, 3) := by decide +kernel
theorem dX5_doThing_95 : decode cX5_doThing 95 = .ok (.ireturn, 1) := by decide +kernel
theorem dX5_doThing_96 : decode cX5_doThing 96 = .ok (.aload_n 0, 1) := by decide +kernel
theorem dX5_doThing_97 : decode cX5_doThing 97 = .ok (.invokevirtual 123, 3) := by decide +kernel
theorem dX5_doThing_100 : decode cX5_doThing 100 = .ok (.ireturn, 1) := by decide +kernel
theorem dX5_perform_0 : decode cX5_perform 0 = .ok (.aload_n 0, 1) := by decide +kernel
theorem dX5_perform_1 : decode cX5_perform 1 = .ok (.invokevirtual 161, 3) := by decide +kernel
theorem dX5_perform_4 : decode cX5_perform 4 = .ok (.istore_n 1, 1) := by decide +kernel
theorem dX5_perform_5 : decode cX5_perform 5 = .ok (.iload_n 1, 1) := by decide +kernel
theorem dX5_perform_6 : decode cX5_perform 6 = .ok (.bipush (-5), 2) := by decide +kernel
theorem dX5_perform_8 : decode cX5_perform 8 = .ok (.if_icmp .eq 8, 3) := by decide +kernel
theorem dX5_perform_11 : decode cX5_perform 11 = .ok (.bipush (-100), 2) := by decide +kernel
theorem dX5_perform_13 : decode cX5_perform 13 = .ok (.iload_n 1, 1) := by decide +kernel
theorem dX5_perform_14 : decode cX5_perform 14 = .ok (.isub, 1) := by decide +kernel
theorem dX5_perform_15 : decode cX5_perform 15 = .ok (.ireturn, 1) := by decide +kernel
theorem dX5_perform_16 : decode cX5_perform 16 = .ok (.aload_n 0, 1) := by decide +kernel
theorem dX5_perform_17 : decode cX5_perform 17 = .ok (.invokevirtual 48, 3) := by decide +kernel
theorem dX5_perform_20 : decode cX5_perform 20 = .ok (.aload_n 0, 1) := by decide +kernel
theorem dX5_perform_21 : decode cX5_perform 21 = .ok (.iconst 0, 1) := by decide +kernel
theorem dX5_perform_22 : decode cX5_perform 22 = .ok (.putfield 132, 3) := by decide +kernel
theorem dX5_perform_25 : decode cX5_perform 25 = .ok (.iconst 0, 1) := by decide +kernel
theorem dX5_perform_26 : decode cX5_perform 26 = .ok (.istore_n 2, 1) := by decide +kernel
theorem dX5_perform_27 : decode cX5_perform 27 = .ok (.aload_n 0, 1) := by decide +kernel
theorem dX5_perform_28 : decode cX5_perform 28 = .ok (.getfield 132, 3) := by decide +kernel
theorem dX5_perform_31 : decode cX5_perform 31 = .ok (.aload_n 0, 1) := by decide +kernel
theorem dX5_perform_32 : decode cX5_perform 32 = .ok (.getfield 129, 3) := by decide +kernel
theorem dX5_perform_35 : decode cX5_perform 35 = .ok (.if_icmp .ge 63, 3) := by decide +kernel
theorem dX5_perform_38 : decode cX5_perform 38 = .ok (.aload_n 0, 1) := by decide +kernel
theorem dX5_perform_39 : decode cX5_perform 39 = .ok (.invokevirtual 157, 3) := by decide +kernel
theorem dX5_perform_42 : decode cX5_perform 42 = .ok (.ifCond .eq 10, 3) := by decide +kernel
theorem dX5_perform_45 : decode cX5_perform 45 = .ok (.aload_n 0, 1) := by decide +kernel
theorem dX5_perform_46 : decode cX5_perform 46 = .ok (.invokevirtual 164, 3) := by decide +kernel
theorem dX5_perform_49 : decode cX5_perform 49 = .ok (.goto 5, 3) := by decide +kernel
theorem dX5_perform_52 : decode cX5_perform 52 = .ok (.bipush (-5), 2) := by decide +kernel
theorem dX5_perform_54 : decode cX5_perform 54 = .ok (.istore_n 3, 1) := by decide +kernel
theorem dX5_perform_55 : decode cX5_perform 55 = .ok (.iload_n 3, 1) := by decide +kernel
theorem dX5_perform_56 : decode cX5_perform 56 = .ok (.bipush (-4), 2) := by decide +kernel
theorem dX5_perform_58 : decode cX5_perform 58 = .ok (.iconst (-1), 1) := by decide +kernel
theorem dX5_perform_59 : decode cX5_perform 59 = .ok (.invokestatic 25, 3) := by decide +kernel
theorem dX5_perform_62 : decode cX5_perform 62 = .ok (.ifCond .eq 20, 3) := by decide +kernel
theorem dX5_perform_65 : decode cX5_perform 65 = .ok (.aload_n 0, 1) := by decide +kernel
theorem dX5_perform_66 : decode cX5_perform 66 = .ok (.invokevirtual 167, 3) := by decide +kernel
theorem dX5_perform_69 : decode cX5_perform 69 = .ok (.aload_n 0, 1) := by decide +kernel
theorem dX5_perform_70 : decode cX5_perform 70 = .ok (.iload_n 2, 1) := by decide +kernel
theorem dX5_perform_71 : decode cX5_perform 71 = .ok (.putfield 170, 3) := by decide +kernel
theorem dX5_perform_74 : decode cX5_perform 74 = .ok (.aload_n 0, 1) := by decide +kernel
theorem dX5_perform_75 : decode cX5_perform 75 = .ok (.iload_n 3, 1) := by decide +kernel
theorem dX5_perform_76 : decode cX5_perform 76 = .ok (.putfield 173, 3) := by decide +kernel
theorem dX5_perform_79 : decode cX5_perform 79 = .ok (.bipush (-4), 2) := by decide +kernel
theorem dX5_perform_81 : decode cX5_perform 81 = .ok (.ireturn, 1) := by decide +kernel
theorem dX5_perform_82 : decode cX5_perform 82 = .ok (.iinc 2 1, 3) := by decide +kernel
theorem dX5_perform_85 : decode cX5_perform 85 = .ok (.aload_n 0, 1) := by decide +kernel
theorem dX5_perform_86 : decode cX5_perform 86 = .ok (.dup, 1) := by decide +kernel
theorem dX5_perform_87 : decode cX5_perform 87 = .ok (.getfield 132, 3) := by decide +kernel
theorem dX5_perform_90 : decode cX5_perform 90 = .ok (.iconst 1, 1) := by decide +kernel
theorem dX5_perform_91 : decode cX5_perform 91 = .ok (.iadd, 1) := by decide +kernel
theorem dX5_perform_92 : decode cX5_perform 92 = .ok (.putfield 132, 3) := by decide +kernel
theorem dX5_perform_95 : decode cX5_perform 95 = .ok (.goto (-68), 3) := by decide +kernel
theorem dX5_perform_98 : decode cX5_perform 98 = .ok (.aload_n 0, 1) := by decide +kernel
theorem dX5_perform_99 : decode cX5_perform 99 = .ok (.invokevirtual 41, 3) := by decide +kernel
theorem dX5_perform_102 : decode cX5_perform 102 = .ok (.iload_n 2, 1) := by decide +kernel
theorem dX5_perform_103 : decode cX5_perform 103 = .ok (.ireturn, 1) := by decide +kernel
theorem dX5_stopped_0 : decode cX5_stopped 0 = .ok (.iload_n 1, 1) := by decide +kernel
theorem dX5_stopped_1 : decode cX5_stopped 1 = .ok (.iconst 0, 1) := by decide +kernel
theorem dX5_stopped_2 : decode cX5_stopped 2 = .ok (.iconst 1, 1) := by decide +kernel
theorem dX5_stopped_3 : decode cX5_stopped 3 = .ok (.invokestatic 25, 3) := by decide +kernel
theorem dX5_stopped_6 : decode cX5_stopped 6 = .ok (.ifCond .ne 6, 3) := by decide +kernel
theorem dX5_stopped_9 : decode cX5_stopped 9 = .ok (.bipush (-2), 2) := by decide +kernel
theorem dX5_stopped_11 : decode cX5_stopped 11 = .ok (.ireturn, 1) := by decide +kernel
theorem dX5_stopped_12 : decode cX5_stopped 12 = .ok (.aload_n 0, 1) := by decide +kernel
theorem dX5_stopped_13 : decode cX5_stopped 13 = .ok (.getfield 173, 3) := by decide +kernel
theorem dX5_stopped_16 : decode cX5_stopped 16 = .ok (.ifCond .ne 8, 3) := by decide +kernel
theorem dX5_stopped_19 : decode cX5_stopped 19 = .ok (.bipush (-5), 2) := by decide +kernel
theorem dX5_stopped_21 : decode cX5_stopped 21 = .ok (.goto 18, 3) := by decide +kernel
theorem dX5_stopped_24 : decode cX5_stopped 24 = .ok (.iload_n 1, 1) := by decide +kernel
theorem dX5_stopped_25 : decode cX5_stopped 25 = .ok (.ifCond .ne 10, 3) := by decide +kernel
theorem dX5_stopped_28 : decode cX5_stopped 28 = .ok (.aload_n 0, 1) := by decide +kernel
theorem dX5_stopped_29 : decode cX5_stopped 29 = .ok (.getfield 170, 3) := by decide +kernel
theorem dX5_stopped_32 : decode cX5_stopped 32 = .ok (.goto 7, 3) := by decide +kernel
theorem dX5_stopped_35 : decode cX5_stopped 35 = .ok (.aload_n 0, 1) := by decide +kernel
theorem dX5_stopped_36 : decode cX5_stopped 36 = .ok (.getfield 173, 3) := by decide +kernel
theorem dX5_stopped_39 : decode cX5_stopped 39 = .ok (.ireturn, 1) := by decide +kernel
theorem dX5_scarecrow_0 : decode cX5_scarecrow 0 = .ok (.aload_n 0, 1) := by decide +kernel
theorem dX5_scarecrow_1 : decode cX5_scarecrow 1 = .ok (.iload_n 1, 1) := by decide +kernel
theorem dX5_scarecrow_2 : decode cX5_scarecrow 2 = .ok (.invokevirtual 95, 3) := by decide +kernel
theorem dX5_scarecrow_5 : decode cX5_scarecrow 5 = .ok (.ifCond .ne 5, 3) := by decide +kernel
theorem dX5_scarecrow_8 : decode cX5_scarecrow 8 = .ok (.iconst (-1), 1) := by decide +kernel
theorem dX5_scarecrow_9 : decode cX5_scarecrow 9 = .ok (.ireturn, 1) := by decide +kernel
theorem dX5_scarecrow_10 : decode cX5_scarecrow 10 = .ok (.iload_n 2, 1) := by decide +kernel
theorem dX5_scarecrow_11 : decode cX5_scarecrow 11 = .ok (.iconst 0, 1) := by decide +kernel
theorem dX5_scarecrow_12 : decode cX5_scarecrow 12 = .ok (.bipush 10, 2) := by decide +kernel
theorem dX5_scarecrow_14 : decode cX5_scarecrow 14 = .ok (.invokestatic 25, 3) := by decide +kernel
theorem dX5_scarecrow_17 : decode cX5_scarecrow 17 = .ok (.ifCond .ne 6, 3) := by decide +kernel
theorem dX5_scarecrow_20 : decode cX5_scarecrow 20 = .ok (.bipush (-2), 2) := by decide +kernel
theorem dX5_scarecrow_22 : decode cX5_scarecrow 22 = .ok (.ireturn, 1) := by decide +kernel
theorem dX5_scarecrow_23 : decode cX5_scarecrow 23 = .ok (.iload_n 2, 1) := by decide +kernel
theorem dX5_scarecrow_24 : decode cX5_scarecrow 24 = .ok (.iconst 4, 1) := by decide +kernel
theorem dX5_scarecrow_25 : decode cX5_scarecrow 25 = .ok (.if_icmp .ne 11, 3) := by decide +kernel
theorem dX5_scarecrow_28 : decode cX5_scarecrow 28 = .ok (.aload_n 0, 1) := by decide +kernel
theorem dX5_scarecrow_29 : decode cX5_scarecrow 29 = .ok (.iload_n 1, 1) := by decide +kernel
theorem dX5_scarecrow_30 : decode cX5_scarecrow 30 = .ok (.invokevirtual 79, 3) := by decide +kernel
theorem dX5_scarecrow_33 : decode cX5_scarecrow 33 = .ok (.goto 9, 3) := by decide +kernel
theorem dX5_scarecrow_36 : decode cX5_scarecrow 36 = .ok (.aload_n 0, 1) := by decide +kernel
theorem dX5_scarecrow_37 : decode cX5_scarecrow 37 = .ok (.iload_n 1, 1) := by decide +kernel
theorem dX5_scarecrow_38 : decode cX5_scarecrow 38 = .ok (.iload_n 2, 1) := by decide +kernel
theorem dX5_scarecrow_39 : decode cX5_scarecrow 39 = .ok (.invokevirtual 29, 3) := by decide +kernel
theorem dX5_scarecrow_42 : decode cX5_scarecrow 42 = .ok (.ireturn, 1) := by decide +kernel
theorem dX5_straw_0 : decode cX5_straw 0 = .ok (.aload_n 0, 1) := by decide +kernel
theorem dX5_straw_1 : decode cX5_straw 1 = .ok (.iload_n 1, 1) := by decide +kernel
theorem dX5_straw_2 : decode cX5_straw 2 = .ok (.invokevirtual 95, 3) := by decide +kernel
theorem dX5_straw_5 : decode cX5_straw 5 = .ok (.ifCond .eq 17, 3) := by decide +kernel
theorem dX5_straw_8 : decode cX5_straw 8 = .ok (.aload_n 0, 1) := by decide +kernel
theorem dX5_straw_9 : decode cX5_straw 9 = .ok (.iload_n 1, 1) := by decide +kernel
theorem dX5_straw_10 : decode cX5_straw 10 = .ok (.iconst 4, 1) := by decide +kernel
theorem dX5_straw_11 : decode cX5_straw 11 = .ok (.invokevirtual 29, 3) := by decide +kernel
theorem dX5_straw_14 : decode cX5_straw 14 = .ok (.i2d, 1) := by decide +kernel
theorem dX5_straw_15 : decode cX5_straw 15 = .ok (.ldc2_w 176, 3) := by decide +kernel
theorem dX5_straw_18 : decode cX5_straw 18 = .ok (.ddiv, 1) := by decide +kernel
theorem dX5_straw_19 : decode cX5_straw 19 = .ok (.goto 6, 3) := by decide +kernel
theorem dX5_straw_22 : decode cX5_straw 22 = .ok (.ldc2_w 178, 3) := by decide +kernel
theorem dX5_straw_25 : decode cX5_straw 25 = .ok (.dreturn, 1) := by decide +kernel
theorem dX5_weight_0 : decode cX5_weight 0 = .ok (.iload_n 1, 1) := by decide +kernel
theorem dX5_weight_1 : decode cX5_weight 1 = .ok (.invokestatic 108, 3) := by decide +kernel
theorem dX5_weight_4 : decode cX5_weight 4 = .ok (.ifCond .eq 30, 3) := by decide +kernel
theorem dX5_weight_7 : decode cX5_weight 7 = .ok (.iload_n 2, 1) := by decide +kernel
theorem dX5_weight_8 : decode cX5_weight 8 = .ok (.invokestatic 98, 3) := by decide +kernel
theorem dX5_weight_11 : decode cX5_weight 11 = .ok (.ifCond .eq 23, 3) := by decide +kernel
theorem dX5_weight_14 : decode cX5_weight 14 = .ok (.aload_n 0, 1) := by decide +kernel
theorem dX5_weight_15 : decode cX5_weight 15 = .ok (.iload_n 1, 1) := by decide +kernel
theorem dX5_weight_16 : decode cX5_weight 16 = .ok (.iload_n 2, 1) := by decide +kernel
theorem dX5_weight_17 : decode cX5_weight 17 = .ok (.aload_n 0, 1) := by decide +kernel
theorem dX5_weight_18 : decode cX5_weight 18 = .ok (.getfield 7, 3) := by decide +kernel
theorem dX5_weight_21 : decode cX5_weight 21 = .ok (.iconst 1, 1) := by decide +kernel
theorem dX5_weight_22 : decode cX5_weight 22 = .ok (.iaload, 1) := by decide +kernel
theorem dX5_weight_23 : decode cX5_weight 23 = .ok (.invokevirtual 51, 3) := by decide +kernel
theorem dX5_weight_26 : decode cX5_weight 26 = .ok (.i2d, 1) := by decide +kernel
theorem dX5_weight_27 : decode cX5_weight 27 = .ok (.ldc2_w 176, 3) := by decide +kernel
theorem dX5_weight_30 : decode cX5_weight 30 = .ok (.ddiv, 1) := by decide +kernel
theorem dX5_weight_31 : decode cX5_weight 31 = .ok (.goto 6, 3) := by decide +kernel
theorem dX5_weight_34 : decode cX5_weight 34 = .ok (.ldc2_w 178, 3) := by decide +kernel
theorem dX5_weight_37 : decode cX5_weight 37 = .ok (.dreturn, 1) := by decide +kernel
theorem dX5_standing_0 : decode cX5_standing 0 = .ok (.iconst 0, 1) := by decide +kernel
theorem dX5_standing_1 : decode cX5_standing 1 = .ok (.istore_n 2, 1) := by decide +kernel
theorem dX5_standing_2 : decode cX5_standing 2 = .ok (.iconst 0, 1) := by decide +kernel
theorem dX5_standing_3 : decode cX5_standing 3 = .ok (.istore_n 3, 1) := by decide +kernel
theorem dX5_standing_4 : decode cX5_standing 4 = .ok (.iload_n 3, 1) := by decide +kernel
theorem dX5_standing_5 : decode cX5_standing 5 = .ok (.aload_n 0, 1) := by decide +kernel
theorem dX5_standing_6 : decode cX5_standing 6 = .ok (.getfield 7, 3) := by decide +kernel
theorem dX5_standing_9 : decode cX5_standing 9 = .ok (.bipush 10, 2) := by decide +kernel
theorem dX5_standing_11 : decode cX5_standing 11 = .ok (.iaload, 1) := by decide +kernel
theorem dX5_standing_12 : decode cX5_standing 12 = .ok (.if_icmp .ge 29, 3) := by decide +kernel
theorem dX5_standing_15 : decode cX5_standing 15 = .ok (.iload_n 2, 1) := by decide +kernel
theorem dX5_standing_16 : decode cX5_standing 16 = .ok (.aload_n 0, 1) := by decide +kernel
theorem dX5_standing_17 : decode cX5_standing 17 = .ok (.iload_n 3, 1) := by decide +kernel
theorem dX5_standing_18 : decode cX5_standing 18 = .ok (.iconst 0, 1) := by decide +kernel
theorem dX5_standing_19 : decode cX5_standing 19 = .ok (.invokevirtual 29, 3) := by decide +kernel
theorem dX5_standing_22 : decode cX5_standing 22 = .ok (.iload_n 1, 1) := by decide +kernel
theorem dX5_standing_23 : decode cX5_standing 23 = .ok (.if_icmp .ne 9, 3) := by decide +kernel
theorem dX5_standing_26 : decode cX5_standing 26 = .ok (.iconst 1, 1) := by decide +kernel
theorem dX5_standing_27 : decode cX5_standing 27 = .ok (.iload_n 3, 1) := by decide +kernel
theorem dX5_standing_28 : decode cX5_standing 28 = .ok (.ishl, 1) := by decide +kernel
theorem dX5_standing_29 : decode cX5_standing 29 = .ok (.goto 4, 3) := by decide +kernel
theorem dX5_standing_32 : decode cX5_standing 32 = .ok (.iconst 0, 1) := by decide +kernel
theorem dX5_standing_33 : decode cX5_standing 33 = .ok (.ior, 1) := by decide +kernel
theorem dX5_standing_34 : decode cX5_standing 34 = .ok (.istore_n 2, 1) := by decide +kernel
theorem dX5_standing_35 : decode cX5_standing 35 = .ok (.iinc 3 1, 3) := by decide +kernel
theorem dX5_standing_38 : decode cX5_standing 38 = .ok (.goto (-34), 3) := by decide +kernel
theorem dX5_standing_41 : decode cX5_standing 41 = .ok (.iload_n 2, 1) := by decide +kernel
theorem dX5_standing_42 : decode cX5_standing 42 = .ok (.ireturn, 1) := by decide +kernel
theorem dX5_field_0 : decode cX5_field 0 = .ok (.iload_n 1, 1) := by decide +kernel
theorem dX5_field_1 : decode cX5_field 1 = .ok (.invokestatic 108, 3) := by decide +kernel
theorem dX5_field_4 : decode cX5_field 4 = .ok (.ifCond .ne 5, 3) := by decide +kernel
theorem dX5_field_7 : decode cX5_field 7 = .ok (.iconst (-1), 1) := by decide +kernel
theorem dX5_field_8 : decode cX5_field 8 = .ok (.ireturn, 1) := by decide +kernel
theorem dX5_field_9 : decode cX5_field 9 = .ok (.iload_n 2, 1) := by decide +kernel
theorem dX5_field_10 : decode cX5_field 10 = .ok (.tableswitch 64 0 3 #[30, 40, 46, 58], 30) := by decide +kernel
theorem dX5_field_40 : decode cX5_field 40 = .ok (.aload_n 0, 1) := by decide +kernel
theorem dX5_field_41 : decode cX5_field 41 = .ok (.getfield 7, 3) := by decide +kernel
theorem dX5_field_44 : decode cX5_field 44 = .ok (.bipush 11, 2) := by decide +kernel
theorem dX5_field_46 : decode cX5_field 46 = .ok (.iload_n 1, 1) := by decide +kernel
theorem dX5_field_47 : decode cX5_field 47 = .ok (.iadd, 1) := by decide +kernel
theorem dX5_field_48 : decode cX5_field 48 = .ok (.iaload, 1) := by decide +kernel
theorem dX5_field_49 : decode cX5_field 49 = .ok (.ireturn, 1) := by decide +kernel
theorem dX5_field_50 : decode cX5_field 50 = .ok (.aload_n 0, 1) := by decide +kernel
theorem dX5_field_51 : decode cX5_field 51 = .ok (.iload_n 1, 1) := by decide +kernel
theorem dX5_field_52 : decode cX5_field 52 = .ok (.invokevirtual 180, 3) := by decide +kernel
theorem dX5_field_55 : decode cX5_field 55 = .ok (.ireturn, 1) := by decide +kernel
theorem dX5_field_56 : decode cX5_field 56 = .ok (.aload_n 0, 1) := by decide +kernel
theorem dX5_field_57 : decode cX5_field 57 = .ok (.iload_n 1, 1) := by decide +kernel
theorem dX5_field_58 : decode cX5_field 58 = .ok (.aload_n 0, 1) := by decide +kernel
theorem dX5_field_59 : decode cX5_field 59 = .ok (.getfield 7, 3) := by decide +kernel
theorem dX5_field_62 : decode cX5_field 62 = .ok (.iconst 1, 1) := by decide +kernel
theorem dX5_field_63 : decode cX5_field 63 = .ok (.iaload, 1) := by decide +kernel
theorem dX5_field_64 : decode cX5_field 64 = .ok (.invokevirtual 68, 3) := by decide +kernel
theorem dX5_field_67 : decode cX5_field 67 = .ok (.ireturn, 1) := by decide +kernel
theorem dX5_field_68 : decode cX5_field 68 = .ok (.aload_n 0, 1) := by decide +kernel
theorem dX5_field_69 : decode cX5_field 69 = .ok (.iload_n 1, 1) := by decide +kernel
theorem dX5_field_70 : decode cX5_field 70 = .ok (.invokevirtual 61, 3) := by decide +kernel
theorem dX5_field_73 : decode cX5_field 73 = .ok (.ireturn, 1) := by decide +kernel
theorem dX5_field_74 : decode cX5_field 74 = .ok (.bipush (-2), 2) := by decide +kernel
theorem dX5_field_76 : decode cX5_field 76 = .ok (.ireturn, 1) := by decide +kernel
theorem dX5_reason_0 : decode cX5_reason 0 = .ok (.iload_n 1, 1) := by decide +kernel
theorem dX5_reason_1 : decode cX5_reason 1 = .ok (.invokestatic 108, 3) := by decide +kernel
theorem dX5_reason_4 : decode cX5_reason 4 = .ok (.ifCond .ne 5, 3) := by decide +kernel
theorem dX5_reason_7 : decode cX5_reason 7 = .ok (.iconst (-1), 1) := by decide +kernel
theorem dX5_reason_8 : decode cX5_reason 8 = .ok (.ireturn, 1) := by decide +kernel
theorem dX5_reason_9 : decode cX5_reason 9 = .ok (.aload_n 0, 1) := by decide +kernel
theorem dX5_reason_10 : decode cX5_reason 10 = .ok (.iload_n 1, 1) := by decide +kernel
theorem dX5_reason_11 : decode cX5_reason 11 = .ok (.invokevirtual 180, 3) := by decide +kernel
theorem dX5_reason_14 : decode cX5_reason 14 = .ok (.ifCond .ne 5, 3) := by decide +kernel
theorem dX5_reason_17 : decode cX5_reason 17 = .ok (.iconst 3, 1) := by decide +kernel
theorem dX5_reason_18 : decode cX5_reason 18 = .ok (.ireturn, 1) := by decide +kernel
theorem dX5_reason_19 : decode cX5_reason 19 = .ok (.aload_n 0, 1) := by decide +kernel
theorem dX5_reason_20 : decode cX5_reason 20 = .ok (.iload_n 1, 1) := by decide +kernel
theorem dX5_reason_21 : decode cX5_reason 21 = .ok (.aload_n 0, 1) := by decide +kernel
theorem dX5_reason_22 : decode cX5_reason 22 = .ok (.getfield 7, 3) := by decide +kernel
theorem dX5_reason_25 : decode cX5_reason 25 = .ok (.iconst 1, 1) := by decide +kernel
theorem dX5_reason_26 : decode cX5_reason 26 = .ok (.iaload, 1) := by decide +kernel
theorem dX5_reason_27 : decode cX5_reason 27 = .ok (.invokevirtual 58, 3) := by decide +kernel
theorem dX5_reason_30 : decode cX5_reason 30 = .ok (.istore_n 2, 1) := by decide +kernel
theorem dX5_reason_31 : decode cX5_reason 31 = .ok (.iload_n 2, 1) := by decide +kernel
theorem dX5_reason_32 : decode cX5_reason 32 = .ok (.ifCond .ne 5, 3) := by decide +kernel
theorem dX5_reason_35 : decode cX5_reason 35 = .ok (.iconst 4, 1) := by decide +kernel
theorem dX5_reason_36 : decode cX5_reason 36 = .ok (.ireturn, 1) := by decide +kernel
theorem dX5_reason_37 : decode cX5_reason 37 = .ok (.iload_n 2, 1) := by decide +kernel
theorem dX5_reason_38 : decode cX5_reason 38 = .ok (.iload_n 2, 1) := by decide +kernel
theorem dX5_reason_39 : decode cX5_reason 39 = .ok (.iconst 1, 1) := by decide +kernel
theorem dX5_reason_40 : decode cX5_reason 40 = .ok (.isub, 1) := by decide +kernel
theorem dX5_reason_41 : decode cX5_reason 41 = .ok (.iand, 1) := by decide +kernel
theorem dX5_reason_42 : decode cX5_reason 42 = .ok (.ifCond .ne 7, 3) := by decide +kernel
theorem dX5_reason_45 : decode cX5_reason 45 = .ok (.iconst 1, 1) := by decide +kernel
theorem dX5_reason_46 : decode cX5_reason 46 = .ok (.goto 4, 3) := by decide +kernel
theorem dX5_reason_49 : decode cX5_reason 49 = .ok (.iconst 0, 1) := by decide +kernel
theorem dX5_reason_50 : decode cX5_reason 50 = .ok (.istore_n 3, 1) := by decide +kernel
theorem dX5_reason_51 : decode cX5_reason 51 = .ok (.iload_n 3, 1) := by decide +kernel
theorem dX5_reason_52 : decode cX5_reason 52 = .ok (.ifCond .eq 7, 3) := by decide +kernel
theorem dX5_reason_55 : decode cX5_reason 55 = .ok (.iconst 0, 1) := by decide +kernel
theorem dX5_reason_56 : decode cX5_reason 56 = .ok (.goto 26, 3) := by decide +kernel
theorem dX5_reason_59 : decode cX5_reason 59 = .ok (.iload_n 2, 1) := by decide +kernel
theorem dX5_reason_60 : decode cX5_reason 60 = .ok (.aload_n 0, 1) := by decide +kernel
theorem dX5_reason_61 : decode cX5_reason 61 = .ok (.aload_n 0, 1) := by decide +kernel
theorem dX5_reason_62 : decode cX5_reason 62 = .ok (.iload_n 1, 1) := by decide +kernel
theorem dX5_reason_63 : decode cX5_reason 63 = .ok (.invokevirtual 61, 3) := by decide +kernel
theorem dX5_reason_66 : decode cX5_reason 66 = .ok (.iconst 3, 1) := by decide +kernel
theorem dX5_reason_67 : decode cX5_reason 67 = .ok (.invokevirtual 29, 3) := by decide +kernel
theorem dX5_reason_70 : decode cX5_reason 70 = .ok (.ishr, 1) := by decide +kernel
theorem dX5_reason_71 : decode cX5_reason 71 = .ok (.iconst 1, 1) := by decide +kernel
theorem dX5_reason_72 : decode cX5_reason 72 = .ok (.iand, 1) := by decide +kernel
theorem dX5_reason_73 : decode cX5_reason 73 = .ok (.iconst 1, 1) := by decide +kernel
theorem dX5_reason_74 : decode cX5_reason 74 = .ok (.if_icmp .ne 7, 3) := by decide +kernel
theorem dX5_reason_77 : decode cX5_reason 77 = .ok (.iconst 1, 1) := by decide +kernel
theorem dX5_reason_78 : decode cX5_reason 78 = .ok (.goto 4, 3) := by decide +kernel
theorem dX5_reason_81 : decode cX5_reason 81 = .ok (.iconst 2, 1) := by decide +kernel
theorem dX5_reason_82 : decode cX5_reason 82 = .ok (.ireturn, 1) := by decide +kernel
theorem dX5_decision_0 : decode cX5_decision 0 = .ok (.iload_n 1, 1) := by decide +kernel
theorem dX5_decision_1 : decode cX5_decision 1 = .ok (.iconst 0, 1) := by decide +kernel
theorem dX5_decision_2 : decode cX5_decision 2 = .ok (.iconst 1, 1) := by decide +kernel
theorem dX5_decision_3 : decode cX5_decision 3 = .ok (.invokestatic 25, 3) := by decide +kernel
theorem dX5_decision_6 : decode cX5_decision 6 = .ok (.ifCond .eq 16, 3) := by decide +kernel
theorem dX5_decision_9 : decode cX5_decision 9 = .ok (.aload_n 0, 1) := by decide +kernel
theorem dX5_decision_10 : decode cX5_decision 10 = .ok (.aload_n 0, 1) := by decide +kernel
theorem dX5_decision_11 : decode cX5_decision 11 = .ok (.getfield 7, 3) := by decide +kernel
theorem dX5_decision_14 : decode cX5_decision 14 = .ok (.iconst 1, 1) := by decide +kernel
theorem dX5_decision_15 : decode cX5_decision 15 = .ok (.iaload, 1) := by decide +kernel
theorem dX5_decision_16 : decode cX5_decision 16 = .ok (.invokevirtual 101, 3) := by decide +kernel
theorem dX5_decision_19 : decode cX5_decision 19 = .ok (.goto 5, 3) := by decide +kernel
theorem dX5_decision_22 : decode cX5_decision 22 = .ok (.bipush (-2), 2) := by decide +kernel
theorem dX5_decision_24 : decode cX5_decision 24 = .ok (.ireturn, 1) := by decide +kernel
theorem dX5_swingsWith_0 : decode cX5_swingsWith 0 = .ok (.aload_n 0, 1) := by decide +kernel
theorem dX5_swingsWith_1 : decode cX5_swingsWith 1 = .ok (.iload_n 1, 1) := by decide +kernel
theorem dX5_swingsWith_2 : decode cX5_swingsWith 2 = .ok (.iconst 3, 1) := by decide +kernel
theorem dX5_swingsWith_3 : decode cX5_swingsWith 3 = .ok (.invokevirtual 29, 3) := by decide +kernel
theorem dX5_swingsWith_6 : decode cX5_swingsWith 6 = .ok (.istore_n 3, 1) := by decide +kernel
theorem dX5_swingsWith_7 : decode cX5_swingsWith 7 = .ok (.iconst 0, 1) := by decide +kernel
theorem dX5_swingsWith_8 : decode cX5_swingsWith 8 = .ok (.istore 4, 2) := by decide +kernel
theorem dX5_swingsWith_10 : decode cX5_swingsWith 10 = .ok (.iconst 0, 1) := by decide +kernel
theorem dX5_swingsWith_11 : decode cX5_swingsWith 11 = .ok (.istore 5, 2) := by decide +kernel
theorem dX5_swingsWith_13 : decode cX5_swingsWith 13 = .ok (.iload 5, 2) := by decide +kernel
theorem dX5_swingsWith_15 : decode cX5_swingsWith 15 = .ok (.iconst 4, 1) := by decide +kernel
theorem dX5_swingsWith_16 : decode cX5_swingsWith 16 = .ok (.if_icmp .ge 43, 3) := by decide +kernel
theorem dX5_swingsWith_19 : decode cX5_swingsWith 19 = .ok (.aload_n 0, 1) := by decide +kernel
theorem dX5_swingsWith_20 : decode cX5_swingsWith 20 = .ok (.iload_n 1, 1) := by decide +kernel
theorem dX5_swingsWith_21 : decode cX5_swingsWith 21 = .ok (.iconst 3, 1) := by decide +kernel
theorem dX5_swingsWith_22 : decode cX5_swingsWith 22 = .ok (.iload 5, 2) := by decide +kernel
theorem dX5_swingsWith_24 : decode cX5_swingsWith 24 = .ok (.invokevirtual 75, 3) := by decide +kernel
theorem dX5_swingsWith_27 : decode cX5_swingsWith 27 = .ok (.iload 4, 2) := by decide +kernel
theorem dX5_swingsWith_29 : decode cX5_swingsWith 29 = .ok (.ifCond .ne 17, 3) := by decide +kernel
theorem dX5_swingsWith_32 : decode cX5_swingsWith 32 = .ok (.aload_n 0, 1) := by decide +kernel
theorem dX5_swingsWith_33 : decode cX5_swingsWith 33 = .ok (.aload_n 0, 1) := by decide +kernel
theorem dX5_swingsWith_34 : decode cX5_swingsWith 34 = .ok (.getfield 7, 3) := by decide +kernel
theorem dX5_swingsWith_37 : decode cX5_swingsWith 37 = .ok (.iconst 1, 1) := by decide +kernel
theorem dX5_swingsWith_38 : decode cX5_swingsWith 38 = .ok (.iaload, 1) := by decide +kernel
theorem dX5_swingsWith_39 : decode cX5_swingsWith 39 = .ok (.invokevirtual 101, 3) := by decide +kernel
theorem dX5_swingsWith_42 : decode cX5_swingsWith 42 = .ok (.iload_n 2, 1) := by decide +kernel
theorem dX5_swingsWith_43 : decode cX5_swingsWith 43 = .ok (.if_icmp .eq 7, 3) := by decide +kernel
theorem dX5_swingsWith_46 : decode cX5_swingsWith 46 = .ok (.iconst 1, 1) := by decide +kernel
theorem dX5_swingsWith_47 : decode cX5_swingsWith 47 = .ok (.goto 4, 3) := by decide +kernel
theorem dX5_swingsWith_50 : decode cX5_swingsWith 50 = .ok (.iconst 0, 1) := by decide +kernel
theorem dX5_swingsWith_51 : decode cX5_swingsWith 51 = .ok (.istore 4, 2) := by decide +kernel
theorem dX5_swingsWith_53 : decode cX5_swingsWith 53 = .ok (.iinc 5 1, 3) := by decide +kernel
theorem dX5_swingsWith_56 : decode cX5_swingsWith 56 = .ok (.goto (-43), 3) := by decide +kernel
theorem dX5_swingsWith_59 : decode cX5_swingsWith 59 = .ok (.aload_n 0, 1) := by decide +kernel
theorem dX5_swingsWith_60 : decode cX5_swingsWith 60 = .ok (.iload_n 1, 1) := by decide +kernel
theorem dX5_swingsWith_61 : decode cX5_swingsWith 61 = .ok (.iconst 3, 1) := by decide +kernel
theorem dX5_swingsWith_62 : decode cX5_swingsWith 62 = .ok (.iload_n 3, 1) := by decide +kernel
theorem dX5_swingsWith_63 : decode cX5_swingsWith 63 = .ok (.invokevirtual 75, 3) := by decide +kernel
theorem dX5_swingsWith_66 : decode cX5_swingsWith 66 = .ok (.iload 4, 2) := by decide +kernel
theorem dX5_swingsWith_68 : decode cX5_swingsWith 68 = .ok (.ireturn, 1) := by decide +kernel
theorem dX5_swings_0 : decode cX5_swings 0 = .ok (.aload_n 0, 1) := by decide +kernel
theorem dX5_swings_1 : decode cX5_swings 1 = .ok (.aload_n 0, 1) := by decide +kernel
theorem dX5_swings_2 : decode cX5_swings 2 = .ok (.getfield 7, 3) := by decide +kernel
theorem dX5_swings_5 : decode cX5_swings 5 = .ok (.iconst 1, 1) := by decide +kernel
theorem dX5_swings_6 : decode cX5_swings 6 = .ok (.iaload, 1) := by decide +kernel
theorem dX5_swings_7 : decode cX5_swings 7 = .ok (.invokevirtual 101, 3) := by decide +kernel
theorem dX5_swings_10 : decode cX5_swings 10 = .ok (.istore_n 1, 1) := by decide +kernel
theorem dX5_swings_11 : decode cX5_swings 11 = .ok (.iconst 0, 1) := by decide +kernel
theorem dX5_swings_12 : decode cX5_swings 12 = .ok (.istore_n 2, 1) := by decide +kernel
theorem dX5_swings_13 : decode cX5_swings 13 = .ok (.iconst 0, 1) := by decide +kernel
theorem dX5_swings_14 : decode cX5_swings 14 = .ok (.istore_n 3, 1) := by decide +kernel
theorem dX5_swings_15 : decode cX5_swings 15 = .ok (.iload_n 3, 1) := by decide +kernel
theorem dX5_swings_16 : decode cX5_swings 16 = .ok (.aload_n 0, 1) := by decide +kernel
theorem dX5_swings_17 : decode cX5_swings 17 = .ok (.getfield 7, 3) := by decide +kernel
theorem dX5_swings_20 : decode cX5_swings 20 = .ok (.bipush 10, 2) := by decide +kernel
theorem dX5_swings_22 : decode cX5_swings 22 = .ok (.iaload, 1) := by decide +kernel
theorem dX5_swings_23 : decode cX5_swings 23 = .ok (.if_icmp .ge 28, 3) := by decide +kernel
theorem dX5_swings_26 : decode cX5_swings 26 = .ok (.iload_n 2, 1) := by decide +kernel
theorem dX5_swings_27 : decode cX5_swings 27 = .ok (.aload_n 0, 1) := by decide +kernel
theorem dX5_swings_28 : decode cX5_swings 28 = .ok (.iload_n 3, 1) := by decide +kernel
theorem dX5_swings_29 : decode cX5_swings 29 = .ok (.iload_n 1, 1) := by decide +kernel
theorem dX5_swings_30 : decode cX5_swings 30 = .ok (.invokevirtual 183, 3) := by decide +kernel
theorem dX5_swings_33 : decode cX5_swings 33 = .ok (.ifCond .eq 9, 3) := by decide +kernel
theorem dX5_swings_36 : decode cX5_swings 36 = .ok (.iconst 1, 1) := by decide +kernel
theorem dX5_swings_37 : decode cX5_swings 37 = .ok (.iload_n 3, 1) := by decide +kernel
theorem dX5_swings_38 : decode cX5_swings 38 = .ok (.ishl, 1) := by decide +kernel
theorem dX5_swings_39 : decode cX5_swings 39 = .ok (.goto 4, 3) := by decide +kernel
theorem dX5_swings_42 : decode cX5_swings 42 = .ok (.iconst 0, 1) := by decide +kernel
theorem dX5_swings_43 : decode cX5_swings 43 = .ok (.ior, 1) := by decide +kernel
theorem dX5_swings_44 : decode cX5_swings 44 = .ok (.istore_n 2, 1) := by decide +kernel
theorem dX5_swings_45 : decode cX5_swings 45 = .ok (.iinc 3 1, 3) := by decide +kernel
theorem dX5_swings_48 : decode cX5_swings 48 = .ok (.goto (-33), 3) := by decide +kernel
theorem dX5_swings_51 : decode cX5_swings 51 = .ok (.iload_n 2, 1) := by decide +kernel
theorem dX5_swings_52 : decode cX5_swings 52 = .ok (.ireturn, 1) := by decide +kernel
theorem dX5_withoutCrows_0 : decode cX5_withoutCrows 0 = .ok (.aload_n 0, 1) := by decide +kernel
theorem dX5_withoutCrows_1 : decode cX5_withoutCrows 1 = .ok (.iconst 0, 1) := by decide +kernel
theorem dX5_withoutCrows_2 : decode cX5_withoutCrows 2 = .ok (.invokevirtual 101, 3) := by decide +kernel
theorem dX5_withoutCrows_5 : decode cX5_withoutCrows 5 = .ok (.ireturn, 1) := by decide +kernel
theorem dX5_turnsIn_0 : decode cX5_turnsIn 0 = .ok (.aload_n 0, 1) := by decide +kernel
theorem dX5_turnsIn_1 : decode cX5_turnsIn 1 = .ok (.iload_n 1, 1) := by decide +kernel
theorem dX5_turnsIn_2 : decode cX5_turnsIn 2 = .ok (.invokevirtual 95, 3) := by decide +kernel
theorem dX5_turnsIn_5 : decode cX5_turnsIn 5 = .ok (.ifCond .ne 5, 3) := by decide +kernel
theorem dX5_turnsIn_8 : decode cX5_turnsIn 8 = .ok (.iconst (-1), 1) := by decide +kernel
theorem dX5_turnsIn_9 : decode cX5_turnsIn 9 = .ok (.ireturn, 1) := by decide +kernel
theorem dX5_turnsIn_10 : decode cX5_turnsIn 10 = .ok (.aload_n 0, 1) := by decide +kernel
theorem dX5_turnsIn_11 : decode cX5_turnsIn 11 = .ok (.invokevirtual 48, 3) := by decide +kernel
theorem dX5_turnsIn_14 : decode cX5_turnsIn 14 = .ok (.aload_n 0, 1) := by decide +kernel
theorem dX5_turnsIn_15 : decode cX5_turnsIn 15 = .ok (.iload_n 1, 1) := by decide +kernel
theorem dX5_turnsIn_16 : decode cX5_turnsIn 16 = .ok (.bipush 9, 2) := by decide +kernel
theorem dX5_turnsIn_18 : decode cX5_turnsIn 18 = .ok (.invokevirtual 29, 3) := by decide +kernel
theorem dX5_turnsIn_21 : decode cX5_turnsIn 21 = .ok (.istore_n 2, 1) := by decide +kernel
theorem dX5_turnsIn_22 : decode cX5_turnsIn 22 = .ok (.iconst 0, 1) := by decide +kernel
theorem dX5_turnsIn_23 : decode cX5_turnsIn 23 = .ok (.istore_n 3, 1) := by decide +kernel
theorem dX5_turnsIn_24 : decode cX5_turnsIn 24 = .ok (.iload_n 3, 1) := by decide +kernel
theorem dX5_turnsIn_25 : decode cX5_turnsIn 25 = .ok (.sipush 300, 3) := by decide +kernel
theorem dX5_turnsIn_28 : decode cX5_turnsIn 28 = .ok (.if_icmp .ge 32, 3) := by decide +kernel
theorem dX5_turnsIn_31 : decode cX5_turnsIn 31 = .ok (.aload_n 0, 1) := by decide +kernel
theorem dX5_turnsIn_32 : decode cX5_turnsIn 32 = .ok (.iload_n 1, 1) := by decide +kernel
theorem dX5_turnsIn_33 : decode cX5_turnsIn 33 = .ok (.bipush 9, 2) := by decide +kernel
theorem dX5_turnsIn_35 : decode cX5_turnsIn 35 = .ok (.invokevirtual 29, 3) := by decide +kernel
theorem dX5_turnsIn_38 : decode cX5_turnsIn 38 = .ok (.iload_n 2, 1) := by decide +kernel
theorem dX5_turnsIn_39 : decode cX5_turnsIn 39 = .ok (.if_icmp .ne 21, 3) := by decide +kernel
theorem dX5_turnsIn_42 : decode cX5_turnsIn 42 = .ok (.iload_n 3, 1) := by decide +kernel
theorem dX5_turnsIn_43 : decode cX5_turnsIn 43 = .ok (.aload_n 0, 1) := by decide +kernel
theorem dX5_turnsIn_44 : decode cX5_turnsIn 44 = .ok (.invokevirtual 92, 3) := by decide +kernel
theorem dX5_turnsIn_47 : decode cX5_turnsIn 47 = .ok (.ifCond .ge 7, 3) := by decide +kernel
theorem dX5_turnsIn_50 : decode cX5_turnsIn 50 = .ok (.iconst 0, 1) := by decide +kernel
theorem dX5_turnsIn_51 : decode cX5_turnsIn 51 = .ok (.goto 4, 3) := by decide +kernel
theorem dX5_turnsIn_54 : decode cX5_turnsIn 54 = .ok (.iconst 1, 1) := by decide +kernel
theorem dX5_turnsIn_55 : decode cX5_turnsIn 55 = .ok (.iadd, 1) := by decide +kernel
theorem dX5_turnsIn_56 : decode cX5_turnsIn 56 = .ok (.istore_n 3, 1) := by decide +kernel
theorem dX5_turnsIn_57 : decode cX5_turnsIn 57 = .ok (.goto (-33), 3) := by decide +kernel
theorem dX5_turnsIn_60 : decode cX5_turnsIn 60 = .ok (.aload_n 0, 1) := by decide +kernel
theorem dX5_turnsIn_61 : decode cX5_turnsIn 61 = .ok (.iload_n 1, 1) := by decide +kernel
theorem dX5_turnsIn_62 : decode cX5_turnsIn 62 = .ok (.bipush 9, 2) := by decide +kernel
theorem dX5_turnsIn_64 : decode cX5_turnsIn 64 = .ok (.invokevirtual 29, 3) := by decide +kernel
theorem dX5_turnsIn_67 : decode cX5_turnsIn 67 = .ok (.iload_n 2, 1) := by decide +kernel
theorem dX5_turnsIn_68 : decode cX5_turnsIn 68 = .ok (.if_icmp .le 7, 3) := by decide +kernel
theorem dX5_turnsIn_71 : decode cX5_turnsIn 71 = .ok (.iconst 1, 1) := by decide +kernel
theorem dX5_turnsIn_72 : decode cX5_turnsIn 72 = .ok (.goto 4, 3) := by decide +kernel
theorem dX5_turnsIn_75 : decode cX5_turnsIn 75 = .ok (.iconst 0, 1) := by decide +kernel
theorem dX5_turnsIn_76 : decode cX5_turnsIn 76 = .ok (.istore 4, 2) := by decide +kernel
theorem dX5_turnsIn_78 : decode cX5_turnsIn 78 = .ok (.aload_n 0, 1) := by decide +kernel
theorem dX5_turnsIn_79 : decode cX5_turnsIn 79 = .ok (.invokevirtual 167, 3) := by decide +kernel
theorem dX5_turnsIn_82 : decode cX5_turnsIn 82 = .ok (.iload 4, 2) := by decide +kernel
theorem dX5_turnsIn_84 : decode cX5_turnsIn 84 = .ok (.ifCond .eq 7, 3) := by decide +kernel
theorem dX5_turnsIn_87 : decode cX5_turnsIn 87 = .ok (.iload_n 3, 1) := by decide +kernel
theorem dX5_turnsIn_88 : decode cX5_turnsIn 88 = .ok (.goto 5, 3) := by decide +kernel
theorem dX5_turnsIn_91 : decode cX5_turnsIn 91 = .ok (.bipush (-5), 2) := by decide +kernel
theorem dX5_turnsIn_93 : decode cX5_turnsIn 93 = .ok (.ireturn, 1) := by decide +kernel
theorem dX5_ifTicks_0 : decode cX5_ifTicks 0 = .ok (.iload_n 1, 1) := by decide +kernel
theorem dX5_ifTicks_1 : decode cX5_ifTicks 1 = .ok (.iconst 1, 1) := by decide +kernel
theorem dX5_ifTicks_2 : decode cX5_ifTicks 2 = .ok (.sipush 300, 3) := by decide +kernel
theorem dX5_ifTicks_5 : decode cX5_ifTicks 5 = .ok (.invokestatic 25, 3) := by decide +kernel
theorem dX5_ifTicks_8 : decode cX5_ifTicks 8 = .ok (.ifCond .eq 12, 3) := by decide +kernel
theorem dX5_ifTicks_11 : decode cX5_ifTicks 11 = .ok (.iload_n 2, 1) := by decide +kernel
theorem dX5_ifTicks_12 : decode cX5_ifTicks 12 = .ok (.iconst 0, 1) := by decide +kernel
theorem dX5_ifTicks_13 : decode cX5_ifTicks 13 = .ok (.iconst 2, 1) := by decide +kernel
theorem dX5_ifTicks_14 : decode cX5_ifTicks 14 = .ok (.invokestatic 25, 3) := by decide +kernel
theorem dX5_ifTicks_17 : decode cX5_ifTicks 17 = .ok (.ifCond .ne 6, 3) := by decide +kernel
theorem dX5_ifTicks_20 : decode cX5_ifTicks 20 = .ok (.bipush (-2), 2) := by decide +kernel
theorem dX5_ifTicks_22 : decode cX5_ifTicks 22 = .ok (.ireturn, 1) := by decide +kernel
theorem dX5_ifTicks_23 : decode cX5_ifTicks 23 = .ok (.aload_n 0, 1) := by decide +kernel
theorem dX5_ifTicks_24 : decode cX5_ifTicks 24 = .ok (.invokevirtual 48, 3) := by decide +kernel
theorem dX5_ifTicks_27 : decode cX5_ifTicks 27 = .ok (.aload_n 0, 1) := by decide +kernel
theorem dX5_ifTicks_28 : decode cX5_ifTicks 28 = .ok (.getfield 7, 3) := by decide +kernel
theorem dX5_ifTicks_31 : decode cX5_ifTicks 31 = .ok (.bipush 6, 2) := by decide +kernel
theorem dX5_ifTicks_33 : decode cX5_ifTicks 33 = .ok (.iaload, 1) := by decide +kernel
theorem dX5_ifTicks_34 : decode cX5_ifTicks 34 = .ok (.istore_n 3, 1) := by decide +kernel
theorem dX5_ifTicks_35 : decode cX5_ifTicks 35 = .ok (.aload_n 0, 1) := by decide +kernel
theorem dX5_ifTicks_36 : decode cX5_ifTicks 36 = .ok (.iload_n 1, 1) := by decide +kernel
theorem dX5_ifTicks_37 : decode cX5_ifTicks 37 = .ok (.invokevirtual 105, 3) := by decide +kernel
theorem dX5_ifTicks_40 : decode cX5_ifTicks 40 = .ok (.istore 4, 2) := by decide +kernel
theorem dX5_ifTicks_42 : decode cX5_ifTicks 42 = .ok (.iload_n 2, 1) := by decide +kernel
theorem dX5_ifTicks_43 : decode cX5_ifTicks 43 = .ok (.ifCond .ne 16, 3) := by decide +kernel
theorem dX5_ifTicks_46 : decode cX5_ifTicks 46 = .ok (.aload_n 0, 1) := by decide +kernel
theorem dX5_ifTicks_47 : decode cX5_ifTicks 47 = .ok (.aload_n 0, 1) := by decide +kernel
theorem dX5_ifTicks_48 : decode cX5_ifTicks 48 = .ok (.getfield 7, 3) := by decide +kernel
theorem dX5_ifTicks_51 : decode cX5_ifTicks 51 = .ok (.iconst 1, 1) := by decide +kernel
theorem dX5_ifTicks_52 : decode cX5_ifTicks 52 = .ok (.iaload, 1) := by decide +kernel
theorem dX5_ifTicks_53 : decode cX5_ifTicks 53 = .ok (.invokevirtual 101, 3) := by decide +kernel
theorem dX5_ifTicks_56 : decode cX5_ifTicks 56 = .ok (.goto 22, 3) := by decide +kernel
theorem dX5_ifTicks_59 : decode cX5_ifTicks 59 = .ok (.iload_n 2, 1) := by decide +kernel
theorem dX5_ifTicks_60 : decode cX5_ifTicks 60 = .ok (.iconst 1, 1) := by decide +kernel
theorem dX5_ifTicks_61 : decode cX5_ifTicks 61 = .ok (.if_icmp .ne 8, 3) := by decide +kernel
theorem dX5_ifTicks_64 : decode cX5_ifTicks 64 = .ok (.iload 4, 2) := by decide +kernel
theorem dX5_ifTicks_66 : decode cX5_ifTicks 66 = .ok (.goto 12, 3) := by decide +kernel
theorem dX5_ifTicks_69 : decode cX5_ifTicks 69 = .ok (.aload_n 0, 1) := by decide +kernel
theorem dX5_ifTicks_70 : decode cX5_ifTicks 70 = .ok (.getfield 7, 3) := by decide +kernel
theorem dX5_ifTicks_73 : decode cX5_ifTicks 73 = .ok (.bipush 6, 2) := by decide +kernel
theorem dX5_ifTicks_75 : decode cX5_ifTicks 75 = .ok (.iaload, 1) := by decide +kernel
theorem dX5_ifTicks_76 : decode cX5_ifTicks 76 = .ok (.iload_n 3, 1) := by decide +kernel
theorem dX5_ifTicks_77 : decode cX5_ifTicks 77 = .ok (.isub, 1) := by decide +kernel
theorem dX5_ifTicks_78 : decode cX5_ifTicks 78 = .ok (.istore 5, 2) := by decide +kernel
theorem dX5_ifTicks_80 : decode cX5_ifTicks 80 = .ok (.aload_n 0, 1) := by decide +kernel
theorem dX5_ifTicks_81 : decode cX5_ifTicks 81 = .ok (.invokevirtual 167, 3) := by decide +kernel
theorem dX5_ifTicks_84 : decode cX5_ifTicks 84 = .ok (.iload 5, 2) := by decide +kernel
theorem dX5_ifTicks_86 : decode cX5_ifTicks 86 = .ok (.ireturn, 1) := by decide +kernel
theorem dX5_sumOf_0 : decode cX5_sumOf 0 = .ok (.iconst 0, 1) := by decide +kernel
theorem dX5_sumOf_1 : decode cX5_sumOf 1 = .ok (.istore_n 2, 1) := by decide +kernel
theorem dX5_sumOf_2 : decode cX5_sumOf 2 = .ok (.iconst 0, 1) := by decide +kernel
theorem dX5_sumOf_3 : decode cX5_sumOf 3 = .ok (.istore_n 3, 1) := by decide +kernel
theorem dX5_sumOf_4 : decode cX5_sumOf 4 = .ok (.iload_n 3, 1) := by decide +kernel
theorem dX5_sumOf_5 : decode cX5_sumOf 5 = .ok (.aload_n 0, 1) := by decide +kernel
theorem dX5_sumOf_6 : decode cX5_sumOf 6 = .ok (.getfield 7, 3) := by decide +kernel
theorem dX5_sumOf_9 : decode cX5_sumOf 9 = .ok (.bipush 10, 2) := by decide +kernel
theorem dX5_sumOf_11 : decode cX5_sumOf 11 = .ok (.iaload, 1) := by decide +kernel
theorem dX5_sumOf_12 : decode cX5_sumOf 12 = .ok (.if_icmp .ge 31, 3) := by decide +kernel
theorem dX5_sumOf_15 : decode cX5_sumOf 15 = .ok (.iload_n 2, 1) := by decide +kernel
theorem dX5_sumOf_16 : decode cX5_sumOf 16 = .ok (.iload_n 1, 1) := by decide +kernel
theorem dX5_sumOf_17 : decode cX5_sumOf 17 = .ok (.iconst 5, 1) := by decide +kernel
theorem dX5_sumOf_18 : decode cX5_sumOf 18 = .ok (.if_icmp .ne 11, 3) := by decide +kernel
theorem dX5_sumOf_21 : decode cX5_sumOf 21 = .ok (.aload_n 0, 1) := by decide +kernel
theorem dX5_sumOf_22 : decode cX5_sumOf 22 = .ok (.iload_n 3, 1) := by decide +kernel
theorem dX5_sumOf_23 : decode cX5_sumOf 23 = .ok (.invokevirtual 79, 3) := by decide +kernel
theorem dX5_sumOf_26 : decode cX5_sumOf 26 = .ok (.goto 9, 3) := by decide +kernel
theorem dX5_sumOf_29 : decode cX5_sumOf 29 = .ok (.aload_n 0, 1) := by decide +kernel
theorem dX5_sumOf_30 : decode cX5_sumOf 30 = .ok (.iload_n 3, 1) := by decide +kernel
theorem dX5_sumOf_31 : decode cX5_sumOf 31 = .ok (.iload_n 1, 1) := by decide +kernel
theorem dX5_sumOf_32 : decode cX5_sumOf 32 = .ok (.invokevirtual 29, 3) := by decide +kernel
theorem dX5_sumOf_35 : decode cX5_sumOf 35 = .ok (.iadd, 1) := by decide +kernel
theorem dX5_sumOf_36 : decode cX5_sumOf 36 = .ok (.istore_n 2, 1) := by decide +kernel
theorem dX5_sumOf_37 : decode cX5_sumOf 37 = .ok (.iinc 3 1, 3) := by decide +kernel
theorem dX5_sumOf_40 : decode cX5_sumOf 40 = .ok (.goto (-36), 3) := by decide +kernel
theorem dX5_sumOf_43 : decode cX5_sumOf 43 = .ok (.iload_n 2, 1) := by decide +kernel
theorem dX5_sumOf_44 : decode cX5_sumOf 44 = .ok (.ireturn, 1) := by decide +kernel
theorem dX5_count_0 : decode cX5_count 0 = .ok (.iload_n 1, 1) := by decide +kernel
theorem dX5_count_1 : decode cX5_count 1 = .ok (.tableswitch 157 0 15 #[79, 86, 94, 100, 100, 100, 111, 117, 117, 117, 117, 130, 135, 135, 147, 152], 79) := by decide +kernel
theorem dX5_count_80 : decode cX5_count 80 = .ok (.aload_n 0, 1) := by decide +kernel
theorem dX5_count_81 : decode cX5_count 81 = .ok (.getfield 7, 3) := by decide +kernel
theorem dX5_count_84 : decode cX5_count 84 = .ok (.iconst 2, 1) := by decide +kernel
theorem dX5_count_85 : decode cX5_count 85 = .ok (.iaload, 1) := by decide +kernel
theorem dX5_count_86 : decode cX5_count 86 = .ok (.ireturn, 1) := by decide +kernel
theorem dX5_count_87 : decode cX5_count 87 = .ok (.aload_n 0, 1) := by decide +kernel
theorem dX5_count_88 : decode cX5_count 88 = .ok (.getfield 7, 3) := by decide +kernel
theorem dX5_count_91 : decode cX5_count 91 = .ok (.bipush 10, 2) := by decide +kernel
theorem dX5_count_93 : decode cX5_count 93 = .ok (.iaload, 1) := by decide +kernel
theorem dX5_count_94 : decode cX5_count 94 = .ok (.ireturn, 1) := by decide +kernel
theorem dX5_count_95 : decode cX5_count 95 = .ok (.aload_n 0, 1) := by decide +kernel
theorem dX5_count_96 : decode cX5_count 96 = .ok (.iconst 5, 1) := by decide +kernel
theorem dX5_count_97 : decode cX5_count 97 = .ok (.invokevirtual 187, 3) := by decide +kernel
theorem dX5_count_100 : decode cX5_count 100 = .ok (.ireturn, 1) := by decide +kernel
theorem dX5_count_101 : decode cX5_count 101 = .ok (.aload_n 0, 1) := by decide +kernel
theorem dX5_count_102 : decode cX5_count 102 = .ok (.getfield 7, 3) := by decide +kernel
theorem dX5_count_105 : decode cX5_count 105 = .ok (.iconst 3, 1) := by decide +kernel
theorem dX5_count_106 : decode cX5_count 106 = .ok (.iload_n 1, 1) := by decide +kernel
theorem dX5_count_107 : decode cX5_count 107 = .ok (.iadd, 1) := by decide +kernel
theorem dX5_count_108 : decode cX5_count 108 = .ok (.iconst 3, 1) := by decide +kernel
theorem dX5_count_109 : decode cX5_count 109 = .ok (.isub, 1) := by decide +kernel
theorem dX5_count_110 : decode cX5_count 110 = .ok (.iaload, 1) := by decide +kernel
theorem dX5_count_111 : decode cX5_count 111 = .ok (.ireturn, 1) := by decide +kernel
theorem dX5_count_112 : decode cX5_count 112 = .ok (.aload_n 0, 1) := by decide +kernel
theorem dX5_count_113 : decode cX5_count 113 = .ok (.iconst 4, 1) := by decide +kernel
theorem dX5_count_114 : decode cX5_count 114 = .ok (.invokevirtual 187, 3) := by decide +kernel
theorem dX5_count_117 : decode cX5_count 117 = .ok (.ireturn, 1) := by decide +kernel
theorem dX5_count_118 : decode cX5_count 118 = .ok (.aload_n 0, 1) := by decide +kernel
theorem dX5_count_119 : decode cX5_count 119 = .ok (.getfield 7, 3) := by decide +kernel
theorem dX5_count_122 : decode cX5_count 122 = .ok (.bipush 6, 2) := by decide +kernel
theorem dX5_count_124 : decode cX5_count 124 = .ok (.iload_n 1, 1) := by decide +kernel
theorem dX5_count_125 : decode cX5_count 125 = .ok (.iadd, 1) := by decide +kernel
theorem dX5_count_126 : decode cX5_count 126 = .ok (.bipush 7, 2) := by decide +kernel
theorem dX5_count_128 : decode cX5_count 128 = .ok (.isub, 1) := by decide +kernel
theorem dX5_count_129 : decode cX5_count 129 = .ok (.iaload, 1) := by decide +kernel
theorem dX5_count_130 : decode cX5_count 130 = .ok (.ireturn, 1) := by decide +kernel
theorem dX5_count_131 : decode cX5_count 131 = .ok (.aload_n 0, 1) := by decide +kernel
theorem dX5_count_132 : decode cX5_count 132 = .ok (.invokevirtual 71, 3) := by decide +kernel
theorem dX5_count_135 : decode cX5_count 135 = .ok (.ireturn, 1) := by decide +kernel
theorem dX5_count_136 : decode cX5_count 136 = .ok (.aload_n 0, 1) := by decide +kernel
theorem dX5_count_137 : decode cX5_count 137 = .ok (.getfield 7, 3) := by decide +kernel
theorem dX5_count_140 : decode cX5_count 140 = .ok (.iconst 0, 1) := by decide +kernel
theorem dX5_count_141 : decode cX5_count 141 = .ok (.iload_n 1, 1) := by decide +kernel
theorem dX5_count_142 : decode cX5_count 142 = .ok (.iadd, 1) := by decide +kernel
theorem dX5_count_143 : decode cX5_count 143 = .ok (.bipush 12, 2) := by decide +kernel
theorem dX5_count_145 : decode cX5_count 145 = .ok (.isub, 1) := by decide +kernel
theorem dX5_count_146 : decode cX5_count 146 = .ok (.iaload, 1) := by decide +kernel
theorem dX5_count_147 : decode cX5_count 147 = .ok (.ireturn, 1) := by decide +kernel
theorem dX5_count_148 : decode cX5_count 148 = .ok (.aload_n 0, 1) := by decide +kernel
theorem dX5_count_149 : decode cX5_count 149 = .ok (.getfield 33, 3) := by decide +kernel
theorem dX5_count_152 : decode cX5_count 152 = .ok (.ireturn, 1) := by decide +kernel
theorem dX5_count_153 : decode cX5_count 153 = .ok (.aload_n 0, 1) := by decide +kernel
theorem dX5_count_154 : decode cX5_count 154 = .ok (.getfield 129, 3) := by decide +kernel
theorem dX5_count_157 : decode cX5_count 157 = .ok (.ireturn, 1) := by decide +kernel
theorem dX5_count_158 : decode cX5_count 158 = .ok (.bipush (-2), 2) := by decide +kernel
theorem dX5_count_160 : decode cX5_count 160 = .ok (.ireturn, 1) := by decide +kernel
theorem dJ9_min_7cf53_0 : decode cJ9_min_7cf53 0 = .ok (.iload_n 0, 1) := by decide +kernel
theorem dJ9_min_7cf53_1 : decode cJ9_min_7cf53 1 = .ok (.iload_n 1, 1) := by decide +kernel
theorem dJ9_min_7cf53_2 : decode cJ9_min_7cf53 2 = .ok (.if_icmp .gt 7, 3) := by decide +kernel
theorem dJ9_min_7cf53_5 : decode cJ9_min_7cf53 5 = .ok (.iload_n 0, 1) := by decide +kernel
theorem dJ9_min_7cf53_6 : decode cJ9_min_7cf53 6 = .ok (.goto 4, 3) := by decide +kernel
theorem dJ9_min_7cf53_9 : decode cJ9_min_7cf53 9 = .ok (.iload_n 1, 1) := by decide +kernel
theorem dJ9_min_7cf53_10 : decode cJ9_min_7cf53 10 = .ok (.ireturn, 1) := by decide +kernel
theorem dL_law_0 : decode cL_law 0 = .ok (.new 7, 3) := by decide +kernel
theorem dL_law_3 : decode cL_law 3 = .ok (.dup, 1) := by decide +kernel
theorem dL_law_4 : decode cL_law 4 = .ok (.invokespecial 9, 3) := by decide +kernel
theorem dL_law_7 : decode cL_law 7 = .ok (.astore_n 1, 1) := by decide +kernel
theorem dL_law_8 : decode cL_law 8 = .ok (.new 10, 3) := by decide +kernel
theorem dL_law_11 : decode cL_law 11 = .ok (.dup, 1) := by decide +kernel
theorem dL_law_12 : decode cL_law 12 = .ok (.invokespecial 12, 3) := by decide +kernel
theorem dL_law_15 : decode cL_law 15 = .ok (.astore_n 2, 1) := by decide +kernel
theorem dL_law_16 : decode cL_law 16 = .ok (.iconst 0, 1) := by decide +kernel
theorem dL_law_17 : decode cL_law 17 = .ok (.istore_n 3, 1) := by decide +kernel
theorem dL_law_18 : decode cL_law 18 = .ok (.iload_n 3, 1) := by decide +kernel
theorem dL_law_19 : decode cL_law 19 = .ok (.aload_n 0, 1) := by decide +kernel
theorem dL_law_20 : decode cL_law 20 = .ok (.arraylength, 1) := by decide +kernel
theorem dL_law_21 : decode cL_law 21 = .ok (.iconst 5, 1) := by decide +kernel
theorem dL_law_22 : decode cL_law 22 = .ok (.isub, 1) := by decide +kernel
theorem dL_law_23 : decode cL_law 23 = .ok (.if_icmp .gt 932, 3) := by decide +kernel
theorem dL_law_26 : decode cL_law 26 = .ok (.aload_n 0, 1) := by decide +kernel
theorem dL_law_27 : decode cL_law 27 = .ok (.iload_n 3, 1) := by decide +kernel
theorem dL_law_28 : decode cL_law 28 = .ok (.iaload, 1) := by decide +kernel
theorem dL_law_29 : decode cL_law 29 = .ok (.bipush 31, 2) := by decide +kernel
theorem dL_law_31 : decode cL_law 31 = .ok (.iand, 1) := by decide +kernel
theorem dL_law_32 : decode cL_law 32 = .ok (.tableswitch 917 0 28 #[132, 185, 218, 251, 284, 307, 340, 373, 406, 439, 452, 475, 500, 513, 526, 549, 562, 575, 588, 621, 672, 733, 766, 789, 812, 825, 838, 861, 894], 132) := by decide +kernel
theorem dL_law_164 : decode cL_law 164 = .ok (.aload_n 1, 1) := by decide +kernel
theorem dL_law_165 : decode cL_law 165 = .ok (.aload_n 0, 1) := by decide +kernel
theorem dL_law_166 : decode cL_law 166 = .ok (.iload_n 3, 1) := by decide +kernel
theorem dL_law_167 : decode cL_law 167 = .ok (.iconst 1, 1) := by decide +kernel
theorem dL_law_168 : decode cL_law 168 = .ok (.iadd, 1) := by decide +kernel
theorem dL_law_169 : decode cL_law 169 = .ok (.iaload, 1) := by decide +kernel
theorem dL_law_170 : decode cL_law 170 = .ok (.aload_n 0, 1) := by decide +kernel
theorem dL_law_171 : decode cL_law 171 = .ok (.iload_n 3, 1) := by decide +kernel
theorem dL_law_172 : decode cL_law 172 = .ok (.iconst 2, 1) := by decide +kernel
theorem dL_law_173 : decode cL_law 173 = .ok (.iadd, 1) := by decide +kernel
theorem dL_law_174 : decode cL_law 174 = .ok (.iaload, 1) := by decide +kernel
theorem dL_law_175 : decode cL_law 175 = .ok (.aload_n 0, 1) := by decide +kernel
theorem dL_law_176 : decode cL_law 176 = .ok (.iload_n 3, 1) := by decide +kernel
theorem dL_law_177 : decode cL_law 177 = .ok (.iconst 3, 1) := by decide +kernel
theorem dL_law_178 : decode cL_law 178 = .ok (.iadd, 1) := by decide +kernel
theorem dL_law_179 : decode cL_law 179 = .ok (.iaload, 1) := by decide +kernel
theorem dL_law_180 : decode cL_law 180 = .ok (.aload_n 0, 1) := by decide +kernel
theorem dL_law_181 : decode cL_law 181 = .ok (.iload_n 3, 1) := by decide +kernel
theorem dL_law_182 : decode cL_law 182 = .ok (.iconst 4, 1) := by decide +kernel
theorem dL_law_183 : decode cL_law 183 = .ok (.iadd, 1) := by decide +kernel
theorem dL_law_184 : decode cL_law 184 = .ok (.iaload, 1) := by decide +kernel
theorem dL_law_185 : decode cL_law 185 = .ok (.invokevirtual 13, 3) := by decide +kernel
theorem dL_law_188 : decode cL_law 188 = .ok (.aload_n 2, 1) := by decide +kernel
theorem dL_law_189 : decode cL_law 189 = .ok (.aload_n 0, 1) := by decide +kernel
theorem dL_law_190 : decode cL_law 190 = .ok (.iload_n 3, 1) := by decide +kernel
theorem dL_law_191 : decode cL_law 191 = .ok (.iconst 1, 1) := by decide +kernel
theorem dL_law_192 : decode cL_law 192 = .ok (.iadd, 1) := by decide +kernel
theorem dL_law_193 : decode cL_law 193 = .ok (.iaload, 1) := by decide +kernel
theorem dL_law_194 : decode cL_law 194 = .ok (.aload_n 0, 1) := by decide +kernel
theorem dL_law_195 : decode cL_law 195 = .ok (.iload_n 3, 1) := by decide +kernel
theorem dL_law_196 : decode cL_law 196 = .ok (.iconst 2, 1) := by decide +kernel
theorem dL_law_197 : decode cL_law 197 = .ok (.iadd, 1) := by decide +kernel
theorem dL_law_198 : decode cL_law 198 = .ok (.iaload, 1) := by decide +kernel
theorem dL_law_199 : decode cL_law 199 = .ok (.aload_n 0, 1) := by decide +kernel
theorem dL_law_200 : decode cL_law 200 = .ok (.iload_n 3, 1) := by decide +kernel
theorem dL_law_201 : decode cL_law 201 = .ok (.iconst 3, 1) := by decide +kernel
theorem dL_law_202 : decode cL_law 202 = .ok (.iadd, 1) := by decide +kernel
theorem dL_law_203 : decode cL_law 203 = .ok (.iaload, 1) := by decide +kernel
theorem dL_law_204 : decode cL_law 204 = .ok (.aload_n 0, 1) := by decide +kernel
theorem dL_law_205 : decode cL_law 205 = .ok (.iload_n 3, 1) := by decide +kernel
theorem dL_law_206 : decode cL_law 206 = .ok (.iconst 4, 1) := by decide +kernel
theorem dL_law_207 : decode cL_law 207 = .ok (.iadd, 1) := by decide +kernel
theorem dL_law_208 : decode cL_law 208 = .ok (.iaload, 1) := by decide +kernel
theorem dL_law_209 : decode cL_law 209 = .ok (.invokevirtual 17, 3) := by decide +kernel
theorem dL_law_212 : decode cL_law 212 = .ok (.if_icmp .eq 737, 3) := by decide +kernel
theorem dL_law_215 : decode cL_law 215 = .ok (.iconst 0, 1) := by decide +kernel
theorem dL_law_216 : decode cL_law 216 = .ok (.ireturn, 1) := by decide +kernel
theorem dL_law_217 : decode cL_law 217 = .ok (.aload_n 1, 1) := by decide +kernel
theorem dL_law_218 : decode cL_law 218 = .ok (.aload_n 0, 1) := by decide +kernel
theorem dL_law_219 : decode cL_law 219 = .ok (.iload_n 3, 1) := by decide +kernel
theorem dL_law_220 : decode cL_law 220 = .ok (.iconst 1, 1) := by decide +kernel
theorem dL_law_221 : decode cL_law 221 = .ok (.iadd, 1) := by decide +kernel
theorem dL_law_222 : decode cL_law 222 = .ok (.iaload, 1) := by decide +kernel
theorem dL_law_223 : decode cL_law 223 = .ok (.aload_n 0, 1) := by decide +kernel
theorem dL_law_224 : decode cL_law 224 = .ok (.iload_n 3, 1) := by decide +kernel
theorem dL_law_225 : decode cL_law 225 = .ok (.iconst 2, 1) := by decide +kernel
theorem dL_law_226 : decode cL_law 226 = .ok (.iadd, 1) := by decide +kernel
theorem dL_law_227 : decode cL_law 227 = .ok (.iaload, 1) := by decide +kernel
theorem dL_law_228 : decode cL_law 228 = .ok (.invokevirtual 18, 3) := by decide +kernel
theorem dL_law_231 : decode cL_law 231 = .ok (.aload_n 2, 1) := by decide +kernel
theorem dL_law_232 : decode cL_law 232 = .ok (.aload_n 0, 1) := by decide +kernel
theorem dL_law_233 : decode cL_law 233 = .ok (.iload_n 3, 1) := by decide +kernel
theorem dL_law_234 : decode cL_law 234 = .ok (.iconst 1, 1) := by decide +kernel
theorem dL_law_235 : decode cL_law 235 = .ok (.iadd, 1) := by decide +kernel
theorem dL_law_236 : decode cL_law 236 = .ok (.iaload, 1) := by decide +kernel
theorem dL_law_237 : decode cL_law 237 = .ok (.aload_n 0, 1) := by decide +kernel
theorem dL_law_238 : decode cL_law 238 = .ok (.iload_n 3, 1) := by decide +kernel
theorem dL_law_239 : decode cL_law 239 = .ok (.iconst 2, 1) := by decide +kernel
theorem dL_law_240 : decode cL_law 240 = .ok (.iadd, 1) := by decide +kernel
theorem dL_law_241 : decode cL_law 241 = .ok (.iaload, 1) := by decide +kernel
theorem dL_law_242 : decode cL_law 242 = .ok (.invokevirtual 22, 3) := by decide +kernel
theorem dL_law_245 : decode cL_law 245 = .ok (.if_icmp .eq 704, 3) := by decide +kernel
theorem dL_law_248 : decode cL_law 248 = .ok (.iconst 0, 1) := by decide +kernel
theorem dL_law_249 : decode cL_law 249 = .ok (.ireturn, 1) := by decide +kernel
theorem dL_law_250 : decode cL_law 250 = .ok (.aload_n 1, 1) := by decide +kernel
theorem dL_law_251 : decode cL_law 251 = .ok (.aload_n 0, 1) := by decide +kernel
theorem dL_law_252 : decode cL_law 252 = .ok (.iload_n 3, 1) := by decide +kernel
theorem dL_law_253 : decode cL_law 253 = .ok (.iconst 1, 1) := by decide +kernel
theorem dL_law_254 : decode cL_law 254 = .ok (.iadd, 1) := by decide +kernel
theorem dL_law_255 : decode cL_law 255 = .ok (.iaload, 1) := by decide +kernel
theorem dL_law_256 : decode cL_law 256 = .ok (.aload_n 0, 1) := by decide +kernel
theorem dL_law_257 : decode cL_law 257 = .ok (.iload_n 3, 1) := by decide +kernel
theorem dL_law_258 : decode cL_law 258 = .ok (.iconst 2, 1) := by decide +kernel
theorem dL_law_259 : decode cL_law 259 = .ok (.iadd, 1) := by decide +kernel
theorem dL_law_260 : decode cL_law 260 = .ok (.iaload, 1) := by decide +kernel
theorem dL_law_261 : decode cL_law 261 = .ok (.invokevirtual 23, 3) := by decide +kernel
theorem dL_law_264 : decode cL_law 264 = .ok (.aload_n 2, 1) := by decide +kernel
theorem dL_law_265 : decode cL_law 265 = .ok (.aload_n 0, 1) := by decide +kernel
theorem dL_law_266 : decode cL_law 266 = .ok (.iload_n 3, 1) := by decide +kernel
theorem dL_law_267 : decode cL_law 267 = .ok (.iconst 1, 1) := by decide +kernel
theorem dL_law_268 : decode cL_law 268 = .ok (.iadd, 1) := by decide +kernel
theorem dL_law_269 : decode cL_law 269 = .ok (.iaload, 1) := by decide +kernel
theorem dL_law_270 : decode cL_law 270 = .ok (.aload_n 0, 1) := by decide +kernel
theorem dL_law_271 : decode cL_law 271 = .ok (.iload_n 3, 1) := by decide +kernel
theorem dL_law_272 : decode cL_law 272 = .ok (.iconst 2, 1) := by decide +kernel
theorem dL_law_273 : decode cL_law 273 = .ok (.iadd, 1) := by decide +kernel
theorem dL_law_274 : decode cL_law 274 = .ok (.iaload, 1) := by decide +kernel
theorem dL_law_275 : decode cL_law 275 = .ok (.invokevirtual 26, 3) := by decide +kernel
theorem dL_law_278 : decode cL_law 278 = .ok (.if_icmp .eq 671, 3) := by decide +kernel
theorem dL_law_281 : decode cL_law 281 = .ok (.iconst 0, 1) := by decide +kernel
theorem dL_law_282 : decode cL_law 282 = .ok (.ireturn, 1) := by decide +kernel
theorem dL_law_283 : decode cL_law 283 = .ok (.aload_n 1, 1) := by decide +kernel
theorem dL_law_284 : decode cL_law 284 = .ok (.aload_n 0, 1) := by decide +kernel
theorem dL_law_285 : decode cL_law 285 = .ok (.iload_n 3, 1) := by decide +kernel
theorem dL_law_286 : decode cL_law 286 = .ok (.iconst 1, 1) := by decide +kernel
theorem dL_law_287 : decode cL_law 287 = .ok (.iadd, 1) := by decide +kernel
theorem dL_law_288 : decode cL_law 288 = .ok (.iaload, 1) := by decide +kernel
theorem dL_law_289 : decode cL_law 289 = .ok (.aload_n 0, 1) := by decide +kernel
theorem dL_law_290 : decode cL_law 290 = .ok (.iload_n 3, 1) := by decide +kernel
theorem dL_law_291 : decode cL_law 291 = .ok (.iconst 2, 1) := by decide +kernel
theorem dL_law_292 : decode cL_law 292 = .ok (.iadd, 1) := by decide +kernel
theorem dL_law_293 : decode cL_law 293 = .ok (.iaload, 1) := by decide +kernel
theorem dL_law_294 : decode cL_law 294 = .ok (.invokevirtual 27, 3) := by decide +kernel
theorem dL_law_297 : decode cL_law 297 = .ok (.aload_n 2, 1) := by decide +kernel
theorem dL_law_298 : decode cL_law 298 = .ok (.aload_n 0, 1) := by decide +kernel
theorem dL_law_299 : decode cL_law 299 = .ok (.iload_n 3, 1) := by decide +kernel
theorem dL_law_300 : decode cL_law 300 = .ok (.iconst 1, 1) := by decide +kernel
theorem dL_law_301 : decode cL_law 301 = .ok (.iadd, 1) := by decide +kernel
theorem dL_law_302 : decode cL_law 302 = .ok (.iaload, 1) := by decide +kernel
theorem dL_law_303 : decode cL_law 303 = .ok (.aload_n 0, 1) := by decide +kernel
theorem dL_law_304 : decode cL_law 304 = .ok (.iload_n 3, 1) := by decide +kernel
theorem dL_law_305 : decode cL_law 305 = .ok (.iconst 2, 1) := by decide +kernel
theorem dL_law_306 : decode cL_law 306 = .ok (.iadd, 1) := by decide +kernel
theorem dL_law_307 : decode cL_law 307 = .ok (.iaload, 1) := by decide +kernel
theorem dL_law_308 : decode cL_law 308 = .ok (.invokevirtual 30, 3) := by decide +kernel
theorem dL_law_311 : decode cL_law 311 = .ok (.if_icmp .eq 638, 3) := by decide +kernel
theorem dL_law_314 : decode cL_law 314 = .ok (.iconst 0, 1) := by decide +kernel
theorem dL_law_315 : decode cL_law 315 = .ok (.ireturn, 1) := by decide +kernel
theorem dL_law_316 : decode cL_law 316 = .ok (.aload_n 1, 1) := by decide +kernel
theorem dL_law_317 : decode cL_law 317 = .ok (.aload_n 0, 1) := by decide +kernel
theorem dL_law_318 : decode cL_law 318 = .ok (.iload_n 3, 1) := by decide +kernel
theorem dL_law_319 : decode cL_law 319 = .ok (.iconst 1, 1) := by decide +kernel
theorem dL_law_320 : decode cL_law 320 = .ok (.iadd, 1) := by decide +kernel
theorem dL_law_321 : decode cL_law 321 = .ok (.iaload, 1) := by decide +kernel
theorem dL_law_322 : decode cL_law 322 = .ok (.invokevirtual 31, 3) := by decide +kernel
theorem dL_law_325 : decode cL_law 325 = .ok (.aload_n 2, 1) := by decide +kernel
theorem dL_law_326 : decode cL_law 326 = .ok (.aload_n 0, 1) := by decide +kernel
theorem dL_law_327 : decode cL_law 327 = .ok (.iload_n 3, 1) := by decide +kernel
theorem dL_law_328 : decode cL_law 328 = .ok (.iconst 1, 1) := by decide +kernel
theorem dL_law_329 : decode cL_law 329 = .ok (.iadd, 1) := by decide +kernel
theorem dL_law_330 : decode cL_law 330 = .ok (.iaload, 1) := by decide +kernel
theorem dL_law_331 : decode cL_law 331 = .ok (.invokevirtual 35, 3) := by decide +kernel
theorem dL_law_334 : decode cL_law 334 = .ok (.if_icmp .eq 615, 3) := by decide +kernel
theorem dL_law_337 : decode cL_law 337 = .ok (.iconst 0, 1) := by decide +kernel
theorem dL_law_338 : decode cL_law 338 = .ok (.ireturn, 1) := by decide +kernel
theorem dL_law_339 : decode cL_law 339 = .ok (.aload_n 1, 1) := by decide +kernel
theorem dL_law_340 : decode cL_law 340 = .ok (.aload_n 0, 1) := by decide +kernel
theorem dL_law_341 : decode cL_law 341 = .ok (.iload_n 3, 1) := by decide +kernel
theorem dL_law_342 : decode cL_law 342 = .ok (.iconst 1, 1) := by decide +kernel
theorem dL_law_343 : decode cL_law 343 = .ok (.iadd, 1) := by decide +kernel
theorem dL_law_344 : decode cL_law 344 = .ok (.iaload, 1) := by decide +kernel
theorem dL_law_345 : decode cL_law 345 = .ok (.aload_n 0, 1) := by decide +kernel
theorem dL_law_346 : decode cL_law 346 = .ok (.iload_n 3, 1) := by decide +kernel
theorem dL_law_347 : decode cL_law 347 = .ok (.iconst 2, 1) := by decide +kernel
theorem dL_law_348 : decode cL_law 348 = .ok (.iadd, 1) := by decide +kernel
theorem dL_law_349 : decode cL_law 349 = .ok (.iaload, 1) := by decide +kernel
theorem dL_law_350 : decode cL_law 350 = .ok (.invokevirtual 36, 3) := by decide +kernel
theorem dL_law_353 : decode cL_law 353 = .ok (.aload_n 2, 1) := by decide +kernel
theorem dL_law_354 : decode cL_law 354 = .ok (.aload_n 0, 1) := by decide +kernel
theorem dL_law_355 : decode cL_law 355 = .ok (.iload_n 3, 1) := by decide +kernel
theorem dL_law_356 : decode cL_law 356 = .ok (.iconst 1, 1) := by decide +kernel
theorem dL_law_357 : decode cL_law 357 = .ok (.iadd, 1) := by decide +kernel
theorem dL_law_358 : decode cL_law 358 = .ok (.iaload, 1) := by decide +kernel
theorem dL_law_359 : decode cL_law 359 = .ok (.aload_n 0, 1) := by decide +kernel
theorem dL_law_360 : decode cL_law 360 = .ok (.iload_n 3, 1) := by decide +kernel
theorem dL_law_361 : decode cL_law 361 = .ok (.iconst 2, 1) := by decide +kernel
theorem dL_law_362 : decode cL_law 362 = .ok (.iadd, 1) := by decide +kernel
theorem dL_law_363 : decode cL_law 363 = .ok (.iaload, 1) := by decide +kernel
theorem dL_law_364 : decode cL_law 364 = .ok (.invokevirtual 39, 3) := by decide +kernel
theorem dL_law_367 : decode cL_law 367 = .ok (.if_icmp .eq 582, 3) := by decide +kernel
theorem dL_law_370 : decode cL_law 370 = .ok (.iconst 0, 1) := by decide +kernel
theorem dL_law_371 : decode cL_law 371 = .ok (.ireturn, 1) := by decide +kernel
theorem dL_law_372 : decode cL_law 372 = .ok (.aload_n 1, 1) := by decide +kernel
theorem dL_law_373 : decode cL_law 373 = .ok (.aload_n 0, 1) := by decide +kernel
theorem dL_law_374 : decode cL_law 374 = .ok (.iload_n 3, 1) := by decide +kernel
theorem dL_law_375 : decode cL_law 375 = .ok (.iconst 1, 1) := by decide +kernel
theorem dL_law_376 : decode cL_law 376 = .ok (.iadd, 1) := by decide +kernel
theorem dL_law_377 : decode cL_law 377 = .ok (.iaload, 1) := by decide +kernel
theorem dL_law_378 : decode cL_law 378 = .ok (.aload_n 0, 1) := by decide +kernel
theorem dL_law_379 : decode cL_law 379 = .ok (.iload_n 3, 1) := by decide +kernel
theorem dL_law_380 : decode cL_law 380 = .ok (.iconst 2, 1) := by decide +kernel
theorem dL_law_381 : decode cL_law 381 = .ok (.iadd, 1) := by decide +kernel
theorem dL_law_382 : decode cL_law 382 = .ok (.iaload, 1) := by decide +kernel
theorem dL_law_383 : decode cL_law 383 = .ok (.invokevirtual 40, 3) := by decide +kernel
theorem dL_law_386 : decode cL_law 386 = .ok (.aload_n 2, 1) := by decide +kernel
theorem dL_law_387 : decode cL_law 387 = .ok (.aload_n 0, 1) := by decide +kernel
theorem dL_law_388 : decode cL_law 388 = .ok (.iload_n 3, 1) := by decide +kernel
theorem dL_law_389 : decode cL_law 389 = .ok (.iconst 1, 1) := by decide +kernel
theorem dL_law_390 : decode cL_law 390 = .ok (.iadd, 1) := by decide +kernel
theorem dL_law_391 : decode cL_law 391 = .ok (.iaload, 1) := by decide +kernel
theorem dL_law_392 : decode cL_law 392 = .ok (.aload_n 0, 1) := by decide +kernel
theorem dL_law_393 : decode cL_law 393 = .ok (.iload_n 3, 1) := by decide +kernel
theorem dL_law_394 : decode cL_law 394 = .ok (.iconst 2, 1) := by decide +kernel
theorem dL_law_395 : decode cL_law 395 = .ok (.iadd, 1) := by decide +kernel
theorem dL_law_396 : decode cL_law 396 = .ok (.iaload, 1) := by decide +kernel
theorem dL_law_397 : decode cL_law 397 = .ok (.invokevirtual 43, 3) := by decide +kernel
theorem dL_law_400 : decode cL_law 400 = .ok (.if_icmp .eq 549, 3) := by decide +kernel
theorem dL_law_403 : decode cL_law 403 = .ok (.iconst 0, 1) := by decide +kernel
theorem dL_law_404 : decode cL_law 404 = .ok (.ireturn, 1) := by decide +kernel
theorem dL_law_405 : decode cL_law 405 = .ok (.aload_n 1, 1) := by decide +kernel
theorem dL_law_406 : decode cL_law 406 = .ok (.aload_n 0, 1) := by decide +kernel
theorem dL_law_407 : decode cL_law 407 = .ok (.iload_n 3, 1) := by decide +kernel
theorem dL_law_408 : decode cL_law 408 = .ok (.iconst 1, 1) := by decide +kernel
theorem dL_law_409 : decode cL_law 409 = .ok (.iadd, 1) := by decide +kernel
theorem dL_law_410 : decode cL_law 410 = .ok (.iaload, 1) := by decide +kernel
theorem dL_law_411 : decode cL_law 411 = .ok (.aload_n 0, 1) := by decide +kernel
theorem dL_law_412 : decode cL_law 412 = .ok (.iload_n 3, 1) := by decide +kernel
theorem dL_law_413 : decode cL_law 413 = .ok (.iconst 2, 1) := by decide +kernel
theorem dL_law_414 : decode cL_law 414 = .ok (.iadd, 1) := by decide +kernel
theorem dL_law_415 : decode cL_law 415 = .ok (.iaload, 1) := by decide +kernel
theorem dL_law_416 : decode cL_law 416 = .ok (.invokevirtual 44, 3) := by decide +kernel
theorem dL_law_419 : decode cL_law 419 = .ok (.aload_n 2, 1) := by decide +kernel
theorem dL_law_420 : decode cL_law 420 = .ok (.aload_n 0, 1) := by decide +kernel
theorem dL_law_421 : decode cL_law 421 = .ok (.iload_n 3, 1) := by decide +kernel
theorem dL_law_422 : decode cL_law 422 = .ok (.iconst 1, 1) := by decide +kernel
theorem dL_law_423 : decode cL_law 423 = .ok (.iadd, 1) := by decide +kernel
theorem dL_law_424 : decode cL_law 424 = .ok (.iaload, 1) := by decide +kernel
theorem dL_law_425 : decode cL_law 425 = .ok (.aload_n 0, 1) := by decide +kernel
theorem dL_law_426 : decode cL_law 426 = .ok (.iload_n 3, 1) := by decide +kernel
theorem dL_law_427 : decode cL_law 427 = .ok (.iconst 2, 1) := by decide +kernel
theorem dL_law_428 : decode cL_law 428 = .ok (.iadd, 1) := by decide +kernel
theorem dL_law_429 : decode cL_law 429 = .ok (.iaload, 1) := by decide +kernel
theorem dL_law_430 : decode cL_law 430 = .ok (.invokevirtual 47, 3) := by decide +kernel
theorem dL_law_433 : decode cL_law 433 = .ok (.if_icmp .eq 516, 3) := by decide +kernel
theorem dL_law_436 : decode cL_law 436 = .ok (.iconst 0, 1) := by decide +kernel
theorem dL_law_437 : decode cL_law 437 = .ok (.ireturn, 1) := by decide +kernel
theorem dL_law_438 : decode cL_law 438 = .ok (.aload_n 1, 1) := by decide +kernel
theorem dL_law_439 : decode cL_law 439 = .ok (.aload_n 0, 1) := by decide +kernel
theorem dL_law_440 : decode cL_law 440 = .ok (.iload_n 3, 1) := by decide +kernel
theorem dL_law_441 : decode cL_law 441 = .ok (.iconst 1, 1) := by decide +kernel
theorem dL_law_442 : decode cL_law 442 = .ok (.iadd, 1) := by decide +kernel
theorem dL_law_443 : decode cL_law 443 = .ok (.iaload, 1) := by decide +kernel
theorem dL_law_444 : decode cL_law 444 = .ok (.aload_n 0, 1) := by decide +kernel
theorem dL_law_445 : decode cL_law 445 = .ok (.iload_n 3, 1) := by decide +kernel
theorem dL_law_446 : decode cL_law 446 = .ok (.iconst 2, 1) := by decide +kernel
theorem dL_law_447 : decode cL_law 447 = .ok (.iadd, 1) := by decide +kernel
theorem dL_law_448 : decode cL_law 448 = .ok (.iaload, 1) := by decide +kernel
theorem dL_law_449 : decode cL_law 449 = .ok (.invokevirtual 48, 3) := by decide +kernel
theorem dL_law_452 : decode cL_law 452 = .ok (.aload_n 2, 1) := by decide +kernel
theorem dL_law_453 : decode cL_law 453 = .ok (.aload_n 0, 1) := by decide +kernel
theorem dL_law_454 : decode cL_law 454 = .ok (.iload_n 3, 1) := by decide +kernel
theorem dL_law_455 : decode cL_law 455 = .ok (.iconst 1, 1) := by decide +kernel
theorem dL_law_456 : decode cL_law 456 = .ok (.iadd, 1) := by decide +kernel
theorem dL_law_457 : decode cL_law 457 = .ok (.iaload, 1) := by decide +kernel
theorem dL_law_458 : decode cL_law 458 = .ok (.aload_n 0, 1) := by decide +kernel
theorem dL_law_459 : decode cL_law 459 = .ok (.iload_n 3, 1) := by decide +kernel
theorem dL_law_460 : decode cL_law 460 = .ok (.iconst 2, 1) := by decide +kernel
theorem dL_law_461 : decode cL_law 461 = .ok (.iadd, 1) := by decide +kernel
theorem dL_law_462 : decode cL_law 462 = .ok (.iaload, 1) := by decide +kernel
theorem dL_law_463 : decode cL_law 463 = .ok (.invokevirtual 51, 3) := by decide +kernel
theorem dL_law_466 : decode cL_law 466 = .ok (.if_icmp .eq 483, 3) := by decide +kernel
theorem dL_law_469 : decode cL_law 469 = .ok (.iconst 0, 1) := by decide +kernel
theorem dL_law_470 : decode cL_law 470 = .ok (.ireturn, 1) := by decide +kernel
theorem dL_law_471 : decode cL_law 471 = .ok (.aload_n 1, 1) := by decide +kernel
theorem dL_law_472 : decode cL_law 472 = .ok (.invokevirtual 52, 3) := by decide +kernel
theorem dL_law_475 : decode cL_law 475 = .ok (.aload_n 2, 1) := by decide +kernel
theorem dL_law_476 : decode cL_law 476 = .ok (.invokevirtual 56, 3) := by decide +kernel
theorem dL_law_479 : decode cL_law 479 = .ok (.if_icmp .eq 470, 3) := by decide +kernel
theorem dL_law_482 : decode cL_law 482 = .ok (.iconst 0, 1) := by decide +kernel
theorem dL_law_483 : decode cL_law 483 = .ok (.ireturn, 1) := by decide +kernel
theorem dL_law_484 : decode cL_law 484 = .ok (.aload_n 1, 1) := by decide +kernel
theorem dL_law_485 : decode cL_law 485 = .ok (.aload_n 0, 1) := by decide +kernel
theorem dL_law_486 : decode cL_law 486 = .ok (.iload_n 3, 1) := by decide +kernel
theorem dL_law_487 : decode cL_law 487 = .ok (.iconst 1, 1) := by decide +kernel
theorem dL_law_488 : decode cL_law 488 = .ok (.iadd, 1) := by decide +kernel
theorem dL_law_489 : decode cL_law 489 = .ok (.iaload, 1) := by decide +kernel
theorem dL_law_490 : decode cL_law 490 = .ok (.invokevirtual 57, 3) := by decide +kernel
theorem dL_law_493 : decode cL_law 493 = .ok (.aload_n 2, 1) := by decide +kernel
theorem dL_law_494 : decode cL_law 494 = .ok (.aload_n 0, 1) := by decide +kernel
theorem dL_law_495 : decode cL_law 495 = .ok (.iload_n 3, 1) := by decide +kernel
theorem dL_law_496 : decode cL_law 496 = .ok (.iconst 1, 1) := by decide +kernel
theorem dL_law_497 : decode cL_law 497 = .ok (.iadd, 1) := by decide +kernel
theorem dL_law_498 : decode cL_law 498 = .ok (.iaload, 1) := by decide +kernel
theorem dL_law_499 : decode cL_law 499 = .ok (.invokevirtual 60, 3) := by decide +kernel
theorem dL_law_502 : decode cL_law 502 = .ok (.if_icmp .eq 447, 3) := by decide +kernel
theorem dL_law_505 : decode cL_law 505 = .ok (.iconst 0, 1) := by decide +kernel
theorem dL_law_506 : decode cL_law 506 = .ok (.ireturn, 1) := by decide +kernel
theorem dL_law_507 : decode cL_law 507 = .ok (.aload_n 1, 1) := by decide +kernel
theorem dL_law_508 : decode cL_law 508 = .ok (.aload_n 0, 1) := by decide +kernel
theorem dL_law_509 : decode cL_law 509 = .ok (.iload_n 3, 1) := by decide +kernel
theorem dL_law_510 : decode cL_law 510 = .ok (.iconst 1, 1) := by decide +kernel
theorem dL_law_511 : decode cL_law 511 = .ok (.iadd, 1) := by decide +kernel
theorem dL_law_512 : decode cL_law 512 = .ok (.iaload, 1) := by decide +kernel
theorem dL_law_513 : decode cL_law 513 = .ok (.i2c, 1) := by decide +kernel
theorem dL_law_514 : decode cL_law 514 = .ok (.invokevirtual 61, 3) := by decide +kernel
theorem dL_law_517 : decode cL_law 517 = .ok (.aload_n 2, 1) := by decide +kernel
theorem dL_law_518 : decode cL_law 518 = .ok (.aload_n 0, 1) := by decide +kernel
theorem dL_law_519 : decode cL_law 519 = .ok (.iload_n 3, 1) := by decide +kernel
theorem dL_law_520 : decode cL_law 520 = .ok (.iconst 1, 1) := by decide +kernel
theorem dL_law_521 : decode cL_law 521 = .ok (.iadd, 1) := by decide +kernel
theorem dL_law_522 : decode cL_law 522 = .ok (.iaload, 1) := by decide +kernel
theorem dL_law_523 : decode cL_law 523 = .ok (.i2c, 1) := by decide +kernel
theorem dL_law_524 : decode cL_law 524 = .ok (.invokevirtual 65, 3) := by decide +kernel
theorem dL_law_527 : decode cL_law 527 = .ok (.if_icmp .eq 422, 3) := by decide +kernel
theorem dL_law_530 : decode cL_law 530 = .ok (.iconst 0, 1) := by decide +kernel
theorem dL_law_531 : decode cL_law 531 = .ok (.ireturn, 1) := by decide +kernel
theorem dL_law_532 : decode cL_law 532 = .ok (.aload_n 1, 1) := by decide +kernel
theorem dL_law_533 : decode cL_law 533 = .ok (.invokevirtual 66, 3) := by decide +kernel
theorem dL_law_536 : decode cL_law 536 = .ok (.aload_n 2, 1) := by decide +kernel
theorem dL_law_537 : decode cL_law 537 = .ok (.invokevirtual 69, 3) := by decide +kernel
theorem dL_law_540 : decode cL_law 540 = .ok (.if_icmp .eq 409, 3) := by decide +kernel
theorem dL_law_543 : decode cL_law 543 = .ok (.iconst 0, 1) := by decide +kernel
theorem dL_law_544 : decode cL_law 544 = .ok (.ireturn, 1) := by decide +kernel
theorem dL_law_545 : decode cL_law 545 = .ok (.aload_n 1, 1) := by decide +kernel
theorem dL_law_546 : decode cL_law 546 = .ok (.invokevirtual 70, 3) := by decide +kernel
theorem dL_law_549 : decode cL_law 549 = .ok (.aload_n 2, 1) := by decide +kernel
theorem dL_law_550 : decode cL_law 550 = .ok (.invokevirtual 73, 3) := by decide +kernel
theorem dL_law_553 : decode cL_law 553 = .ok (.if_icmp .eq 396, 3) := by decide +kernel
theorem dL_law_556 : decode cL_law 556 = .ok (.iconst 0, 1) := by decide +kernel
theorem dL_law_557 : decode cL_law 557 = .ok (.ireturn, 1) := by decide +kernel
theorem dL_law_558 : decode cL_law 558 = .ok (.aload_n 1, 1) := by decide +kernel
theorem dL_law_559 : decode cL_law 559 = .ok (.aload_n 0, 1) := by decide +kernel
theorem dL_law_560 : decode cL_law 560 = .ok (.iload_n 3, 1) := by decide +kernel
theorem dL_law_561 : decode cL_law 561 = .ok (.iconst 1, 1) := by decide +kernel
theorem dL_law_562 : decode cL_law 562 = .ok (.iadd, 1) := by decide +kernel
theorem dL_law_563 : decode cL_law 563 = .ok (.iaload, 1) := by decide +kernel
theorem dL_law_564 : decode cL_law 564 = .ok (.invokevirtual 74, 3) := by decide +kernel
theorem dL_law_567 : decode cL_law 567 = .ok (.aload_n 2, 1) := by decide +kernel
theorem dL_law_568 : decode cL_law 568 = .ok (.aload_n 0, 1) := by decide +kernel
theorem dL_law_569 : decode cL_law 569 = .ok (.iload_n 3, 1) := by decide +kernel
theorem dL_law_570 : decode cL_law 570 = .ok (.iconst 1, 1) := by decide +kernel
theorem dL_law_571 : decode cL_law 571 = .ok (.iadd, 1) := by decide +kernel
theorem dL_law_572 : decode cL_law 572 = .ok (.iaload, 1) := by decide +kernel
theorem dL_law_573 : decode cL_law 573 = .ok (.invokevirtual 77, 3) := by decide +kernel
theorem dL_law_576 : decode cL_law 576 = .ok (.if_icmp .eq 373, 3) := by decide +kernel
theorem dL_law_579 : decode cL_law 579 = .ok (.iconst 0, 1) := by decide +kernel
theorem dL_law_580 : decode cL_law 580 = .ok (.ireturn, 1) := by decide +kernel
theorem dL_law_581 : decode cL_law 581 = .ok (.aload_n 1, 1) := by decide +kernel
theorem dL_law_582 : decode cL_law 582 = .ok (.invokevirtual 78, 3) := by decide +kernel
theorem dL_law_585 : decode cL_law 585 = .ok (.aload_n 2, 1) := by decide +kernel
theorem dL_law_586 : decode cL_law 586 = .ok (.invokevirtual 81, 3) := by decide +kernel
theorem dL_law_589 : decode cL_law 589 = .ok (.if_icmp .eq 360, 3) := by decide +kernel
theorem dL_law_592 : decode cL_law 592 = .ok (.iconst 0, 1) := by decide +kernel
theorem dL_law_593 : decode cL_law 593 = .ok (.ireturn, 1) := by decide +kernel
theorem dL_law_594 : decode cL_law 594 = .ok (.aload_n 1, 1) := by decide +kernel
theorem dL_law_595 : decode cL_law 595 = .ok (.invokevirtual 82, 3) := by decide +kernel
theorem dL_law_598 : decode cL_law 598 = .ok (.aload_n 2, 1) := by decide +kernel
theorem dL_law_599 : decode cL_law 599 = .ok (.invokevirtual 85, 3) := by decide +kernel
theorem dL_law_602 : decode cL_law 602 = .ok (.if_icmp .eq 347, 3) := by decide +kernel
theorem dL_law_605 : decode cL_law 605 = .ok (.iconst 0, 1) := by decide +kernel
theorem dL_law_606 : decode cL_law 606 = .ok (.ireturn, 1) := by decide +kernel
theorem dL_law_607 : decode cL_law 607 = .ok (.aload_n 1, 1) := by decide +kernel
theorem dL_law_608 : decode cL_law 608 = .ok (.invokevirtual 86, 3) := by decide +kernel
theorem dL_law_611 : decode cL_law 611 = .ok (.aload_n 2, 1) := by decide +kernel
theorem dL_law_612 : decode cL_law 612 = .ok (.invokevirtual 89, 3) := by decide +kernel
theorem dL_law_615 : decode cL_law 615 = .ok (.if_icmp .eq 334, 3) := by decide +kernel
theorem dL_law_618 : decode cL_law 618 = .ok (.iconst 0, 1) := by decide +kernel
theorem dL_law_619 : decode cL_law 619 = .ok (.ireturn, 1) := by decide +kernel
theorem dL_law_620 : decode cL_law 620 = .ok (.aload_n 1, 1) := by decide +kernel
theorem dL_law_621 : decode cL_law 621 = .ok (.aload_n 0, 1) := by decide +kernel
theorem dL_law_622 : decode cL_law 622 = .ok (.iload_n 3, 1) := by decide +kernel
theorem dL_law_623 : decode cL_law 623 = .ok (.iconst 1, 1) := by decide +kernel
theorem dL_law_624 : decode cL_law 624 = .ok (.iadd, 1) := by decide +kernel
theorem dL_law_625 : decode cL_law 625 = .ok (.iaload, 1) := by decide +kernel
theorem dL_law_626 : decode cL_law 626 = .ok (.aload_n 0, 1) := by decide +kernel
theorem dL_law_627 : decode cL_law 627 = .ok (.iload_n 3, 1) := by decide +kernel
theorem dL_law_628 : decode cL_law 628 = .ok (.iconst 2, 1) := by decide +kernel
theorem dL_law_629 : decode cL_law 629 = .ok (.iadd, 1) := by decide +kernel
theorem dL_law_630 : decode cL_law 630 = .ok (.iaload, 1) := by decide +kernel
theorem dL_law_631 : decode cL_law 631 = .ok (.invokevirtual 90, 3) := by decide +kernel
theorem dL_law_634 : decode cL_law 634 = .ok (.aload_n 2, 1) := by decide +kernel
theorem dL_law_635 : decode cL_law 635 = .ok (.aload_n 0, 1) := by decide +kernel
theorem dL_law_636 : decode cL_law 636 = .ok (.iload_n 3, 1) := by decide +kernel
theorem dL_law_637 : decode cL_law 637 = .ok (.iconst 1, 1) := by decide +kernel
theorem dL_law_638 : decode cL_law 638 = .ok (.iadd, 1) := by decide +kernel
theorem dL_law_639 : decode cL_law 639 = .ok (.iaload, 1) := by decide +kernel
theorem dL_law_640 : decode cL_law 640 = .ok (.aload_n 0, 1) := by decide +kernel
theorem dL_law_641 : decode cL_law 641 = .ok (.iload_n 3, 1) := by decide +kernel
theorem dL_law_642 : decode cL_law 642 = .ok (.iconst 2, 1) := by decide +kernel
theorem dL_law_643 : decode cL_law 643 = .ok (.iadd, 1) := by decide +kernel
theorem dL_law_644 : decode cL_law 644 = .ok (.iaload, 1) := by decide +kernel
theorem dL_law_645 : decode cL_law 645 = .ok (.invokevirtual 93, 3) := by decide +kernel
theorem dL_law_648 : decode cL_law 648 = .ok (.if_icmp .eq 301, 3) := by decide +kernel
theorem dL_law_651 : decode cL_law 651 = .ok (.iconst 0, 1) := by decide +kernel
theorem dL_law_652 : decode cL_law 652 = .ok (.ireturn, 1) := by decide +kernel
theorem dL_law_653 : decode cL_law 653 = .ok (.aload_n 1, 1) := by decide +kernel
theorem dL_law_654 : decode cL_law 654 = .ok (.aload_n 0, 1) := by decide +kernel
theorem dL_law_655 : decode cL_law 655 = .ok (.iload_n 3, 1) := by decide +kernel
theorem dL_law_656 : decode cL_law 656 = .ok (.iconst 1, 1) := by decide +kernel
theorem dL_law_657 : decode cL_law 657 = .ok (.iadd, 1) := by decide +kernel
theorem dL_law_658 : decode cL_law 658 = .ok (.iaload, 1) := by decide +kernel
theorem dL_law_659 : decode cL_law 659 = .ok (.invokevirtual 94, 3) := by decide +kernel
theorem dL_law_662 : decode cL_law 662 = .ok (.dstore 4, 2) := by decide +kernel
theorem dL_law_664 : decode cL_law 664 = .ok (.aload_n 2, 1) := by decide +kernel
theorem dL_law_665 : decode cL_law 665 = .ok (.aload_n 0, 1) := by decide +kernel
theorem dL_law_666 : decode cL_law 666 = .ok (.iload_n 3, 1) := by decide +kernel
theorem dL_law_667 : decode cL_law 667 = .ok (.iconst 1, 1) := by decide +kernel
theorem dL_law_668 : decode cL_law 668 = .ok (.iadd, 1) := by decide +kernel
theorem dL_law_669 : decode cL_law 669 = .ok (.iaload, 1) := by decide +kernel
theorem dL_law_670 : decode cL_law 670 = .ok (.invokevirtual 98, 3) := by decide +kernel
theorem dL_law_673 : decode cL_law 673 = .ok (.dstore 6, 2) := by decide +kernel
theorem dL_law_675 : decode cL_law 675 = .ok (.dload 4, 2) := by decide +kernel
theorem dL_law_677 : decode cL_law 677 = .ok (.dload 6, 2) := by decide +kernel
theorem dL_law_679 : decode cL_law 679 = .ok (.dcmp .l, 1) := by decide +kernel
theorem dL_law_680 : decode cL_law 680 = .ok (.ifCond .eq 21, 3) := by decide +kernel
theorem dL_law_683 : decode cL_law 683 = .ok (.dload 4, 2) := by decide +kernel
theorem dL_law_685 : decode cL_law 685 = .ok (.dload 4, 2) := by decide +kernel
theorem dL_law_687 : decode cL_law 687 = .ok (.dcmp .l, 1) := by decide +kernel
theorem dL_law_688 : decode cL_law 688 = .ok (.ifCond .eq 11, 3) := by decide +kernel
theorem dL_law_691 : decode cL_law 691 = .ok (.dload 6, 2) := by decide +kernel
theorem dL_law_693 : decode cL_law 693 = .ok (.dload 6, 2) := by decide +kernel
theorem dL_law_695 : decode cL_law 695 = .ok (.dcmp .l, 1) := by decide +kernel
theorem dL_law_696 : decode cL_law 696 = .ok (.ifCond .ne 5, 3) := by decide +kernel
theorem dL_law_699 : decode cL_law 699 = .ok (.iconst 0, 1) := by decide +kernel
theorem dL_law_700 : decode cL_law 700 = .ok (.ireturn, 1) := by decide +kernel
theorem dL_law_701 : decode cL_law 701 = .ok (.goto 248, 3) := by decide +kernel
theorem dL_law_704 : decode cL_law 704 = .ok (.aload_n 1, 1) := by decide +kernel
theorem dL_law_705 : decode cL_law 705 = .ok (.aload_n 0, 1) := by decide +kernel
theorem dL_law_706 : decode cL_law 706 = .ok (.iload_n 3, 1) := by decide +kernel
theorem dL_law_707 : decode cL_law 707 = .ok (.iconst 1, 1) := by decide +kernel
theorem dL_law_708 : decode cL_law 708 = .ok (.iadd, 1) := by decide +kernel
theorem dL_law_709 : decode cL_law 709 = .ok (.iaload, 1) := by decide +kernel
theorem dL_law_710 : decode cL_law 710 = .ok (.aload_n 0, 1) := by decide +kernel
theorem dL_law_711 : decode cL_law 711 = .ok (.iload_n 3, 1) := by decide +kernel
theorem dL_law_712 : decode cL_law 712 = .ok (.iconst 2, 1) := by decide +kernel
theorem dL_law_713 : decode cL_law 713 = .ok (.iadd, 1) := by decide +kernel
theorem dL_law_714 : decode cL_law 714 = .ok (.iaload, 1) := by decide +kernel
theorem dL_law_715 : decode cL_law 715 = .ok (.invokevirtual 99, 3) := by decide +kernel
theorem dL_law_718 : decode cL_law 718 = .ok (.dstore 4, 2) := by decide +kernel
theorem dL_law_720 : decode cL_law 720 = .ok (.aload_n 2, 1) := by decide +kernel
theorem dL_law_721 : decode cL_law 721 = .ok (.aload_n 0, 1) := by decide +kernel
theorem dL_law_722 : decode cL_law 722 = .ok (.iload_n 3, 1) := by decide +kernel
theorem dL_law_723 : decode cL_law 723 = .ok (.iconst 1, 1) := by decide +kernel
theorem dL_law_724 : decode cL_law 724 = .ok (.iadd, 1) := by decide +kernel
theorem dL_law_725 : decode cL_law 725 = .ok (.iaload, 1) := by decide +kernel
theorem dL_law_726 : decode cL_law 726 = .ok (.aload_n 0, 1) := by decide +kernel
theorem dL_law_727 : decode cL_law 727 = .ok (.iload_n 3, 1) := by decide +kernel
theorem dL_law_728 : decode cL_law 728 = .ok (.iconst 2, 1) := by decide +kernel
theorem dL_law_729 : decode cL_law 729 = .ok (.iadd, 1) := by decide +kernel
theorem dL_law_730 : decode cL_law 730 = .ok (.iaload, 1) := by decide +kernel
theorem dL_law_731 : decode cL_law 731 = .ok (.invokevirtual 103, 3) := by decide +kernel
theorem dL_law_734 : decode cL_law 734 = .ok (.dstore 6, 2) := by decide +kernel
theorem dL_law_736 : decode cL_law 736 = .ok (.dload 4, 2) := by decide +kernel
theorem dL_law_738 : decode cL_law 738 = .ok (.dload 6, 2) := by decide +kernel
theorem dL_law_740 : decode cL_law 740 = .ok (.dcmp .l, 1) := by decide +kernel
theorem dL_law_741 : decode cL_law 741 = .ok (.ifCond .eq 21, 3) := by decide +kernel
theorem dL_law_744 : decode cL_law 744 = .ok (.dload 4, 2) := by decide +kernel
theorem dL_law_746 : decode cL_law 746 = .ok (.dload 4, 2) := by decide +kernel
theorem dL_law_748 : decode cL_law 748 = .ok (.dcmp .l, 1) := by decide +kernel
theorem dL_law_749 : decode cL_law 749 = .ok (.ifCond .eq 11, 3) := by decide +kernel
theorem dL_law_752 : decode cL_law 752 = .ok (.dload 6, 2) := by decide +kernel
theorem dL_law_754 : decode cL_law 754 = .ok (.dload 6, 2) := by decide +kernel
theorem dL_law_756 : decode cL_law 756 = .ok (.dcmp .l, 1) := by decide +kernel
theorem dL_law_757 : decode cL_law 757 = .ok (.ifCond .ne 5, 3) := by decide +kernel
theorem dL_law_760 : decode cL_law 760 = .ok (.iconst 0, 1) := by decide +kernel
theorem dL_law_761 : decode cL_law 761 = .ok (.ireturn, 1) := by decide +kernel
theorem dL_law_762 : decode cL_law 762 = .ok (.goto 187, 3) := by decide +kernel
theorem dL_law_765 : decode cL_law 765 = .ok (.aload_n 1, 1) := by decide +kernel
theorem dL_law_766 : decode cL_law 766 = .ok (.aload_n 0, 1) := by decide +kernel
theorem dL_law_767 : decode cL_law 767 = .ok (.iload_n 3, 1) := by decide +kernel
theorem dL_law_768 : decode cL_law 768 = .ok (.iconst 1, 1) := by decide +kernel
theorem dL_law_769 : decode cL_law 769 = .ok (.iadd, 1) := by decide +kernel
theorem dL_law_770 : decode cL_law 770 = .ok (.iaload, 1) := by decide +kernel
theorem dL_law_771 : decode cL_law 771 = .ok (.aload_n 0, 1) := by decide +kernel
theorem dL_law_772 : decode cL_law 772 = .ok (.iload_n 3, 1) := by decide +kernel
theorem dL_law_773 : decode cL_law 773 = .ok (.iconst 2, 1) := by decide +kernel
theorem dL_law_774 : decode cL_law 774 = .ok (.iadd, 1) := by decide +kernel
theorem dL_law_775 : decode cL_law 775 = .ok (.iaload, 1) := by decide +kernel
theorem dL_law_776 : decode cL_law 776 = .ok (.invokevirtual 104, 3) := by decide +kernel
theorem dL_law_779 : decode cL_law 779 = .ok (.aload_n 2, 1) := by decide +kernel
theorem dL_law_780 : decode cL_law 780 = .ok (.aload_n 0, 1) := by decide +kernel
theorem dL_law_781 : decode cL_law 781 = .ok (.iload_n 3, 1) := by decide +kernel
theorem dL_law_782 : decode cL_law 782 = .ok (.iconst 1, 1) := by decide +kernel
theorem dL_law_783 : decode cL_law 783 = .ok (.iadd, 1) := by decide +kernel
theorem dL_law_784 : decode cL_law 784 = .ok (.iaload, 1) := by decide +kernel
theorem dL_law_785 : decode cL_law 785 = .ok (.aload_n 0, 1) := by decide +kernel
theorem dL_law_786 : decode cL_law 786 = .ok (.iload_n 3, 1) := by decide +kernel
theorem dL_law_787 : decode cL_law 787 = .ok (.iconst 2, 1) := by decide +kernel
theorem dL_law_788 : decode cL_law 788 = .ok (.iadd, 1) := by decide +kernel
theorem dL_law_789 : decode cL_law 789 = .ok (.iaload, 1) := by decide +kernel
theorem dL_law_790 : decode cL_law 790 = .ok (.invokevirtual 107, 3) := by decide +kernel
theorem dL_law_793 : decode cL_law 793 = .ok (.if_icmp .eq 156, 3) := by decide +kernel
theorem dL_law_796 : decode cL_law 796 = .ok (.iconst 0, 1) := by decide +kernel
theorem dL_law_797 : decode cL_law 797 = .ok (.ireturn, 1) := by decide +kernel
theorem dL_law_798 : decode cL_law 798 = .ok (.aload_n 1, 1) := by decide +kernel
theorem dL_law_799 : decode cL_law 799 = .ok (.aload_n 0, 1) := by decide +kernel
theorem dL_law_800 : decode cL_law 800 = .ok (.iload_n 3, 1) := by decide +kernel
theorem dL_law_801 : decode cL_law 801 = .ok (.iconst 1, 1) := by decide +kernel
theorem dL_law_802 : decode cL_law 802 = .ok (.iadd, 1) := by decide +kernel
theorem dL_law_803 : decode cL_law 803 = .ok (.iaload, 1) := by decide +kernel
theorem dL_law_804 : decode cL_law 804 = .ok (.invokevirtual 108, 3) := by decide +kernel
theorem dL_law_807 : decode cL_law 807 = .ok (.aload_n 2, 1) := by decide +kernel
theorem dL_law_808 : decode cL_law 808 = .ok (.aload_n 0, 1) := by decide +kernel
theorem dL_law_809 : decode cL_law 809 = .ok (.iload_n 3, 1) := by decide +kernel
theorem dL_law_810 : decode cL_law 810 = .ok (.iconst 1, 1) := by decide +kernel
theorem dL_law_811 : decode cL_law 811 = .ok (.iadd, 1) := by decide +kernel
theorem dL_law_812 : decode cL_law 812 = .ok (.iaload, 1) := by decide +kernel
theorem dL_law_813 : decode cL_law 813 = .ok (.invokevirtual 111, 3) := by decide +kernel
theorem dL_law_816 : decode cL_law 816 = .ok (.if_icmp .eq 133, 3) := by decide +kernel
theorem dL_law_819 : decode cL_law 819 = .ok (.iconst 0, 1) := by decide +kernel
theorem dL_law_820 : decode cL_law 820 = .ok (.ireturn, 1) := by decide +kernel
theorem dL_law_821 : decode cL_law 821 = .ok (.aload_n 1, 1) := by decide +kernel
theorem dL_law_822 : decode cL_law 822 = .ok (.aload_n 0, 1) := by decide +kernel
theorem dL_law_823 : decode cL_law 823 = .ok (.iload_n 3, 1) := by decide +kernel
theorem dL_law_824 : decode cL_law 824 = .ok (.iconst 1, 1) := by decide +kernel
theorem dL_law_825 : decode cL_law 825 = .ok (.iadd, 1) := by decide +kernel
theorem dL_law_826 : decode cL_law 826 = .ok (.iaload, 1) := by decide +kernel
theorem dL_law_827 : decode cL_law 827 = .ok (.invokevirtual 112, 3) := by decide +kernel
theorem dL_law_830 : decode cL_law 830 = .ok (.aload_n 2, 1) := by decide +kernel
theorem dL_law_831 : decode cL_law 831 = .ok (.aload_n 0, 1) := by decide +kernel
theorem dL_law_832 : decode cL_law 832 = .ok (.iload_n 3, 1) := by decide +kernel
theorem dL_law_833 : decode cL_law 833 = .ok (.iconst 1, 1) := by decide +kernel
theorem dL_law_834 : decode cL_law 834 = .ok (.iadd, 1) := by decide +kernel
theorem dL_law_835 : decode cL_law 835 = .ok (.iaload, 1) := by decide +kernel
theorem dL_law_836 : decode cL_law 836 = .ok (.invokevirtual 115, 3) := by decide +kernel
theorem dL_law_839 : decode cL_law 839 = .ok (.if_icmp .eq 110, 3) := by decide +kernel
theorem dL_law_842 : decode cL_law 842 = .ok (.iconst 0, 1) := by decide +kernel
theorem dL_law_843 : decode cL_law 843 = .ok (.ireturn, 1) := by decide +kernel
theorem dL_law_844 : decode cL_law 844 = .ok (.aload_n 1, 1) := by decide +kernel
theorem dL_law_845 : decode cL_law 845 = .ok (.invokevirtual 116, 3) := by decide +kernel
theorem dL_law_848 : decode cL_law 848 = .ok (.aload_n 2, 1) := by decide +kernel
theorem dL_law_849 : decode cL_law 849 = .ok (.invokevirtual 119, 3) := by decide +kernel
theorem dL_law_852 : decode cL_law 852 = .ok (.if_icmp .eq 97, 3) := by decide +kernel
theorem dL_law_855 : decode cL_law 855 = .ok (.iconst 0, 1) := by decide +kernel
theorem dL_law_856 : decode cL_law 856 = .ok (.ireturn, 1) := by decide +kernel
theorem dL_law_857 : decode cL_law 857 = .ok (.aload_n 1, 1) := by decide +kernel
theorem dL_law_858 : decode cL_law 858 = .ok (.invokevirtual 120, 3) := by decide +kernel
theorem dL_law_861 : decode cL_law 861 = .ok (.aload_n 2, 1) := by decide +kernel
theorem dL_law_862 : decode cL_law 862 = .ok (.invokevirtual 123, 3) := by decide +kernel
theorem dL_law_865 : decode cL_law 865 = .ok (.if_icmp .eq 84, 3) := by decide +kernel
theorem dL_law_868 : decode cL_law 868 = .ok (.iconst 0, 1) := by decide +kernel
theorem dL_law_869 : decode cL_law 869 = .ok (.ireturn, 1) := by decide +kernel
theorem dL_law_870 : decode cL_law 870 = .ok (.aload_n 1, 1) := by decide +kernel
theorem dL_law_871 : decode cL_law 871 = .ok (.aload_n 0, 1) := by decide +kernel
theorem dL_law_872 : decode cL_law 872 = .ok (.iload_n 3, 1) := by decide +kernel
theorem dL_law_873 : decode cL_law 873 = .ok (.iconst 1, 1) := by decide +kernel
theorem dL_law_874 : decode cL_law 874 = .ok (.iadd, 1) := by decide +kernel
theorem dL_law_875 : decode cL_law 875 = .ok (.iaload, 1) := by decide +kernel
theorem dL_law_876 : decode cL_law 876 = .ok (.invokevirtual 124, 3) := by decide +kernel
theorem dL_law_879 : decode cL_law 879 = .ok (.aload_n 2, 1) := by decide +kernel
theorem dL_law_880 : decode cL_law 880 = .ok (.aload_n 0, 1) := by decide +kernel
theorem dL_law_881 : decode cL_law 881 = .ok (.iload_n 3, 1) := by decide +kernel
theorem dL_law_882 : decode cL_law 882 = .ok (.iconst 1, 1) := by decide +kernel
theorem dL_law_883 : decode cL_law 883 = .ok (.iadd, 1) := by decide +kernel
theorem dL_law_884 : decode cL_law 884 = .ok (.iaload, 1) := by decide +kernel
theorem dL_law_885 : decode cL_law 885 = .ok (.invokevirtual 127, 3) := by decide +kernel
theorem dL_law_888 : decode cL_law 888 = .ok (.if_icmp .eq 61, 3) := by decide +kernel
theorem dL_law_891 : decode cL_law 891 = .ok (.iconst 0, 1) := by decide +kernel
theorem dL_law_892 : decode cL_law 892 = .ok (.ireturn, 1) := by decide +kernel
theorem dL_law_893 : decode cL_law 893 = .ok (.aload_n 1, 1) := by decide +kernel
theorem dL_law_894 : decode cL_law 894 = .ok (.aload_n 0, 1) := by decide +kernel
theorem dL_law_895 : decode cL_law 895 = .ok (.iload_n 3, 1) := by decide +kernel
theorem dL_law_896 : decode cL_law 896 = .ok (.iconst 1, 1) := by decide +kernel
theorem dL_law_897 : decode cL_law 897 = .ok (.iadd, 1) := by decide +kernel
theorem dL_law_898 : decode cL_law 898 = .ok (.iaload, 1) := by decide +kernel
theorem dL_law_899 : decode cL_law 899 = .ok (.aload_n 0, 1) := by decide +kernel
theorem dL_law_900 : decode cL_law 900 = .ok (.iload_n 3, 1) := by decide +kernel
theorem dL_law_901 : decode cL_law 901 = .ok (.iconst 2, 1) := by decide +kernel
theorem dL_law_902 : decode cL_law 902 = .ok (.iadd, 1) := by decide +kernel
theorem dL_law_903 : decode cL_law 903 = .ok (.iaload, 1) := by decide +kernel
theorem dL_law_904 : decode cL_law 904 = .ok (.invokevirtual 128, 3) := by decide +kernel
theorem dL_law_907 : decode cL_law 907 = .ok (.aload_n 2, 1) := by decide +kernel
theorem dL_law_908 : decode cL_law 908 = .ok (.aload_n 0, 1) := by decide +kernel
theorem dL_law_909 : decode cL_law 909 = .ok (.iload_n 3, 1) := by decide +kernel
theorem dL_law_910 : decode cL_law 910 = .ok (.iconst 1, 1) := by decide +kernel
theorem dL_law_911 : decode cL_law 911 = .ok (.iadd, 1) := by decide +kernel
theorem dL_law_912 : decode cL_law 912 = .ok (.iaload, 1) := by decide +kernel
theorem dL_law_913 : decode cL_law 913 = .ok (.aload_n 0, 1) := by decide +kernel
theorem dL_law_914 : decode cL_law 914 = .ok (.iload_n 3, 1) := by decide +kernel
theorem dL_law_915 : decode cL_law 915 = .ok (.iconst 2, 1) := by decide +kernel
theorem dL_law_916 : decode cL_law 916 = .ok (.iadd, 1) := by decide +kernel
theorem dL_law_917 : decode cL_law 917 = .ok (.iaload, 1) := by decide +kernel
theorem dL_law_918 : decode cL_law 918 = .ok (.invokevirtual 131, 3) := by decide +kernel
theorem dL_law_921 : decode cL_law 921 = .ok (.if_icmp .eq 28, 3) := by decide +kernel
theorem dL_law_924 : decode cL_law 924 = .ok (.iconst 0, 1) := by decide +kernel
theorem dL_law_925 : decode cL_law 925 = .ok (.ireturn, 1) := by decide +kernel
theorem dL_law_926 : decode cL_law 926 = .ok (.aload_n 1, 1) := by decide +kernel
theorem dL_law_927 : decode cL_law 927 = .ok (.aload_n 0, 1) := by decide +kernel
theorem dL_law_928 : decode cL_law 928 = .ok (.iload_n 3, 1) := by decide +kernel
theorem dL_law_929 : decode cL_law 929 = .ok (.iconst 1, 1) := by decide +kernel
theorem dL_law_930 : decode cL_law 930 = .ok (.iadd, 1) := by decide +kernel
theorem dL_law_931 : decode cL_law 931 = .ok (.iaload, 1) := by decide +kernel
theorem dL_law_932 : decode cL_law 932 = .ok (.invokevirtual 132, 3) := by decide +kernel
theorem dL_law_935 : decode cL_law 935 = .ok (.aload_n 2, 1) := by decide +kernel
theorem dL_law_936 : decode cL_law 936 = .ok (.aload_n 0, 1) := by decide +kernel
theorem dL_law_937 : decode cL_law 937 = .ok (.iload_n 3, 1) := by decide +kernel
theorem dL_law_938 : decode cL_law 938 = .ok (.iconst 1, 1) := by decide +kernel
theorem dL_law_939 : decode cL_law 939 = .ok (.iadd, 1) := by decide +kernel
theorem dL_law_940 : decode cL_law 940 = .ok (.iaload, 1) := by decide +kernel
theorem dL_law_941 : decode cL_law 941 = .ok (.invokevirtual 135, 3) := by decide +kernel
theorem dL_law_944 : decode cL_law 944 = .ok (.if_icmp .eq 5, 3) := by decide +kernel
theorem dL_law_947 : decode cL_law 947 = .ok (.iconst 0, 1) := by decide +kernel
theorem dL_law_948 : decode cL_law 948 = .ok (.ireturn, 1) := by decide +kernel
theorem dL_law_949 : decode cL_law 949 = .ok (.iinc 3 5, 3) := by decide +kernel
theorem dL_law_952 : decode cL_law 952 = .ok (.goto (-934), 3) := by decide +kernel
theorem dL_law_955 : decode cL_law 955 = .ok (.iconst 1, 1) := by decide +kernel
theorem dL_law_956 : decode cL_law 956 = .ok (.ireturn, 1) := by decide +kernel
end
section
/-! THE V LAYER: one judgement over a world that is a list of cells; locals, stack and pc; the record of everything fixed is X -/
abbrev vC : Type := va_G × ClassId × ClassId × ClassId × ClassId
abbrev vT (G : vC) : List (ClassId × FieldType) := [(G.2.1, .int), (G.2.2.1, .float), (G.2.2.2.1, .char), (G.2.2.2.2, .object RX1)]
def v_ok (w : Cond) : Bool := w.onTables && w.keepsH
def vK (G : vC) (U : State) : Prop := va_K G.1 vwCl (vT G) U ∧ (∀ w ∈ lw_tbl, v_ok w = true → va_Nw w U) ∧ (∀ a : Array Value, (Cond.arrayClass .int).before a U = true ∧ (Cond.arrayClass .float).before a U = true ∧ (Cond.arrayClass .char).before a U = true) ∧ va_AO RX1 U
theorem vK.warm {G : vC} {s U : State} (hW : s.WarmedH U.vm) (h : vK G s) : vK G U := by
  obtain ⟨h1, h2, h3, h4⟩ := h
  refine ⟨va_K.moved hW.alike h1, fun w hw ho => ?_, fun a => ⟨word_at hW (Or.inr ⟨_, rfl⟩) (h3 a).1, word_at hW (Or.inr ⟨_, rfl⟩) (h3 a).2.1, word_at hW (Or.inr ⟨_, rfl⟩) (h3 a).2.2⟩, va_AO.moved hW.alike h4⟩
  have h5 := h2 w hw ho
  unfold v_ok at ho
  rw [Bool.and_eq_true] at ho
  have h6 := Cond.onTables_warmH (T := U) (args' := #[]) hW ho.1 ho.2 h5
  rwa [State.setVm_self] at h6
theorem vK.call {G : vC} {U : State} {g : JFrame} {mk : MethodId} {a : Array Value} (h : vK G U) : vK G (U.calling g mk a) :=
  vK.warm (s := U) (U := U.calling g mk a) (State.WarmedH.refl U) h
theorem vK.use {G : vC} {s : State} {args : Array Value} {w : Cond} (h : vK G s) (hw : w ∈ lw_tbl) (ho : v_ok w = true) : w.before args s = true := by
  have h1 := h.2.1 w hw ho
  unfold v_ok at ho
  rw [Bool.and_eq_true] at ho
  exact va_Nw.use ho.1 h1
theorem vK.nw {G : vC} {s : State} {w : Cond} (h : vK G s) (hw : w ∈ lw_tbl) (ho : v_ok w = true) : va_Nw w s := h.2.1 w hw ho
/-- what is fixed in a walk -/
abbrev vX : Type := vC × Program × Launch × Env × Room × State × MethodId × Array Value × List Frame × Method × Code × (Nat → Prop) × (State → Prop) × Nat
def V : vX → Nat → Nat → va_W → List (Nat × Value) → Nat → List Value → Prop
  | (G, p, l, e, R, s, m, args, below, meth, c, A, Q, nL), k, n, w, lv, pc, st =>
    ∀ (H : Heap) (locs : List Loc) (ls : Array Slot), va_P G.1 vwCl w H → va_D A w → va_S A s.heap H locs → lv_has ls nL lv → W p l e R s m args below meth c H locs k n Q (F0 m pc ls st)
def VS (X : vX) (l : Launch) (G : vC) (y : MethodName) (cc : ByteArray) (R : Room) (nL : Nat) : Prop :=
  ∃ p e s m args below meth c A Q, X = (G, p, l, e, R, s, m, args, below, meth, c, A, Q, nL) ∧ p.tables.exec = Jvm.exec ∧ c.code = cc ∧ c.maxLocals = nL ∧ s.vm.findClass y.cls = some m.cls ∧ vK G s ∧ (∀ q : Nat, s.heap.size ≤ q → A q) ∧ meth.locks = false ∧ meth.name = y.name
def vQ (G : vC) (post : Option Value → va_W → Prop) (A : Nat → Prop) : Array Value → State → Outcome → State → Prop := fun _ st oc t =>
  (∃ (v : Option Value) (u : va_W), oc = .returned v ∧ post v u ∧ va_P G.1 vwCl u t.heap ∧ va_D A u) ∧ va_F A st t
def VR : vX → Option FieldType → Room → (Option Value → va_W → Prop) → Prop
  | (G, p, l, e, R, s, m, args, below, meth, c, A, Q, nL), ret, rm, post => meth.sig.returnType = ret ∧ Q = MQ below (vQ G post A) args s rm.cells rm.slots A
/-- a contract: with these arguments, over this world, the method comes back, and (its value, the world behind it) meet post -/
def Ct (l : Launch) (G : vC) (y : MethodName) (cc : ByteArray) (maxL : Nat) (ret : Option FieldType) (rm : Room) (as : List Value) (w : va_W) (post : Option Value → va_W → Prop) : Prop :=
  ∀ sz : Nat, Met l y [Cond.code y cc maxL ret] rm (va_Pc as (fun U => U.heap.size = sz ∧ va_P G.1 vwCl w U.heap ∧ vK G U ∧ va_D (fun _ => True) w)) (vQ G post (va_A w sz)) rm.cells rm.slots (va_A w sz)
/-- a contract that tells value and world -/
abbrev Fn (l : Launch) (G : vC) (y : MethodName) (cc : ByteArray) (maxL : Nat) (ret : Option FieldType) (rm : Room) (as : List Value) (w : va_W) (v : Option Value) (w' : va_W) : Prop :=
  Ct l G y cc maxL ret rm as w (fun v' u => v' = v ∧ u = w')
theorem Ct.of {l : Launch} {G : vC} {y : MethodName} {cc : ByteArray} {maxL : Nat} {ret : Option FieldType} {rm : Room} {as : List Value} {w : va_W} {post : Option Value → va_W → Prop}
    (hy : plainName y.cls = true) (hlen : (lg_sl as).length ≤ maxL)
    (body : ∀ X, VS X l G y cc rm maxL → VR X ret rm post → V X 0 0 w (lv_args 0 as) 0 []) : Ct l G y cc maxL ret rm as w post := by
  intro sz
  refine Met.ofW (cc := cc) (maxL := maxL) (ret := ret) hy rfl ?_
  intro p e s m args below meth c s₁ B hml hv
  obtain ⟨rfl, hsz, hP, hK, hD0⟩ := hv
  subst hsz
  have hl := lv_entry as hlen
  rw [lg_entry_eq]
  have hb := body (G, p, l, e, rm, s, m, as.toArray, below, meth, c, va_A w s.heap.size, MQ below (vQ G post (va_A w s.heap.size)) as.toArray s rm.cells rm.slots (va_A w s.heap.size), maxL)
    ⟨p, e, s, m, as.toArray, below, meth, c, _, _, rfl, B.exec, B.bytes, hml, findClass_of_methodNamed B.named, hK, fun q h => Or.inr h, B.notSynchronized, (name_of_methodNamed B.named B.method).1⟩ ⟨B.returns, rfl⟩
  exact hb s.heap [] _ hP hD0.self va_S.rf hl
theorem Ct.mono {l : Launch} {G : vC} {y : MethodName} {cc : ByteArray} {maxL : Nat} {ret : Option FieldType} {rm : Room} {as : List Value} {w : va_W} {post post' : Option Value → va_W → Prop}
    (h : Ct l G y cc maxL ret rm as w post) (hp : ∀ v u, post v u → post' v u) : Ct l G y cc maxL ret rm as w post' := by
  intro sz p e a b hk s m args below hf hh hp2 hp3
  have h1 := h sz p e a b hk s m args below hf hh hp2 hp3
  obtain ⟨t, o, h1, h2, h3, ⟨⟨⟨v, u, e1, e2, e3⟩, e4⟩, e5⟩⟩ := h1
  exact ⟨t, o, h1, h2, h3, ⟨⟨⟨v, u, e1, hp v u e2, e3⟩, e4⟩, e5⟩⟩
section VLemmas
variable {X : vX} {l : Launch} {G : vC} {own : String} {cc : ByteArray} {R : Room} {nL k n pc : Nat} {w : va_W} {lv : List (Nat × Value)} {st : List Value}
theorem V.toLv {lv' : List (Nat × Value)} (h : lv = lv') (kk : V X k n w lv' pc st) : V X k n w lv pc st := h ▸ kk
theorem V.wd {w' : va_W} (h : w = w') (kk : V X k n w' lv pc st) : V X k n w lv pc st := h ▸ kk
theorem V.sk {st' : List Value} (h : st = st') (kk : V X k n w lv pc st') : V X k n w lv pc st := h ▸ kk
theorem V.sub {lv' : List (Nat × Value)} (is : List Nat) (h : lv_pick lv is = lv') (kk : V X k n w lv' pc st) : V X k n w lv pc st := by
  obtain ⟨G, p, l, e, R, s, m, args, below, meth, c, A, Q, nL⟩ := X
  intro H locs ls hP hD hS hl
  exact kk H locs ls hP hD hS (lv_sub hl is h)
theorem V.widen {k' n' : Nat} (h1 : k ≤ k') (h2 : n ≤ n') (kk : V X k' n' w lv pc st) : V X k n w lv pc st := by
  obtain ⟨G, p, l, e, R, s, m, args, below, meth, c, A, Q, nL⟩ := X
  intro H locs ls hP hD hS hl
  exact W.widen h1 h2 (kk H locs ls hP hD hS hl)
theorem vp_mem {D : va_G} {cl : List vw_C} {ws : va_W} {H : Heap} : va_P D cl ws H ↔ ∀ q ∈ ws, va_at D cl q H :=
  ⟨fun h q hq => by obtain ⟨i, hi⟩ := List.getElem?_of_mem hq; exact h i q hi, fun h i q hi => h q (List.mem_of_getElem? hi)⟩
theorem vd_nd : ∀ ws : va_W, (∀ (i j : Nat) (p q : Nat × va_E), ws[i]? = some p → ws[j]? = some q → p.1 = q.1 → i = j) ↔ (ws.map Prod.fst).Nodup := by
  intro ws
  rw [List.Nodup, List.pairwise_map, List.pairwise_iff_getElem]
  constructor
  · intro h i j hi hj hij he
    have := h i j ws[i] ws[j] (List.getElem?_eq_getElem hi) (List.getElem?_eq_getElem hj) he
    omega
  · intro h i j p q hi hj he
    obtain ⟨hi1, hi2⟩ := List.getElem?_eq_some_iff.mp hi
    obtain ⟨hj1, hj2⟩ := List.getElem?_eq_some_iff.mp hj
    rcases Nat.lt_trichotomy i j with q1 | q1 | q1
    · exact absurd (by rw [hi2, hj2]; exact he) (h i j hi1 hj1 q1)
    · exact q1
    · exact absurd (by rw [hi2, hj2]; exact he.symm) (h j i hj1 hi1 q1)
theorem vd_mem {A : Nat → Prop} {ws : va_W} : va_D A ws ↔ (ws.map Prod.fst).Nodup ∧ ∀ q ∈ ws, A q.1 :=
  ⟨fun h => ⟨(vd_nd ws).mp h.1, fun q hq => by obtain ⟨i, hi⟩ := List.getElem?_of_mem hq; exact h.2 i q hi⟩, fun h => ⟨(vd_nd ws).mpr h.1, fun i q hi => h.2 q (List.mem_of_getElem? hi)⟩⟩
theorem V.perm {w' : va_W} (hp : w.Perm w') (kk : V X k n w' lv pc st) : V X k n w lv pc st := by
  obtain ⟨G, p, l, e, R, s, m, args, below, meth, c, A, Q, nL⟩ := X
  intro H locs ls hP hD hS hl
  refine kk H locs ls (vp_mem.mpr fun q hq => vp_mem.mp hP q (hp.mem_iff.mpr hq)) (vd_mem.mpr ⟨?_, fun q hq => (vd_mem.mp hD).2 q (hp.mem_iff.mpr hq)⟩) hS hl
  exact ((hp.map Prod.fst).nodup_iff).mp (vd_mem.mp hD).1
theorem va_A_mem {ws : va_W} {sz q : Nat} : va_A ws sz q ↔ q ∈ ws.map Prod.fst ∨ sz ≤ q := by
  constructor
  · rintro (⟨k, e, h⟩ | h)
    · exact Or.inl (List.mem_map.mpr ⟨(q, e), List.mem_of_getElem? h, rfl⟩)
    · exact Or.inr h
  · rintro (h | h)
    · obtain ⟨⟨a, e⟩, h1, h2⟩ := List.mem_map.mp h
      obtain ⟨i, hi⟩ := List.getElem?_of_mem h1
      exact Or.inl ⟨i, e, by rw [hi]; cases h2; rfl⟩
    · exact Or.inr h
theorem fr_free {A : Nat → Prop} {a wc b : va_W} {sz s0 : Nat} (hD : va_D A (a ++ (wc ++ b))) (hs : s0 ≤ sz) (hA : ∀ q : Nat, s0 ≤ q → A q) : ∀ q, va_A wc sz q → A q := by
  intro q h
  rcases va_A_mem.mp h with h | h
  · obtain ⟨x, h1, h2⟩ := List.mem_map.mp h
    rw [← h2]
    exact (vd_mem.mp hD).2 x (List.mem_append.mpr (Or.inr (List.mem_append.mpr (Or.inl h1))))
  · exact hA q (Nat.le_trans hs h)
theorem fr_join {A : Nat → Prop} {D : va_G} {cl : List vw_C} {a wc b u : va_W} {H H1 : Heap} (hP : va_P D cl (a ++ (wc ++ b)) H) (hD : va_D A (a ++ (wc ++ b)))
    (hk : ∀ q : Nat, q < H.size → ¬ va_A wc H.size q → H1[q]? = H[q]?) (hF : ∀ q, va_A wc H.size q → A q) (hP1 : va_P D cl u H1) (hD1 : va_D (va_A wc H.size) u) : va_P D cl (a ++ (u ++ b)) H1 ∧ va_D A (a ++ (u ++ b)) := by
  have hD' := vd_mem.mp hD
  have hP' := vp_mem.mp hP
  have hn := hD'.1
  rw [List.map_append, List.map_append, List.nodup_append, List.nodup_append] at hn
  obtain ⟨na, ⟨nc, nb, ncb⟩, nacb⟩ := hn
  have hap : ∀ x ∈ a ++ b, x.1 < H.size ∧ ¬ va_A wc H.size x.1 := by
    intro x hx
    have hx2 : x ∈ a ++ (wc ++ b) := by
      rcases List.mem_append.mp hx with h | h
      · exact List.mem_append.mpr (Or.inl h)
      · exact List.mem_append.mpr (Or.inr (List.mem_append.mpr (Or.inr h)))
    have hl := (hP' x hx2).lt
    refine ⟨hl, fun h => ?_⟩
    rcases va_A_mem.mp h with h | h
    · rcases List.mem_append.mp hx with h2 | h2
      · exact nacb x.1 (List.mem_map.mpr ⟨x, h2, rfl⟩) x.1 (List.mem_append.mpr (Or.inl h)) rfl
      · exact ncb x.1 h x.1 (List.mem_map.mpr ⟨x, h2, rfl⟩) rfl
    · omega
  have hat : ∀ x ∈ a ++ b, va_at D cl x H1 := by
    intro x hx
    have hx2 : x ∈ a ++ (wc ++ b) := by
      rcases List.mem_append.mp hx with h | h
      · exact List.mem_append.mpr (Or.inl h)
      · exact List.mem_append.mpr (Or.inr (List.mem_append.mpr (Or.inr h)))
    exact (hP' x hx2).kept (hk x.1 (hap x hx).1 (hap x hx).2)
  have hu := vd_mem.mp hD1
  constructor
  · refine vp_mem.mpr fun x hx => ?_
    rcases List.mem_append.mp hx with h | h
    · exact hat x (List.mem_append.mpr (Or.inl h))
    · rcases List.mem_append.mp h with h | h
      · exact vp_mem.mp hP1 x h
      · exact hat x (List.mem_append.mpr (Or.inr h))
  · refine vd_mem.mpr ⟨?_, fun x hx => ?_⟩
    · rw [List.map_append, List.map_append, List.nodup_append, List.nodup_append]
      refine ⟨na, ⟨hu.1, nb, ?_⟩, ?_⟩
      · intro x hx y hy hxy
        obtain ⟨z, h1, h2⟩ := List.mem_map.mp hx
        obtain ⟨z2, h3, h4⟩ := List.mem_map.mp hy
        exact (hap z2 (List.mem_append.mpr (Or.inr h3))).2 (by rw [h4, ← hxy, ← h2]; exact hu.2 z h1)
      · intro x hx y hy hxy
        rcases List.mem_append.mp hy with hy | hy
        · obtain ⟨z, h1, h2⟩ := List.mem_map.mp hy
          obtain ⟨z2, h3, h4⟩ := List.mem_map.mp hx
          exact (hap z2 (List.mem_append.mpr (Or.inl h3))).2 (by rw [h4, hxy, ← h2]; exact hu.2 z h1)
        · exact nacb x hx y (List.mem_append.mpr (Or.inr hy)) hxy
    · rcases List.mem_append.mp hx with h | h
      · exact hD'.2 x (List.mem_append.mpr (Or.inl h))
      · rcases List.mem_append.mp h with h | h
        · exact hF _ (hu.2 x h)
        · exact hD'.2 x (List.mem_append.mpr (Or.inr (List.mem_append.mpr (Or.inr h))))
end VLemmas
end
section
theorem fa_lt (a b : Int32) : a < b ↔ a.toInt < b.toInt := Int32.lt_iff_toInt_lt
theorem fa_le (a b : Int32) : a ≤ b ↔ a.toInt ≤ b.toInt := Int32.le_iff_toInt_le
theorem fa_eq (a b : Int32) : a = b ↔ a.toInt = b.toInt := Int32.toInt_inj.symm
theorem fb_rng (x : Int32) : -2147483648 ≤ x.toInt ∧ x.toInt < 2147483648 := by
  have h1 := Int32.le_toInt x
  have h2 := Int32.toInt_lt x
  omega
theorem fb_bmod {z : Int} (h1 : -2147483648 ≤ z) (h2 : z < 2147483648) : z.bmod (2 ^ 32) = z := by
  rw [Int.bmod_eq_of_le (by omega) (by omega)]
theorem fb_ofI {z : Int} (h1 : -2147483648 ≤ z) (h2 : z < 2147483648) : (Int32.ofInt z).toInt = z := by
  rw [Int32.toInt_ofInt, fb_bmod h1 h2]
theorem fb_asI (x : Int32) : Int32.ofInt x.toInt = x := Int32.ofInt_toInt x
def jI (z : Int) : Int32 := Int32.ofInt z
abbrev iR (a : Int) : Prop := -2147483648 ≤ a ∧ a ≤ 2147483647
theorem jI_toInt {a : Int} (h : iR a) : (jI a).toInt = a := fb_ofI h.1 (by omega)
theorem jI_add (a b : Int) : jI a + jI b = jI (a + b) := (Int32.ofInt_add a b).symm
theorem jI_sub (a b : Int) : jI a - jI b = jI (a - b) := (Int32.ofInt_sub a b).symm
theorem jI_mul (a b : Int) : jI a * jI b = jI (a * b) := (Int32.ofInt_mul a b).symm
theorem jI_neg (a : Int) : -jI a = jI (-a) := (Int32.ofInt_neg a).symm
theorem jI_as (x : Int32) : jI x.toInt = x := fb_asI x
theorem jI_rng (x : Int32) : iR x.toInt := ⟨(fb_rng x).1, by have := (fb_rng x).2; omega⟩
theorem jI_lt {a b : Int} (ha : iR a) (hb : iR b) : jI a < jI b ↔ a < b := by rw [fa_lt, jI_toInt ha, jI_toInt hb]
theorem jI_le {a b : Int} (ha : iR a) (hb : iR b) : jI a ≤ jI b ↔ a ≤ b := by rw [fa_le, jI_toInt ha, jI_toInt hb]
theorem jI_eq {a b : Int} (ha : iR a) (hb : iR b) : jI a = jI b ↔ a = b := by rw [fa_eq, jI_toInt ha, jI_toInt hb]
theorem jI_clamp {a : Int} (h : 0 ≤ a) (h2 : a ≤ 2147483647) : (jI a).toNatClampNeg = a.toNat := by
  show (jI a).toInt.toNat = a.toNat
  rw [jI_toInt ⟨by omega, h2⟩]
theorem jI_in {a : Int} {n : Nat} (h : 0 ≤ a) (h2 : a < n) (hn : n ≤ 2147483647) : vp_in (jI a) n := by
  rw [vp_in_iff, jI_toInt ⟨by omega, by omega⟩]
  omega
theorem jI_nI (k : Nat) : nI k = jI k := by
  first | rfl | (show Int32.ofNat k = Int32.ofInt k; simp) | exact (Int32.ofInt_eq_ofNat).symm | exact Int32.toBitVec_inj.mp (by simp [nI, jI])
theorem jI_rem {a b : Int} (ha : 0 ≤ a) (ha2 : a ≤ 2147483647) (hb : 0 < b) (hb2 : b ≤ 2147483647) : jI a - jI a / jI b * jI b = jI (a % b) := by
  obtain ⟨i, rfl⟩ := Int.eq_ofNat_of_zero_le ha
  obtain ⟨j, rfl⟩ := Int.eq_ofNat_of_zero_le (Int.le_of_lt hb)
  rw [← jI_nI, ← jI_nI, pk_rem (by omega) (by omega) (by omega), jI_nI]
  congr 1
section VRows
variable {X : vX} {l : Launch} {G : vC} {y : MethodName} {cc : ByteArray} {R : Room} {nL k n pc : Nat} {w : va_W} {lv : List (Nat × Value)} {st : List Value}
theorem V_iload_n (hX : VS X l G y cc R nL) {i : Fin 4} {v : Int32} (d : decode cc pc = .ok (.iload_n i, 1)) (j : Nat) (hj : lv[j]? = some ((i : Nat), .int v)) (kk : V X k n w lv (pc + 1) (.int v :: st)) : V X k n w lv pc st := by
  obtain ⟨p0, e0, s0, m0, args0, below0, meth0, c0, A0, Q0, rfl, hx, hb, hml, hown, hK, hA, hlocks, hnm⟩ := hX
  intro H locs ls hP hD hS hl
  exact lv_iload_n hx hb d rfl (lv_at hl j hj) (kk H locs ls hP hD hS hl)
theorem V_iload (hX : VS X l G y cc R nL) {i : Nat} {v : Int32} (d : decode cc pc = .ok (.iload i, 2)) (j : Nat) (hj : lv[j]? = some (i, .int v)) (kk : V X k n w lv (pc + 2) (.int v :: st)) : V X k n w lv pc st := by
  obtain ⟨p0, e0, s0, m0, args0, below0, meth0, c0, A0, Q0, rfl, hx, hb, hml, hown, hK, hA, hlocks, hnm⟩ := hX
  intro H locs ls hP hD hS hl
  exact lv_iload hx hb d (lv_at hl j hj) (kk H locs ls hP hD hS hl)
theorem V_istore_n (hX : VS X l G y cc R nL) {i0 : Fin 4} {i : Nat} {v : Int32} {lv' : List (Nat × Value)} (d : decode cc pc = .ok (.istore_n i0, 1)) (hi : (i0 : Nat) = i) (hn : i < nL) (h : (i, Value.int v) :: lv.filter (fun q => !(q.1 == i) && !(q.1 + 1 == i && q.2.category == 2)) = lv') (kk : V X k n w lv' (pc + 1) st) : V X k n w lv pc (.int v :: st) := by
  obtain ⟨p0, e0, s0, m0, args0, below0, meth0, c0, A0, Q0, rfl, hx, hb, hml, hown, hK, hA, hlocks, hnm⟩ := hX
  intro H locs ls hP hD hS hl
  exact lv_istore_n hx hb d hi hl hn h (fun ls hl => (kk H locs ls hP hD hS hl))
theorem V_istore (hX : VS X l G y cc R nL) {i : Nat} {v : Int32} {lv' : List (Nat × Value)} (d : decode cc pc = .ok (.istore i, 2)) (hn : i < nL) (h : (i, Value.int v) :: lv.filter (fun q => !(q.1 == i) && !(q.1 + 1 == i && q.2.category == 2)) = lv') (kk : V X k n w lv' (pc + 2) st) : V X k n w lv pc (.int v :: st) := by
  obtain ⟨p0, e0, s0, m0, args0, below0, meth0, c0, A0, Q0, rfl, hx, hb, hml, hown, hK, hA, hlocks, hnm⟩ := hX
  intro H locs ls hP hD hS hl
  exact lv_istore hx hb d hl hn h (fun ls hl => (kk H locs ls hP hD hS hl))
theorem V_aload_n (hX : VS X l G y cc R nL) {i : Fin 4} {v : Nat} (d : decode cc pc = .ok (.aload_n i, 1)) (j : Nat) (hj : lv[j]? = some ((i : Nat), .ref v)) (kk : V X k n w lv (pc + 1) (.ref v :: st)) : V X k n w lv pc st := by
  obtain ⟨p0, e0, s0, m0, args0, below0, meth0, c0, A0, Q0, rfl, hx, hb, hml, hown, hK, hA, hlocks, hnm⟩ := hX
  intro H locs ls hP hD hS hl
  exact lv_aload_n hx hb d rfl (lv_at hl j hj) (kk H locs ls hP hD hS hl)
theorem V_aload (hX : VS X l G y cc R nL) {i : Nat} {v : Nat} (d : decode cc pc = .ok (.aload i, 2)) (j : Nat) (hj : lv[j]? = some (i, .ref v)) (kk : V X k n w lv (pc + 2) (.ref v :: st)) : V X k n w lv pc st := by
  obtain ⟨p0, e0, s0, m0, args0, below0, meth0, c0, A0, Q0, rfl, hx, hb, hml, hown, hK, hA, hlocks, hnm⟩ := hX
  intro H locs ls hP hD hS hl
  exact lv_aload hx hb d (lv_at hl j hj) (kk H locs ls hP hD hS hl)
theorem V_astore_n (hX : VS X l G y cc R nL) {i0 : Fin 4} {i : Nat} {v : Nat} {lv' : List (Nat × Value)} (d : decode cc pc = .ok (.astore_n i0, 1)) (hi : (i0 : Nat) = i) (hn : i < nL) (h : (i, Value.ref v) :: lv.filter (fun q => !(q.1 == i) && !(q.1 + 1 == i && q.2.category == 2)) = lv') (kk : V X k n w lv' (pc + 1) st) : V X k n w lv pc (.ref v :: st) := by
  obtain ⟨p0, e0, s0, m0, args0, below0, meth0, c0, A0, Q0, rfl, hx, hb, hml, hown, hK, hA, hlocks, hnm⟩ := hX
  intro H locs ls hP hD hS hl
  exact lv_astore_n hx hb d hi hl hn h (fun ls hl => (kk H locs ls hP hD hS hl))
theorem V_astore (hX : VS X l G y cc R nL) {i : Nat} {v : Nat} {lv' : List (Nat × Value)} (d : decode cc pc = .ok (.astore i, 2)) (hn : i < nL) (h : (i, Value.ref v) :: lv.filter (fun q => !(q.1 == i) && !(q.1 + 1 == i && q.2.category == 2)) = lv') (kk : V X k n w lv' (pc + 2) st) : V X k n w lv pc (.ref v :: st) := by
  obtain ⟨p0, e0, s0, m0, args0, below0, meth0, c0, A0, Q0, rfl, hx, hb, hml, hown, hK, hA, hlocks, hnm⟩ := hX
  intro H locs ls hP hD hS hl
  exact lv_astore hx hb d hl hn h (fun ls hl => (kk H locs ls hP hD hS hl))
theorem V_fload_n (hX : VS X l G y cc R nL) {i : Fin 4} {v : UInt32} (d : decode cc pc = .ok (.fload_n i, 1)) (j : Nat) (hj : lv[j]? = some ((i : Nat), .float v)) (kk : V X k n w lv (pc + 1) (.float v :: st)) : V X k n w lv pc st := by
  obtain ⟨p0, e0, s0, m0, args0, below0, meth0, c0, A0, Q0, rfl, hx, hb, hml, hown, hK, hA, hlocks, hnm⟩ := hX
  intro H locs ls hP hD hS hl
  exact lv_fload_n hx hb d rfl (lv_at hl j hj) (kk H locs ls hP hD hS hl)
theorem V_fload (hX : VS X l G y cc R nL) {i : Nat} {v : UInt32} (d : decode cc pc = .ok (.fload i, 2)) (j : Nat) (hj : lv[j]? = some (i, .float v)) (kk : V X k n w lv (pc + 2) (.float v :: st)) : V X k n w lv pc st := by
  obtain ⟨p0, e0, s0, m0, args0, below0, meth0, c0, A0, Q0, rfl, hx, hb, hml, hown, hK, hA, hlocks, hnm⟩ := hX
  intro H locs ls hP hD hS hl
  exact lv_fload hx hb d (lv_at hl j hj) (kk H locs ls hP hD hS hl)
theorem V_fstore_n (hX : VS X l G y cc R nL) {i0 : Fin 4} {i : Nat} {v : UInt32} {lv' : List (Nat × Value)} (d : decode cc pc = .ok (.fstore_n i0, 1)) (hi : (i0 : Nat) = i) (hn : i < nL) (h : (i, Value.float v) :: lv.filter (fun q => !(q.1 == i) && !(q.1 + 1 == i && q.2.category == 2)) = lv') (kk : V X k n w lv' (pc + 1) st) : V X k n w lv pc (.float v :: st) := by
  obtain ⟨p0, e0, s0, m0, args0, below0, meth0, c0, A0, Q0, rfl, hx, hb, hml, hown, hK, hA, hlocks, hnm⟩ := hX
  intro H locs ls hP hD hS hl
  exact lv_fstore_n hx hb d hi hl hn h (fun ls hl => (kk H locs ls hP hD hS hl))
theorem V_fstore (hX : VS X l G y cc R nL) {i : Nat} {v : UInt32} {lv' : List (Nat × Value)} (d : decode cc pc = .ok (.fstore i, 2)) (hn : i < nL) (h : (i, Value.float v) :: lv.filter (fun q => !(q.1 == i) && !(q.1 + 1 == i && q.2.category == 2)) = lv') (kk : V X k n w lv' (pc + 2) st) : V X k n w lv pc (.float v :: st) := by
  obtain ⟨p0, e0, s0, m0, args0, below0, meth0, c0, A0, Q0, rfl, hx, hb, hml, hown, hK, hA, hlocks, hnm⟩ := hX
  intro H locs ls hP hD hS hl
  exact lv_fstore hx hb d hl hn h (fun ls hl => (kk H locs ls hP hD hS hl))
theorem V_dload_n (hX : VS X l G y cc R nL) {i : Fin 4} {v : UInt64} (d : decode cc pc = .ok (.dload_n i, 1)) (j : Nat) (hj : lv[j]? = some ((i : Nat), .double v)) (kk : V X k n w lv (pc + 1) (.double v :: st)) : V X k n w lv pc st := by
  obtain ⟨p0, e0, s0, m0, args0, below0, meth0, c0, A0, Q0, rfl, hx, hb, hml, hown, hK, hA, hlocks, hnm⟩ := hX
  intro H locs ls hP hD hS hl
  exact lv_dload_n hx hb d rfl (lv_at hl j hj) (kk H locs ls hP hD hS hl)
theorem V_dload (hX : VS X l G y cc R nL) {i : Nat} {v : UInt64} (d : decode cc pc = .ok (.dload i, 2)) (j : Nat) (hj : lv[j]? = some (i, .double v)) (kk : V X k n w lv (pc + 2) (.double v :: st)) : V X k n w lv pc st := by
  obtain ⟨p0, e0, s0, m0, args0, below0, meth0, c0, A0, Q0, rfl, hx, hb, hml, hown, hK, hA, hlocks, hnm⟩ := hX
  intro H locs ls hP hD hS hl
  exact lv_dload hx hb d (lv_at hl j hj) (kk H locs ls hP hD hS hl)
theorem V_dstore (hX : VS X l G y cc R nL) {i : Nat} {v : UInt64} {lv' : List (Nat × Value)} (d : decode cc pc = .ok (.dstore i, 2)) (hn : i + 1 < nL) (h : (i, Value.double v) :: lv.filter (fun q => !(q.1 == i) && (!(q.1 == i + 1) && !(q.1 + 1 == i && q.2.category == 2))) = lv') (kk : V X k n w lv' (pc + 2) st) : V X k n w lv pc (.double v :: st) := by
  obtain ⟨p0, e0, s0, m0, args0, below0, meth0, c0, A0, Q0, rfl, hx, hb, hml, hown, hK, hA, hlocks, hnm⟩ := hX
  intro H locs ls hP hD hS hl
  exact lv_dstore hx hb d hl hn h (fun ls hl => (kk H locs ls hP hD hS hl))
theorem V_iinc (hX : VS X l G y cc R nL) {i : Nat} {c a b : Int} {lv' : List (Nat × Value)} (d : decode cc pc = .ok (.iinc i c, 3)) (j : Nat) (hj : lv[j]? = some (i, .int (jI a))) (hab : a + c = b) (hn : i < nL) (h : (i, Value.int (jI b)) :: lv.filter (fun q => !(q.1 == i) && !(q.1 + 1 == i && q.2.category == 2)) = lv') (kk : V X k n w lv' (pc + 3) st) : V X k n w lv pc st := by
  obtain ⟨p0, e0, s0, m0, args0, below0, meth0, c0, A0, Q0, rfl, hx, hb, hml, hown, hK, hA, hlocks, hnm⟩ := hX
  intro H locs ls hP hD hS hl
  subst hab; exact lv_iinc hx hb d hl hj (jI_add a c) hn h (fun ls hl => (kk H locs ls hP hD hS hl))
theorem V_iconst (hX : VS X l G y cc R nL) {a : Int} (d : decode cc pc = .ok (.iconst a, 1)) (kk : V X k n w lv (pc + 1) (.int (jI a) :: st)) : V X k n w lv pc st := by
  obtain ⟨p0, e0, s0, m0, args0, below0, meth0, c0, A0, Q0, rfl, hx, hb, hml, hown, hK, hA, hlocks, hnm⟩ := hX
  intro H locs ls hP hD hS hl
  exact lv_iconst hx hb d rfl (kk H locs ls hP hD hS hl)
theorem V_bipush (hX : VS X l G y cc R nL) {a : Int} (d : decode cc pc = .ok (.bipush a, 2)) (h : (Int8.ofInt a).toInt32 = jI a) (kk : V X k n w lv (pc + 2) (.int (jI a) :: st)) : V X k n w lv pc st := by
  obtain ⟨p0, e0, s0, m0, args0, below0, meth0, c0, A0, Q0, rfl, hx, hb, hml, hown, hK, hA, hlocks, hnm⟩ := hX
  intro H locs ls hP hD hS hl
  exact lv_bipush hx hb d h (kk H locs ls hP hD hS hl)
theorem V_sipush (hX : VS X l G y cc R nL) {a : Int} (d : decode cc pc = .ok (.sipush a, 3)) (h : (Int16.ofInt a).toInt32 = jI a) (kk : V X k n w lv (pc + 3) (.int (jI a) :: st)) : V X k n w lv pc st := by
  obtain ⟨p0, e0, s0, m0, args0, below0, meth0, c0, A0, Q0, rfl, hx, hb, hml, hown, hK, hA, hlocks, hnm⟩ := hX
  intro H locs ls hP hD hS hl
  exact lv_sipush hx hb d h (kk H locs ls hP hD hS hl)
theorem V_ldc (hX : VS X l G y cc R nL) {a : Int} {i : Nat} {v : Int32} (d : decode cc pc = .ok (.ldc i, 2)) (hw : Cond.constant y.cls i v ∈ lw_tbl) (ho : v_ok (Cond.constant y.cls i v) = true) (hv : v = jI a) (kk : V X k n w lv (pc + 2) (.int (jI a) :: st)) : V X k n w lv pc st := by
  obtain ⟨p0, e0, s0, m0, args0, below0, meth0, c0, A0, Q0, rfl, hx, hb, hml, hown, hK, hA, hlocks, hnm⟩ := hX
  intro H locs ls hP hD hS hl
  subst hv; exact lv_ldc hx hb hown (hK.use hw ho) d (kk H locs ls hP hD hS hl)
theorem V_ldcf (hX : VS X l G y cc R nL) {i : Nat} {v : UInt32} (d : decode cc pc = .ok (.ldc i, 2)) (hw : Cond.constantFloat y.cls i v ∈ lw_tbl) (ho : v_ok (Cond.constantFloat y.cls i v) = true) (kk : V X k n w lv (pc + 2) (.float v :: st)) : V X k n w lv pc st := by
  obtain ⟨p0, e0, s0, m0, args0, below0, meth0, c0, A0, Q0, rfl, hx, hb, hml, hown, hK, hA, hlocks, hnm⟩ := hX
  intro H locs ls hP hD hS hl
  exact lv_ldcf hx hb hown (hK.use hw ho) d (kk H locs ls hP hD hS hl)
theorem V_ldc2d (hX : VS X l G y cc R nL) {i : Nat} {v : UInt64} (d : decode cc pc = .ok (.ldc2_w i, 3)) (hw : Cond.constantDouble y.cls i v ∈ lw_tbl) (ho : v_ok (Cond.constantDouble y.cls i v) = true) (kk : V X k n w lv (pc + 3) (.double v :: st)) : V X k n w lv pc st := by
  obtain ⟨p0, e0, s0, m0, args0, below0, meth0, c0, A0, Q0, rfl, hx, hb, hml, hown, hK, hA, hlocks, hnm⟩ := hX
  intro H locs ls hP hD hS hl
  exact lv_ldc2d hx hb hown (hK.use hw ho) d (kk H locs ls hP hD hS hl)
theorem V_iadd (hX : VS X l G y cc R nL) {a b c : Int} (d : decode cc pc = .ok (.iadd, 1)) (h : a + b = c) (kk : V X k n w lv (pc + 1) (.int (jI c) :: st)) : V X k n w lv pc (.int (jI b) :: .int (jI a) :: st) := by
  obtain ⟨p0, e0, s0, m0, args0, below0, meth0, c0, A0, Q0, rfl, hx, hb, hml, hown, hK, hA, hlocks, hnm⟩ := hX
  intro H locs ls hP hD hS hl
  subst h; exact lv_iadd hx hb d (by rw [jI_add]; exact (kk H locs ls hP hD hS hl))
theorem V_isub (hX : VS X l G y cc R nL) {a b c : Int} (d : decode cc pc = .ok (.isub, 1)) (h : a - b = c) (kk : V X k n w lv (pc + 1) (.int (jI c) :: st)) : V X k n w lv pc (.int (jI b) :: .int (jI a) :: st) := by
  obtain ⟨p0, e0, s0, m0, args0, below0, meth0, c0, A0, Q0, rfl, hx, hb, hml, hown, hK, hA, hlocks, hnm⟩ := hX
  intro H locs ls hP hD hS hl
  subst h; exact lv_isub hx hb d (by rw [jI_sub]; exact (kk H locs ls hP hD hS hl))
theorem V_imul (hX : VS X l G y cc R nL) {a b c : Int} (d : decode cc pc = .ok (.imul, 1)) (h : a * b = c) (kk : V X k n w lv (pc + 1) (.int (jI c) :: st)) : V X k n w lv pc (.int (jI b) :: .int (jI a) :: st) := by
  obtain ⟨p0, e0, s0, m0, args0, below0, meth0, c0, A0, Q0, rfl, hx, hb, hml, hown, hK, hA, hlocks, hnm⟩ := hX
  intro H locs ls hP hD hS hl
  subst h; exact lv_imul hx hb d (by rw [jI_mul]; exact (kk H locs ls hP hD hS hl))
theorem V_ineg (hX : VS X l G y cc R nL) {a c : Int} (d : decode cc pc = .ok (.ineg, 1)) (h : -a = c) (kk : V X k n w lv (pc + 1) (.int (jI c) :: st)) : V X k n w lv pc (.int (jI a) :: st) := by
  obtain ⟨p0, e0, s0, m0, args0, below0, meth0, c0, A0, Q0, rfl, hx, hb, hml, hown, hK, hA, hlocks, hnm⟩ := hX
  intro H locs ls hP hD hS hl
  subst h; exact lv_ineg hx hb d (by rw [jI_neg]; exact (kk H locs ls hP hD hS hl))
theorem V_irem (hX : VS X l G y cc R nL) {a b c : Int} (d : decode cc pc = .ok (.irem, 1)) (ha : 0 ≤ a) (ha2 : a ≤ 2147483647) (hb0 : 0 < b) (hb2 : b ≤ 2147483647) (h : a % b = c) (kk : V X k n w lv (pc + 1) (.int (jI c) :: st)) : V X k n w lv pc (.int (jI b) :: .int (jI a) :: st) := by
  obtain ⟨p0, e0, s0, m0, args0, below0, meth0, c0, A0, Q0, rfl, hx, hb, hml, hown, hK, hA, hlocks, hnm⟩ := hX
  intro H locs ls hP hD hS hl
  subst h; exact lv_irem hx hb d (fun hz => by have hq := (jI_eq (a := b) (b := 0) ⟨by omega, hb2⟩ ⟨by omega, by omega⟩).mp hz; omega) (by rw [jI_rem ha ha2 hb0 hb2]; exact (kk H locs ls hP hD hS hl))
theorem V_ior (hX : VS X l G y cc R nL) {a b : Int32} (d : decode cc pc = .ok (.ior, 1)) (kk : V X k n w lv (pc + 1) (.int (a ||| b) :: st)) : V X k n w lv pc (.int b :: .int a :: st) := by
  obtain ⟨p0, e0, s0, m0, args0, below0, meth0, c0, A0, Q0, rfl, hx, hb, hml, hown, hK, hA, hlocks, hnm⟩ := hX
  intro H locs ls hP hD hS hl
  exact lv_ior hx hb d (kk H locs ls hP hD hS hl)
theorem V_iand (hX : VS X l G y cc R nL) {a b : Int32} (d : decode cc pc = .ok (.iand, 1)) (kk : V X k n w lv (pc + 1) (.int (a &&& b) :: st)) : V X k n w lv pc (.int b :: .int a :: st) := by
  obtain ⟨p0, e0, s0, m0, args0, below0, meth0, c0, A0, Q0, rfl, hx, hb, hml, hown, hK, hA, hlocks, hnm⟩ := hX
  intro H locs ls hP hD hS hl
  exact lv_iand hx hb d (kk H locs ls hP hD hS hl)
theorem V_ishl (hX : VS X l G y cc R nL) {a b : Int32} (d : decode cc pc = .ok (.ishl, 1)) (kk : V X k n w lv (pc + 1) (.int (a <<< (b &&& 31)) :: st)) : V X k n w lv pc (.int b :: .int a :: st) := by
  obtain ⟨p0, e0, s0, m0, args0, below0, meth0, c0, A0, Q0, rfl, hx, hb, hml, hown, hK, hA, hlocks, hnm⟩ := hX
  intro H locs ls hP hD hS hl
  exact lv_ishl hx hb d (kk H locs ls hP hD hS hl)
theorem V_ishr (hX : VS X l G y cc R nL) {a b : Int32} (d : decode cc pc = .ok (.ishr, 1)) (kk : V X k n w lv (pc + 1) (.int (a >>> (b &&& 31)) :: st)) : V X k n w lv pc (.int b :: .int a :: st) := by
  obtain ⟨p0, e0, s0, m0, args0, below0, meth0, c0, A0, Q0, rfl, hx, hb, hml, hown, hK, hA, hlocks, hnm⟩ := hX
  intro H locs ls hP hD hS hl
  exact lv_ishr hx hb d (kk H locs ls hP hD hS hl)
theorem V_i2c (hX : VS X l G y cc R nL) {a v : Int32} (d : decode cc pc = .ok (.i2c, 1)) (h : (a.toUInt32 % 65536).toInt32 = v) (kk : V X k n w lv (pc + 1) (.int v :: st)) : V X k n w lv pc (.int a :: st) := by
  obtain ⟨p0, e0, s0, m0, args0, below0, meth0, c0, A0, Q0, rfl, hx, hb, hml, hown, hK, hA, hlocks, hnm⟩ := hX
  intro H locs ls hP hD hS hl
  exact lv_i2c hx hb d h (kk H locs ls hP hD hS hl)
theorem V_dup (hX : VS X l G y cc R nL) {v : Value} (d : decode cc pc = .ok (.dup, 1)) (h : v.category = 1) (kk : V X k n w lv (pc + 1) (v :: v :: st)) : V X k n w lv pc (v :: st) := by
  obtain ⟨p0, e0, s0, m0, args0, below0, meth0, c0, A0, Q0, rfl, hx, hb, hml, hown, hK, hA, hlocks, hnm⟩ := hX
  intro H locs ls hP hD hS hl
  exact lv_dup hx hb d h (kk H locs ls hP hD hS hl)
theorem V_pop (hX : VS X l G y cc R nL) {v : Value} (d : decode cc pc = .ok (.pop, 1)) (h : v.category = 1) (kk : V X k n w lv (pc + 1) st) : V X k n w lv pc (v :: st) := by
  obtain ⟨p0, e0, s0, m0, args0, below0, meth0, c0, A0, Q0, rfl, hx, hb, hml, hown, hK, hA, hlocks, hnm⟩ := hX
  intro H locs ls hP hD hS hl
  exact lv_pop hx hb d h (kk H locs ls hP hD hS hl)
theorem V_dup2 (hX : VS X l G y cc R nL) {v u : Value} (d : decode cc pc = .ok (.dup2, 1)) (h : v.category = 1) (h2 : u.category = 1) (kk : V X k n w lv (pc + 1) (v :: u :: v :: u :: st)) : V X k n w lv pc (v :: u :: st) := by
  obtain ⟨p0, e0, s0, m0, args0, below0, meth0, c0, A0, Q0, rfl, hx, hb, hml, hown, hK, hA, hlocks, hnm⟩ := hX
  intro H locs ls hP hD hS hl
  exact lv_dup2_11 hx hb d h h2 (kk H locs ls hP hD hS hl)
theorem V_goto (hX : VS X l G y cc R nL) {off : Int} {tgt : Nat} (d : decode cc pc = .ok (.goto off, 3)) (ht : (pc : Int) + off = (tgt : Int)) (kk : V X k n w lv tgt st) : V X k n w lv pc st := by
  obtain ⟨p0, e0, s0, m0, args0, below0, meth0, c0, A0, Q0, rfl, hx, hb, hml, hown, hK, hA, hlocks, hnm⟩ := hX
  intro H locs ls hP hD hS hl
  exact lv_goto hx hb d ht (kk H locs ls hP hD hS hl)
theorem V_icmp_eq (hX : VS X l G y cc R nL) {a b : Int} {off : Int} {tgt : Nat} (d : decode cc pc = .ok (.if_icmp .eq off, 3)) (ht : (pc : Int) + off = (tgt : Int)) (ha : iR a) (hb2 : iR b) (kt : a = b → V X k n w lv tgt st) (kf : ¬ a = b → V X k n w lv (pc + 3) st) : V X k n w lv pc (.int (jI b) :: .int (jI a) :: st) := by
  obtain ⟨p0, e0, s0, m0, args0, below0, meth0, c0, A0, Q0, rfl, hx, hb, hml, hown, hK, hA, hlocks, hnm⟩ := hX
  intro H locs ls hP hD hS hl
  exact lv_icmp_eq hx hb d ht (fun h => kt ((jI_eq ha hb2).mp h) H locs ls hP hD hS hl) (fun h => kf (fun q => h ((jI_eq ha hb2).mpr q)) H locs ls hP hD hS hl)
theorem V_if_eq (hX : VS X l G y cc R nL) {a : Int} {off : Int} {tgt : Nat} (d : decode cc pc = .ok (.ifCond .eq off, 3)) (ht : (pc : Int) + off = (tgt : Int)) (ha : iR a) (kt : a = 0 → V X k n w lv tgt st) (kf : ¬ a = 0 → V X k n w lv (pc + 3) st) : V X k n w lv pc (.int (jI a) :: st) := by
  obtain ⟨p0, e0, s0, m0, args0, below0, meth0, c0, A0, Q0, rfl, hx, hb, hml, hown, hK, hA, hlocks, hnm⟩ := hX
  intro H locs ls hP hD hS hl
  have hz : iR 0 := by decide
  have h0 : (0 : Int32) = jI 0 := rfl
  exact lv_if_eq hx hb d ht (fun h => kt ((jI_eq ha hz).mp h) H locs ls hP hD hS hl) (fun h => kf (fun q => h ((jI_eq ha hz).mpr q)) H locs ls hP hD hS hl)
theorem V_icmp_ne (hX : VS X l G y cc R nL) {a b : Int} {off : Int} {tgt : Nat} (d : decode cc pc = .ok (.if_icmp .ne off, 3)) (ht : (pc : Int) + off = (tgt : Int)) (ha : iR a) (hb2 : iR b) (kt : ¬ a = b → V X k n w lv tgt st) (kf : a = b → V X k n w lv (pc + 3) st) : V X k n w lv pc (.int (jI b) :: .int (jI a) :: st) := by
  obtain ⟨p0, e0, s0, m0, args0, below0, meth0, c0, A0, Q0, rfl, hx, hb, hml, hown, hK, hA, hlocks, hnm⟩ := hX
  intro H locs ls hP hD hS hl
  exact lv_icmp_ne hx hb d ht (fun h => kt (fun q => h ((jI_eq ha hb2).mpr q)) H locs ls hP hD hS hl) (fun h => kf ((jI_eq ha hb2).mp h) H locs ls hP hD hS hl)
theorem V_if_ne (hX : VS X l G y cc R nL) {a : Int} {off : Int} {tgt : Nat} (d : decode cc pc = .ok (.ifCond .ne off, 3)) (ht : (pc : Int) + off = (tgt : Int)) (ha : iR a) (kt : ¬ a = 0 → V X k n w lv tgt st) (kf : a = 0 → V X k n w lv (pc + 3) st) : V X k n w lv pc (.int (jI a) :: st) := by
  obtain ⟨p0, e0, s0, m0, args0, below0, meth0, c0, A0, Q0, rfl, hx, hb, hml, hown, hK, hA, hlocks, hnm⟩ := hX
  intro H locs ls hP hD hS hl
  have hz : iR 0 := by decide
  have h0 : (0 : Int32) = jI 0 := rfl
  exact lv_if_ne hx hb d ht (fun h => kt (fun q => h ((jI_eq ha hz).mpr q)) H locs ls hP hD hS hl) (fun h => kf ((jI_eq ha hz).mp h) H locs ls hP hD hS hl)
theorem V_icmp_lt (hX : VS X l G y cc R nL) {a b : Int} {off : Int} {tgt : Nat} (d : decode cc pc = .ok (.if_icmp .lt off, 3)) (ht : (pc : Int) + off = (tgt : Int)) (ha : iR a) (hb2 : iR b) (kt : a < b → V X k n w lv tgt st) (kf : ¬ a < b → V X k n w lv (pc + 3) st) : V X k n w lv pc (.int (jI b) :: .int (jI a) :: st) := by
  obtain ⟨p0, e0, s0, m0, args0, below0, meth0, c0, A0, Q0, rfl, hx, hb, hml, hown, hK, hA, hlocks, hnm⟩ := hX
  intro H locs ls hP hD hS hl
  exact lv_icmp_lt hx hb d ht (fun h => kt ((jI_lt ha hb2).mp h) H locs ls hP hD hS hl) (fun h => kf (fun q => h ((jI_lt ha hb2).mpr q)) H locs ls hP hD hS hl)
theorem V_if_lt (hX : VS X l G y cc R nL) {a : Int} {off : Int} {tgt : Nat} (d : decode cc pc = .ok (.ifCond .lt off, 3)) (ht : (pc : Int) + off = (tgt : Int)) (ha : iR a) (kt : a < 0 → V X k n w lv tgt st) (kf : ¬ a < 0 → V X k n w lv (pc + 3) st) : V X k n w lv pc (.int (jI a) :: st) := by
  obtain ⟨p0, e0, s0, m0, args0, below0, meth0, c0, A0, Q0, rfl, hx, hb, hml, hown, hK, hA, hlocks, hnm⟩ := hX
  intro H locs ls hP hD hS hl
  have hz : iR 0 := by decide
  have h0 : (0 : Int32) = jI 0 := rfl
  exact lv_if_lt hx hb d ht (fun h => kt ((jI_lt ha hz).mp h) H locs ls hP hD hS hl) (fun h => kf (fun q => h ((jI_lt ha hz).mpr q)) H locs ls hP hD hS hl)
theorem V_icmp_ge (hX : VS X l G y cc R nL) {a b : Int} {off : Int} {tgt : Nat} (d : decode cc pc = .ok (.if_icmp .ge off, 3)) (ht : (pc : Int) + off = (tgt : Int)) (ha : iR a) (hb2 : iR b) (kt : b ≤ a → V X k n w lv tgt st) (kf : ¬ b ≤ a → V X k n w lv (pc + 3) st) : V X k n w lv pc (.int (jI b) :: .int (jI a) :: st) := by
  obtain ⟨p0, e0, s0, m0, args0, below0, meth0, c0, A0, Q0, rfl, hx, hb, hml, hown, hK, hA, hlocks, hnm⟩ := hX
  intro H locs ls hP hD hS hl
  exact lv_icmp_ge hx hb d ht (fun h => kt ((jI_le hb2 ha).mp h) H locs ls hP hD hS hl) (fun h => kf (fun q => h ((jI_le hb2 ha).mpr q)) H locs ls hP hD hS hl)
theorem V_if_ge (hX : VS X l G y cc R nL) {a : Int} {off : Int} {tgt : Nat} (d : decode cc pc = .ok (.ifCond .ge off, 3)) (ht : (pc : Int) + off = (tgt : Int)) (ha : iR a) (kt : 0 ≤ a → V X k n w lv tgt st) (kf : ¬ 0 ≤ a → V X k n w lv (pc + 3) st) : V X k n w lv pc (.int (jI a) :: st) := by
  obtain ⟨p0, e0, s0, m0, args0, below0, meth0, c0, A0, Q0, rfl, hx, hb, hml, hown, hK, hA, hlocks, hnm⟩ := hX
  intro H locs ls hP hD hS hl
  have hz : iR 0 := by decide
  have h0 : (0 : Int32) = jI 0 := rfl
  exact lv_if_ge hx hb d ht (fun h => kt ((jI_le hz ha).mp h) H locs ls hP hD hS hl) (fun h => kf (fun q => h ((jI_le hz ha).mpr q)) H locs ls hP hD hS hl)
theorem V_icmp_gt (hX : VS X l G y cc R nL) {a b : Int} {off : Int} {tgt : Nat} (d : decode cc pc = .ok (.if_icmp .gt off, 3)) (ht : (pc : Int) + off = (tgt : Int)) (ha : iR a) (hb2 : iR b) (kt : b < a → V X k n w lv tgt st) (kf : ¬ b < a → V X k n w lv (pc + 3) st) : V X k n w lv pc (.int (jI b) :: .int (jI a) :: st) := by
  obtain ⟨p0, e0, s0, m0, args0, below0, meth0, c0, A0, Q0, rfl, hx, hb, hml, hown, hK, hA, hlocks, hnm⟩ := hX
  intro H locs ls hP hD hS hl
  exact lv_icmp_gt hx hb d ht (fun h => kt ((jI_lt hb2 ha).mp h) H locs ls hP hD hS hl) (fun h => kf (fun q => h ((jI_lt hb2 ha).mpr q)) H locs ls hP hD hS hl)
theorem V_if_gt (hX : VS X l G y cc R nL) {a : Int} {off : Int} {tgt : Nat} (d : decode cc pc = .ok (.ifCond .gt off, 3)) (ht : (pc : Int) + off = (tgt : Int)) (ha : iR a) (kt : 0 < a → V X k n w lv tgt st) (kf : ¬ 0 < a → V X k n w lv (pc + 3) st) : V X k n w lv pc (.int (jI a) :: st) := by
  obtain ⟨p0, e0, s0, m0, args0, below0, meth0, c0, A0, Q0, rfl, hx, hb, hml, hown, hK, hA, hlocks, hnm⟩ := hX
  intro H locs ls hP hD hS hl
  have hz : iR 0 := by decide
  have h0 : (0 : Int32) = jI 0 := rfl
  exact lv_if_gt hx hb d ht (fun h => kt ((jI_lt hz ha).mp h) H locs ls hP hD hS hl) (fun h => kf (fun q => h ((jI_lt hz ha).mpr q)) H locs ls hP hD hS hl)
theorem V_icmp_le (hX : VS X l G y cc R nL) {a b : Int} {off : Int} {tgt : Nat} (d : decode cc pc = .ok (.if_icmp .le off, 3)) (ht : (pc : Int) + off = (tgt : Int)) (ha : iR a) (hb2 : iR b) (kt : a ≤ b → V X k n w lv tgt st) (kf : ¬ a ≤ b → V X k n w lv (pc + 3) st) : V X k n w lv pc (.int (jI b) :: .int (jI a) :: st) := by
  obtain ⟨p0, e0, s0, m0, args0, below0, meth0, c0, A0, Q0, rfl, hx, hb, hml, hown, hK, hA, hlocks, hnm⟩ := hX
  intro H locs ls hP hD hS hl
  exact lv_icmp_le hx hb d ht (fun h => kt ((jI_le ha hb2).mp h) H locs ls hP hD hS hl) (fun h => kf (fun q => h ((jI_le ha hb2).mpr q)) H locs ls hP hD hS hl)
theorem V_if_le (hX : VS X l G y cc R nL) {a : Int} {off : Int} {tgt : Nat} (d : decode cc pc = .ok (.ifCond .le off, 3)) (ht : (pc : Int) + off = (tgt : Int)) (ha : iR a) (kt : a ≤ 0 → V X k n w lv tgt st) (kf : ¬ a ≤ 0 → V X k n w lv (pc + 3) st) : V X k n w lv pc (.int (jI a) :: st) := by
  obtain ⟨p0, e0, s0, m0, args0, below0, meth0, c0, A0, Q0, rfl, hx, hb, hml, hown, hK, hA, hlocks, hnm⟩ := hX
  intro H locs ls hP hD hS hl
  have hz : iR 0 := by decide
  have h0 : (0 : Int32) = jI 0 := rfl
  exact lv_if_le hx hb d ht (fun h => kt ((jI_le ha hz).mp h) H locs ls hP hD hS hl) (fun h => kf (fun q => h ((jI_le ha hz).mpr q)) H locs ls hP hD hS hl)
def bI (c : Prop) [Decidable c] : Int := if c then 1 else 0
theorem bI_r (c : Prop) [Decidable c] : iR (bI c) := by unfold bI; split <;> decide
theorem bI_0 {c : Prop} [Decidable c] : bI c = 0 ↔ ¬ c := by unfold bI; split <;> simp_all
theorem V_ifz (hX : VS X l G y cc R nL) {c : Prop} [Decidable c] {off : Int} {tgt : Nat} (d : decode cc pc = .ok (.ifCond .eq off, 3)) (ht : (pc : Int) + off = (tgt : Int)) (kt : ¬ c → V X k n w lv tgt st) (kf : c → V X k n w lv (pc + 3) st) : V X k n w lv pc (.int (jI (bI c)) :: st) :=
  V_if_eq hX d ht (bI_r c) (fun h => kt (bI_0.mp h)) (fun h => kf (Decidable.not_not.mp (fun q => h (bI_0.mpr q))))
theorem V_ifnz (hX : VS X l G y cc R nL) {c : Prop} [Decidable c] {off : Int} {tgt : Nat} (d : decode cc pc = .ok (.ifCond .ne off, 3)) (ht : (pc : Int) + off = (tgt : Int)) (kt : c → V X k n w lv tgt st) (kf : ¬ c → V X k n w lv (pc + 3) st) : V X k n w lv pc (.int (jI (bI c)) :: st) :=
  V_if_ne hX d ht (bI_r c) (fun h => kt (Decidable.not_not.mp (fun q => h (bI_0.mpr q)))) (fun h => kf (bI_0.mp h))
theorem V_tableIn (hX : VS X l G y cc R nL) {a : Int} (c : Int) {dflt lo hi off : Int} {offs : Array Int} {len tgt : Nat} (d : decode cc pc = .ok (.tableswitch dflt lo hi offs, len)) (ha : a = c) (h0 : (jI c).toInt = c) (h1 : ¬ c < lo) (h2 : ¬ hi < c) (ho : offs[(c - lo).toNat]? = some off) (ht : (pc : Int) + off = (tgt : Int)) (kk : V X k n w lv tgt st) : V X k n w lv pc (.int (jI a) :: st) := by
  subst ha
  obtain ⟨p0, e0, s0, m0, args0, below0, meth0, c0, A0, Q0, rfl, hx, hb, hml, hown, hK, hA, hlocks, hnm⟩ := hX
  intro H locs ls hP hD hS hl
  exact lv_tableIn hx hb d (by rw [h0]; exact h1) (by rw [h0]; exact h2) (by rw [h0]; exact ho) ht (kk H locs ls hP hD hS hl)
theorem V_tableOut (hX : VS X l G y cc R nL) {a : Int} {dflt lo hi : Int} {offs : Array Int} {len tgt : Nat} (d : decode cc pc = .ok (.tableswitch dflt lo hi offs, len)) (ha : iR a) (h1 : a < lo ∨ hi < a) (ht : (pc : Int) + dflt = (tgt : Int)) (kk : V X k n w lv tgt st) : V X k n w lv pc (.int (jI a) :: st) := by
  obtain ⟨p0, e0, s0, m0, args0, below0, meth0, c0, A0, Q0, rfl, hx, hb, hml, hown, hK, hA, hlocks, hnm⟩ := hX
  intro H locs ls hP hD hS hl
  exact lv_tableOut hx hb d (by rw [jI_toInt ha]; exact h1) ht (kk H locs ls hP hD hS hl)
theorem V_lookup (hX : VS X l G y cc R nL) {a : Int} {dflt off : Int} {ps : Array (Int × Int)} {len tgt : Nat} (d : decode cc pc = .ok (.lookupswitch dflt ps, len)) (ha : iR a) (hp : (ps.toList.zip (ps.toList.drop 1)).all (fun (a, next) => a.1 < next.1) = true) (ho : Op.lookupswitch.offset ps.toList dflt a = off) (ht : (pc : Int) + off = (tgt : Int)) (kk : V X k n w lv tgt st) : V X k n w lv pc (.int (jI a) :: st) := by
  obtain ⟨p0, e0, s0, m0, args0, below0, meth0, c0, A0, Q0, rfl, hx, hb, hml, hown, hK, hA, hlocks, hnm⟩ := hX
  intro H locs ls hP hD hS hl
  exact lv_lookup hx hb d hp (by rw [jI_toInt ha]; exact ho) ht (kk H locs ls hP hD hS hl)
theorem V_fconst0 (hX : VS X l G y cc R nL) (d : decode cc pc = .ok (.fconst 0, 1)) (kk : V X k n w lv (pc + 1) (.float FP.fconst0 :: st)) : V X k n w lv pc st := by
  obtain ⟨p0, e0, s0, m0, args0, below0, meth0, c0, A0, Q0, rfl, hx, hb, hml, hown, hK, hA, hlocks, hnm⟩ := hX
  intro H locs ls hP hD hS hl
  exact lv_fconst0 hx hb d (kk H locs ls hP hD hS hl)
theorem V_fadd (hX : VS X l G y cc R nL) {a b r : UInt32} (d : decode cc pc = .ok (.fadd, 1)) (h : FP.fadd a b = r) (hn : vf_n32 r) (kk : V X k n w lv (pc + 1) (.float r :: st)) : V X k n w lv pc (.float b :: .float a :: st) := by
  obtain ⟨p0, e0, s0, m0, args0, below0, meth0, c0, A0, Q0, rfl, hx, hb, hml, hown, hK, hA, hlocks, hnm⟩ := hX
  intro H locs ls hP hD hS hl
  subst h; exact lv_fadd hx hb d hn (kk H locs ls hP hD hS hl)
theorem V_fmul (hX : VS X l G y cc R nL) {a b r : UInt32} (d : decode cc pc = .ok (.fmul, 1)) (h : FP.fmul a b = r) (hn : vf_n32 r) (kk : V X k n w lv (pc + 1) (.float r :: st)) : V X k n w lv pc (.float b :: .float a :: st) := by
  obtain ⟨p0, e0, s0, m0, args0, below0, meth0, c0, A0, Q0, rfl, hx, hb, hml, hown, hK, hA, hlocks, hnm⟩ := hX
  intro H locs ls hP hD hS hl
  subst h; exact lv_fmul hx hb d hn (kk H locs ls hP hD hS hl)
theorem V_fdiv (hX : VS X l G y cc R nL) {a b r : UInt32} (d : decode cc pc = .ok (.fdiv, 1)) (h : FP.fdiv a b = r) (hn : vf_n32 r) (kk : V X k n w lv (pc + 1) (.float r :: st)) : V X k n w lv pc (.float b :: .float a :: st) := by
  obtain ⟨p0, e0, s0, m0, args0, below0, meth0, c0, A0, Q0, rfl, hx, hb, hml, hown, hK, hA, hlocks, hnm⟩ := hX
  intro H locs ls hP hD hS hl
  subst h; exact lv_fdiv hx hb d hn (kk H locs ls hP hD hS hl)
theorem V_ddiv (hX : VS X l G y cc R nL) {a b r : UInt64} (d : decode cc pc = .ok (.ddiv, 1)) (h : FP.ddiv a b = r) (hn : vf_n64 r) (kk : V X k n w lv (pc + 1) (.double r :: st)) : V X k n w lv pc (.double b :: .double a :: st) := by
  obtain ⟨p0, e0, s0, m0, args0, below0, meth0, c0, A0, Q0, rfl, hx, hb, hml, hown, hK, hA, hlocks, hnm⟩ := hX
  intro H locs ls hP hD hS hl
  subst h; exact lv_ddiv hx hb d hn (kk H locs ls hP hD hS hl)
theorem V_f2d (hX : VS X l G y cc R nL) {a : UInt32} {r : UInt64} (d : decode cc pc = .ok (.f2d, 1)) (h : FP.f2d a = r) (hn : vf_n64 r) (kk : V X k n w lv (pc + 1) (.double r :: st)) : V X k n w lv pc (.float a :: st) := by
  obtain ⟨p0, e0, s0, m0, args0, below0, meth0, c0, A0, Q0, rfl, hx, hb, hml, hown, hK, hA, hlocks, hnm⟩ := hX
  intro H locs ls hP hD hS hl
  subst h; exact lv_f2d hx hb d hn (kk H locs ls hP hD hS hl)
theorem V_i2f (hX : VS X l G y cc R nL) {a : Int32} {r : UInt32} (d : decode cc pc = .ok (.i2f, 1)) (h : FP.i2f a = r) (kk : V X k n w lv (pc + 1) (.float r :: st)) : V X k n w lv pc (.int a :: st) := by
  obtain ⟨p0, e0, s0, m0, args0, below0, meth0, c0, A0, Q0, rfl, hx, hb, hml, hown, hK, hA, hlocks, hnm⟩ := hX
  intro H locs ls hP hD hS hl
  subst h; exact lv_i2f hx hb d (kk H locs ls hP hD hS hl)
theorem V_i2d (hX : VS X l G y cc R nL) {a : Int32} {r : UInt64} (d : decode cc pc = .ok (.i2d, 1)) (h : FP.i2d a = r) (kk : V X k n w lv (pc + 1) (.double r :: st)) : V X k n w lv pc (.int a :: st) := by
  obtain ⟨p0, e0, s0, m0, args0, below0, meth0, c0, A0, Q0, rfl, hx, hb, hml, hown, hK, hA, hlocks, hnm⟩ := hX
  intro H locs ls hP hD hS hl
  subst h; exact lv_i2d hx hb d (kk H locs ls hP hD hS hl)
theorem V_fcmp (hX : VS X l G y cc R nL) {a b : UInt32} {op : CmpOp} {r : Int32} (d : decode cc pc = .ok (.fcmp op, 1)) (h : Op.cmpValue (FP.fcmp a b) op = r) (kk : V X k n w lv (pc + 1) (.int r :: st)) : V X k n w lv pc (.float b :: .float a :: st) := by
  obtain ⟨p0, e0, s0, m0, args0, below0, meth0, c0, A0, Q0, rfl, hx, hb, hml, hown, hK, hA, hlocks, hnm⟩ := hX
  intro H locs ls hP hD hS hl
  subst h; exact lv_fcmp hx hb d (kk H locs ls hP hD hS hl)
theorem V_dcmp (hX : VS X l G y cc R nL) {a b : UInt64} {op : CmpOp} {r : Int32} (d : decode cc pc = .ok (.dcmp op, 1)) (h : Op.cmpValue (FP.dcmp a b) op = r) (kk : V X k n w lv (pc + 1) (.int r :: st)) : V X k n w lv pc (.double b :: .double a :: st) := by
  obtain ⟨p0, e0, s0, m0, args0, below0, meth0, c0, A0, Q0, rfl, hx, hb, hml, hown, hK, hA, hlocks, hnm⟩ := hX
  intro H locs ls hP hD hS hl
  subst h; exact lv_dcmp hx hb d (kk H locs ls hP hD hS hl)
def cB (ci : Nat) (C : String) (T : u_T) (N : Nat) (ty : Nat → FieldType) : Prop := vwCl[ci]? = some (C, T, N) ∧ (∀ w ∈ u_ws C T N, w ∈ lw_tbl ∧ v_ok w = true) ∧ (∀ k, k < N → parseFieldDescriptor (T k).2.2.1 = some (ty k)) ∧ (∀ a, a < N → ∀ b, b < N → a ≠ b → (T a).2.1 ≠ (T b).2.1)
theorem V_get (hX : VS X l G y cc R nL) {ci N : Nat} {C : String} {T : u_T} {ty : Nat → FieldType} (hc : cB ci C T N ty) {i : Nat} {a : Nat} {fs : List Value} {v : Value} (f q : Nat) (hf : f < N) (hw : Cond.fieldLink y.cls i C (T f).2.1 (T f).2.2.1 ∈ lw_tbl) (ho : v_ok (Cond.fieldLink y.cls i C (T f).2.1 (T f).2.2.1) = true) (hd : (T f).1 = C) (he : w[q]? = some (a, .inr (ci, fs))) (hv : fs[f]? = some v) (d : decode cc pc = .ok (.getfield i, 3)) (kk : V X k n w lv (pc + 3) (v :: st)) : V X k n w lv pc (.ref a :: st) := by
  obtain ⟨p0, e0, s0, m0, args0, below0, meth0, c0, A0, Q0, rfl, hx, hb, hml, hown, hK, hA, hlocks, hnm⟩ := hX
  intro H locs ls hP hD hS hl
  exact va_get (D := G.1) (cl := vwCl) (tys := vT G) (ci := ci) (C := C) (T := T) (N := N) (Ts := u_ws C T N) hx hb (fun w h => hK.use (hc.2.1 w h).1 (hc.2.1 w h).2) (fun _ h => h) hown hK.1 hP q he hc.1 f hf (hK.use hw ho) (fun x h => by rw [hd] at h; exact h) hv d (kk H locs ls hP hD hS hl)
theorem V_put (hX : VS X l G y cc R nL) {ci N : Nat} {C : String} {T : u_T} {ty : Nat → FieldType} (hc : cB ci C T N ty) {i : Nat} {a : Nat} {fs : List Value} {v : Value} (f q : Nat) (hf : f < N) (hw : Cond.fieldLink y.cls i C (T f).2.1 (T f).2.2.1 ∈ lw_tbl) (ho : v_ok (Cond.fieldLink y.cls i C (T f).2.1 (T f).2.2.1) = true) (hd : (T f).1 = C) (he : w[q]? = some (a, .inr (ci, fs))) (hfin : (T f).2.2.2 = false) (hn : narrow (ty f) v = v) (hfit : fits (ty f) v = true) (hl0 : f < fs.length) {w' : va_W} (d : decode cc pc = .ok (.putfield i, 3)) (hw' : w.set q (a, .inr (ci, fs.set f v)) = w') (kk : V X k n w' lv (pc + 3) st) : V X k n w lv pc (v :: .ref a :: st) := by
  subst hw'
  obtain ⟨p0, e0, s0, m0, args0, below0, meth0, c0, A0, Q0, rfl, hx, hb, hml, hown, hK, hA, hlocks, hnm⟩ := hX
  intro H locs ls hP hD hS hl
  exact va_put (D := G.1) (cl := vwCl) (tys := vT G) (ci := ci) (C := C) (T := T) (N := N) (Ts := u_ws C T N) hx hb (fun w h => hK.use (hc.2.1 w h).1 (hc.2.1 w h).2) (fun _ h => h) ty hc.2.2.1 hc.2.2.2 hown hK.1 hP hD hS q he hc.1 f hf (hK.use hw ho) (fun x h => by rw [hd] at h; exact h) hfin (hc.2.2.1 f hf) hn hfit hl0 d (fun H locs hP hD hS => (kk H locs ls hP hD hS hl))
theorem V_putF (hX : VS X l G y cc R nL) {ci N : Nat} {C : String} {T : u_T} {ty : Nat → FieldType} (hc : cB ci C T N ty) {i : Nat} {a : Nat} {fs : List Value} {v : Value} (f q : Nat) (hf : f < N) (hw : Cond.fieldLink y.cls i C (T f).2.1 (T f).2.2.1 ∈ lw_tbl) (ho : v_ok (Cond.fieldLink y.cls i C (T f).2.1 (T f).2.2.1) = true) (hd : (T f).1 = C) (he : w[q]? = some (a, .inr (ci, fs))) (hfin : (T f).2.2.2 = true) (hin : y.name = "<init>") (hde : (T f).1 = y.cls) (hn : narrow (ty f) v = v) (hfit : fits (ty f) v = true) (hl0 : f < fs.length) {w' : va_W} (d : decode cc pc = .ok (.putfield i, 3)) (hw' : w.set q (a, .inr (ci, fs.set f v)) = w') (kk : V X k n w' lv (pc + 3) st) : V X k n w lv pc (v :: .ref a :: st) := by
  subst hw'
  obtain ⟨p0, e0, s0, m0, args0, below0, meth0, c0, A0, Q0, rfl, hx, hb, hml, hown, hK, hA, hlocks, hnm⟩ := hX
  intro H locs ls hP hD hS hl
  exact va_putF (D := G.1) (cl := vwCl) (tys := vT G) (ci := ci) (C := C) (T := T) (N := N) (Ts := u_ws C T N) hx hb (fun w h => hK.use (hc.2.1 w h).1 (hc.2.1 w h).2) (fun _ h => h) ty hc.2.2.1 hc.2.2.2 hown hK.1 hP hD hS q he hc.1 f hf (hK.use hw ho) (fun x h => by rw [hd] at h; exact h) hfin (hnm.trans hin) hde (hc.2.2.1 f hf) hn hfit hl0 d (fun H locs hP hD hS => (kk H locs ls hP hD hS hl))
theorem V_getN (hX : VS X l G y cc R nL) {ci N : Nat} {C : String} {T : u_T} {ty : Nat → FieldType} (hc : cB ci C T N ty) {i : Nat} {a : Nat} {fs : List Value} {v : Value} {host : String} (f q : Nat) (hf : f < N) (hw : Cond.fieldLinkNest y.cls i C (T f).2.1 (T f).2.2.1 host ∈ lw_tbl) (ho : v_ok (Cond.fieldLinkNest y.cls i C (T f).2.1 (T f).2.2.1 host) = true) (hd : (T f).1 = C) (he : w[q]? = some (a, .inr (ci, fs))) (hv : fs[f]? = some v) (d : decode cc pc = .ok (.getfield i, 3)) (kk : V X k n w lv (pc + 3) (v :: st)) : V X k n w lv pc (.ref a :: st) := by
  obtain ⟨p0, e0, s0, m0, args0, below0, meth0, c0, A0, Q0, rfl, hx, hb, hml, hown, hK, hA, hlocks, hnm⟩ := hX
  intro H locs ls hP hD hS hl
  exact va_getN (D := G.1) (cl := vwCl) (tys := vT G) (ci := ci) (C := C) (T := T) (N := N) (Ts := u_ws C T N) hx hb (fun w h => hK.use (hc.2.1 w h).1 (hc.2.1 w h).2) (fun _ h => h) hown hK.1 hP q he hc.1 f hf (hK.use hw ho) (fun x h => by rw [hd] at h; exact h) hv d (kk H locs ls hP hD hS hl)
theorem V_putN (hX : VS X l G y cc R nL) {ci N : Nat} {C : String} {T : u_T} {ty : Nat → FieldType} (hc : cB ci C T N ty) {i : Nat} {a : Nat} {fs : List Value} {v : Value} {host : String} (f q : Nat) (hf : f < N) (hw : Cond.fieldLinkNest y.cls i C (T f).2.1 (T f).2.2.1 host ∈ lw_tbl) (ho : v_ok (Cond.fieldLinkNest y.cls i C (T f).2.1 (T f).2.2.1 host) = true) (hd : (T f).1 = C) (he : w[q]? = some (a, .inr (ci, fs))) (hfin : (T f).2.2.2 = false) (hn : narrow (ty f) v = v) (hfit : fits (ty f) v = true) (hl0 : f < fs.length) {w' : va_W} (d : decode cc pc = .ok (.putfield i, 3)) (hw' : w.set q (a, .inr (ci, fs.set f v)) = w') (kk : V X k n w' lv (pc + 3) st) : V X k n w lv pc (v :: .ref a :: st) := by
  subst hw'
  obtain ⟨p0, e0, s0, m0, args0, below0, meth0, c0, A0, Q0, rfl, hx, hb, hml, hown, hK, hA, hlocks, hnm⟩ := hX
  intro H locs ls hP hD hS hl
  exact va_putN (D := G.1) (cl := vwCl) (tys := vT G) (ci := ci) (C := C) (T := T) (N := N) (Ts := u_ws C T N) hx hb (fun w h => hK.use (hc.2.1 w h).1 (hc.2.1 w h).2) (fun _ h => h) ty hc.2.2.1 hc.2.2.2 hown hK.1 hP hD hS q he hc.1 f hf (hK.use hw ho) (fun x h => by rw [hd] at h; exact h) hfin (hc.2.2.1 f hf) hn hfit hl0 d (fun H locs hP hD hS => (kk H locs ls hP hD hS hl))
theorem V_iald (hX : VS X l G y cc R nL) {a m i0 : Nat} {f : Nat → Int32} {i : Int} (q : Nat) (he : w[q]? = some (a, .inl (G.2.1, m, .inl f))) (h0 : 0 ≤ i) (h1 : i < m) (hm : m ≤ 2147483647) (hi : i.toNat = i0) {r : Int32} (hr : f i0 = r) (d : decode cc pc = .ok (.iaload, 1)) (kk : V X k n w lv (pc + 1) (.int r :: st)) : V X k n w lv pc (.int (jI i) :: .ref a :: st) := by
  obtain ⟨p0, e0, s0, m0, args0, below0, meth0, c0, A0, Q0, rfl, hx, hb, hml, hown, hK, hA, hlocks, hnm⟩ := hX
  intro H locs ls hP hD hS hl
  subst hr; subst hi; exact va_iald (tys := vT G) hx hb hK.1 hP q 0 he rfl (jI_in h0 h1 hm) d (by rw [jI_clamp h0 (by omega)]; exact (kk H locs ls hP hD hS hl))
theorem V_iast (hX : VS X l G y cc R nL) {a m i0 : Nat} {f : Nat → Int32} {i : Int} {v : Int32} (q : Nat) (he : w[q]? = some (a, .inl (G.2.1, m, .inl f))) (h0 : 0 ≤ i) (h1 : i < m) (hm : m ≤ 2147483647) (hi : i.toNat = i0) {w' : va_W} (d : decode cc pc = .ok (.iastore, 1)) (hw' : w.set q (a, .inl (G.2.1, m, .inl (upd f i0 v))) = w') (kk : V X k n w' lv (pc + 1) st) : V X k n w lv pc (.int v :: .int (jI i) :: .ref a :: st) := by
  subst hw'
  subst hi
  obtain ⟨p0, e0, s0, m0, args0, below0, meth0, c0, A0, Q0, rfl, hx, hb, hml, hown, hK, hA, hlocks, hnm⟩ := hX
  intro H locs ls hP hD hS hl
  exact va_iast (tys := vT G) hx hb hK.1 hP hD hS q 0 he rfl (jI_in h0 h1 hm) d (by rw [jI_clamp h0 (by omega)]; exact fun H locs hP hD hS => (kk H locs ls hP hD hS hl))
theorem V_fald (hX : VS X l G y cc R nL) {a m i0 : Nat} {f : Nat → UInt32} {i : Int} (q : Nat) (he : w[q]? = some (a, .inl (G.2.2.1, m, .inr (.inr (.inl f))))) (h0 : 0 ≤ i) (h1 : i < m) (hm : m ≤ 2147483647) (hi : i.toNat = i0) {r : UInt32} (hr : f i0 = r) (d : decode cc pc = .ok (.faload, 1)) (kk : V X k n w lv (pc + 1) (.float r :: st)) : V X k n w lv pc (.int (jI i) :: .ref a :: st) := by
  obtain ⟨p0, e0, s0, m0, args0, below0, meth0, c0, A0, Q0, rfl, hx, hb, hml, hown, hK, hA, hlocks, hnm⟩ := hX
  intro H locs ls hP hD hS hl
  subst hr; subst hi; exact va_fald (tys := vT G) hx hb hK.1 hP q 1 he rfl (jI_in h0 h1 hm) d (by rw [jI_clamp h0 (by omega)]; exact (kk H locs ls hP hD hS hl))
theorem V_fast (hX : VS X l G y cc R nL) {a m i0 : Nat} {f : Nat → UInt32} {i : Int} {v : UInt32} (q : Nat) (he : w[q]? = some (a, .inl (G.2.2.1, m, .inr (.inr (.inl f))))) (h0 : 0 ≤ i) (h1 : i < m) (hm : m ≤ 2147483647) (hi : i.toNat = i0) {w' : va_W} (d : decode cc pc = .ok (.fastore, 1)) (hw' : w.set q (a, .inl (G.2.2.1, m, .inr (.inr (.inl (vf_upd f i0 v))))) = w') (kk : V X k n w' lv (pc + 1) st) : V X k n w lv pc (.float v :: .int (jI i) :: .ref a :: st) := by
  subst hw'
  subst hi
  obtain ⟨p0, e0, s0, m0, args0, below0, meth0, c0, A0, Q0, rfl, hx, hb, hml, hown, hK, hA, hlocks, hnm⟩ := hX
  intro H locs ls hP hD hS hl
  exact va_fast (tys := vT G) hx hb hK.1 hP hD hS q 1 he rfl (jI_in h0 h1 hm) d (by rw [jI_clamp h0 (by omega)]; exact fun H locs hP hD hS => (kk H locs ls hP hD hS hl))
theorem V_cald (hX : VS X l G y cc R nL) {a m i0 : Nat} {f : Nat → Int32} {i : Int} (q : Nat) (he : w[q]? = some (a, .inl (G.2.2.2.1, m, .inl f))) (h0 : 0 ≤ i) (h1 : i < m) (hm : m ≤ 2147483647) (hi : i.toNat = i0) {r : Int32} (hr : f i0 = r) (d : decode cc pc = .ok (.caload, 1)) (kk : V X k n w lv (pc + 1) (.int r :: st)) : V X k n w lv pc (.int (jI i) :: .ref a :: st) := by
  obtain ⟨p0, e0, s0, m0, args0, below0, meth0, c0, A0, Q0, rfl, hx, hb, hml, hown, hK, hA, hlocks, hnm⟩ := hX
  intro H locs ls hP hD hS hl
  subst hr; subst hi; exact va_cald (tys := vT G) hx hb hK.1 hP q 2 he rfl (jI_in h0 h1 hm) d (by rw [jI_clamp h0 (by omega)]; exact (kk H locs ls hP hD hS hl))
theorem V_cast (hX : VS X l G y cc R nL) {a m i0 : Nat} {f : Nat → Int32} {i : Int} {v : Int32} (q : Nat) (he : w[q]? = some (a, .inl (G.2.2.2.1, m, .inl f))) (h0 : 0 ≤ i) (h1 : i < m) (hm : m ≤ 2147483647) (hi : i.toNat = i0) {w' : va_W} (d : decode cc pc = .ok (.castore, 1)) (hw' : w.set q (a, .inl (G.2.2.2.1, m, .inl (upd f i0 (vp_nar .char v)))) = w') (kk : V X k n w' lv (pc + 1) st) : V X k n w lv pc (.int v :: .int (jI i) :: .ref a :: st) := by
  subst hw'
  subst hi
  obtain ⟨p0, e0, s0, m0, args0, below0, meth0, c0, A0, Q0, rfl, hx, hb, hml, hown, hK, hA, hlocks, hnm⟩ := hX
  intro H locs ls hP hD hS hl
  exact va_cast (tys := vT G) hx hb hK.1 hP hD hS q 2 he rfl (jI_in h0 h1 hm) d (by rw [jI_clamp h0 (by omega)]; exact fun H locs hP hD hS => (kk H locs ls hP hD hS hl))
theorem V_aald (hX : VS X l G y cc R nL) {a m i0 : Nat} {f : Nat → Option Nat} {i : Int} {r : Value} (q : Nat) (he : w[q]? = some (a, .inl (G.2.2.2.2, m, .inr (.inr (.inr (.inr f)))))) (h0 : 0 ≤ i) (h1 : i < m) (hm : m ≤ 2147483647) (hi : i.toNat = i0) (hr : va_rf (f i0) = r) (d : decode cc pc = .ok (.aaload, 1)) (kk : V X k n w lv (pc + 1) (r :: st)) : V X k n w lv pc (.int (jI i) :: .ref a :: st) := by
  obtain ⟨p0, e0, s0, m0, args0, below0, meth0, c0, A0, Q0, rfl, hx, hb, hml, hown, hK, hA, hlocks, hnm⟩ := hX
  intro H locs ls hP hD hS hl
  subst hi; subst hr; exact va_aldq (tys := vT G) hx hb hK.1 hP q 3 he rfl (jI_in h0 h1 hm) d (by rw [jI_clamp h0 (by omega)]; exact (kk H locs ls hP hD hS hl))
theorem V_aast (hX : VS X l G y cc R nL) {a m i0 b : Nat} {f : Nat → Option Nat} {i : Int} {vs : List Value} (q qk : Nat) (he : w[q]? = some (a, .inl (G.2.2.2.2, m, .inr (.inr (.inr (.inr f)))))) (hv : w[qk]? = some (b, .inr (1, vs))) (h0 : 0 ≤ i) (h1 : i < m) (hm : m ≤ 2147483647) (hi : i.toNat = i0) {w' : va_W} (d : decode cc pc = .ok (.aastore, 1)) (hw' : w.set q (a, .inl (G.2.2.2.2, m, .inr (.inr (.inr (.inr (va_up f i0 (some b))))))) = w') (kk : V X k n w' lv (pc + 1) st) : V X k n w lv pc (.ref b :: .int (jI i) :: .ref a :: st) := by
  subst hw'
  subst hi
  obtain ⟨p0, e0, s0, m0, args0, below0, meth0, c0, A0, Q0, rfl, hx, hb, hml, hown, hK, hA, hlocks, hnm⟩ := hX
  intro H locs ls hP hD hS hl
  exact va_astq (tys := vT G) (r := (RX1, TX1, 17)) hx hb hK.1 hP hD hS q 3 qk 1 he rfl hv rfl (jI_in h0 h1 hm) d (by rw [jI_clamp h0 (by omega)]; exact fun H locs hP hD hS => (kk H locs ls hP hD hS hl))
theorem V_ilen (hX : VS X l G y cc R nL) {a m : Nat} {xx : (Nat → Int32) ⊕ (Nat → Int64) ⊕ (Nat → UInt32) ⊕ (Nat → UInt64) ⊕ (Nat → Option Nat)} {b : Int} (q : Nat) (he : w[q]? = some (a, .inl (G.2.1, m, xx))) (hb2 : (m : Int) = b) (d : decode cc pc = .ok (.arraylength, 1)) (kk : V X k n w lv (pc + 1) (.int (jI b) :: st)) : V X k n w lv pc (.ref a :: st) := by
  obtain ⟨p0, e0, s0, m0, args0, below0, meth0, c0, A0, Q0, rfl, hx, hb, hml, hown, hK, hA, hlocks, hnm⟩ := hX
  intro H locs ls hP hD hS hl
  subst hb2; exact va_alen (tys := vT G) hx hb hK.1 hP q 0 he rfl (jI_nI m) d (kk H locs ls hP hD hS hl)
theorem V_olen (hX : VS X l G y cc R nL) {a m : Nat} {xx : (Nat → Int32) ⊕ (Nat → Int64) ⊕ (Nat → UInt32) ⊕ (Nat → UInt64) ⊕ (Nat → Option Nat)} {b : Int} (q : Nat) (he : w[q]? = some (a, .inl (G.2.2.2.2, m, xx))) (hb2 : (m : Int) = b) (d : decode cc pc = .ok (.arraylength, 1)) (kk : V X k n w lv (pc + 1) (.int (jI b) :: st)) : V X k n w lv pc (.ref a :: st) := by
  obtain ⟨p0, e0, s0, m0, args0, below0, meth0, c0, A0, Q0, rfl, hx, hb, hml, hown, hK, hA, hlocks, hnm⟩ := hX
  intro H locs ls hP hD hS hl
  subst hb2; exact va_alen (tys := vT G) hx hb hK.1 hP q 3 he rfl (jI_nI m) d (kk H locs ls hP hD hS hl)
theorem V_icmp_eqv (hX : VS X l G y cc R nL) {a b : Int32} {off : Int} {tgt : Nat} (d : decode cc pc = .ok (.if_icmp .eq off, 3)) (ht : (pc : Int) + off = (tgt : Int)) (h : a = b) (kt : V X k n w lv tgt st) : V X k n w lv pc (.int b :: .int a :: st) := by
  obtain ⟨p0, e0, s0, m0, args0, below0, meth0, c0, A0, Q0, rfl, hx, hb, hml, hown, hK, hA, hlocks, hnm⟩ := hX
  intro H locs ls hP hD hS hl
  exact lv_icmp_eq hx hb d ht (fun _ => kt H locs ls hP hD hS hl) (fun q => absurd h q)
theorem V_objInit (hX : VS X l G y cc R nL) {i a : Nat} (d : decode cc pc = .ok (.invokespecial i, 3)) (h1 : Cond.methodLink y.cls i objectInit ∈ lw_tbl) (hf : 1 ≤ R.frames) (hlo : (st.map fun v => v.category).sum + 12 ≤ R.locals) (kk : V X k n w lv (pc + 3) st) : V X k n w lv pc (.ref a :: st) := by
  obtain ⟨p0, e0, s0, m0, args0, below0, meth0, c0, A0, Q0, rfl, hx, hb, hml, hown, hK, hA, hlocks, hnm⟩ := hX
  intro H locs ls hP hD hS hl
  refine W.objInit hx hb hown (hK.use h1 rfl) (hK.use (w := .instanceMethod objectInit) (by decide +kernel) rfl) (hK.use (w := .code objectInit ⟨#[0xb1]⟩ 1 none) (by decide +kernel) rfl) rfl (by rw [hml]; exact hl.1) rfl d hf ?_ ?_
  · show 2 * 0 + _ + 12 ≤ _
    omega
  · exact kk H locs ls hP hD hS hl
theorem V_new (hX : VS X l G y cc R nL) {i ci N : Nat} {C : String} {T : u_T} {ty : Nat → FieldType} {fs : List Value} (hc : cB ci C T N ty) (hw : Cond.classLink y.cls i C ∈ lw_tbl) (hi : Cond.instantiable C N ∈ lw_tbl) (hini : Cond.initialized C ∈ lw_tbl) (hfs : ∀ j, j < N → defaultValue (ty j) = vp_V fs j) (hk : k + 1 ≤ R.cells) (hn : n + N ≤ R.slots) (d : decode cc pc = .ok (.new i, 3)) {k' n' : Nat} (hk' : k + 1 = k') (hn' : n + N = n') (kk : ∀ q : Nat, V X k' n' (w ++ [(q, .inr (ci, fs))]) lv (pc + 3) (.ref q :: st)) : V X k n w lv pc st := by
  subst hk'; subst hn'
  obtain ⟨p0, e0, s0, m0, args0, below0, meth0, c0, A0, Q0, rfl, hx, hb, hml, hown, hK, hA, hlocks, hnm⟩ := hX
  intro H locs ls hP hD hS hl
  exact va_new (D := G.1) (cl := vwCl) (tys := vT G) (ci := ci) (C := C) (T := T) (N := N) (Ts := u_ws C T N) hx hb (fun w h => hK.use (hc.2.1 w h).1 (hc.2.1 w h).2) (fun _ h => h) ty hc.2.2.1 hown (hK.use hw rfl) (hK.use hi rfl) (hK.use hini rfl) hK.1 hP hD hS hA hc.1 hfs hk hn d (fun q H hP hD hS => kk q H locs ls hP hD hS hl)
theorem V_newai (hX : VS X l G y cc R nL) {N : Nat} (hN2 : N ≤ 100000) (hk : k + 1 ≤ R.cells) (hn : n + N ≤ R.slots) (d : decode cc pc = .ok (.newarray .int, 2)) {k' n' : Nat} (hk' : k + 1 = k') (hn' : n + N = n') (kk : ∀ q : Nat, V X k' n' (w ++ [(q, .inl (G.2.1, (N, .inl (fun _ => 0))))]) lv (pc + 2) (.ref q :: st)) : V X k n w lv pc (.int (jI N) :: st) := by
  subst hk'; subst hn'
  obtain ⟨p0, e0, s0, m0, args0, below0, meth0, c0, A0, Q0, rfl, hx, hb, hml, hown, hK, hA, hlocks, hnm⟩ := hX
  intro H locs ls hP hD hS hl
  refine va_newa (atype := .int) (ty := .int) (N' := N) (a0 := (N, .inl (fun _ => 0))) hx hb (hK.2.2.1 args0).1 rfl hK.1 hP hD hS hA (fun cA => rfl) (fun h => ?_) ?_ ?_ hk hn d (fun q cA H hK1 hP hD hS => ?_)
  · have h2 := (jI_lt (a := N) (b := 0) ⟨by omega, by omega⟩ ⟨by omega, by omega⟩).mp h; omega
  · rw [jI_clamp (by omega) (by omega)]; rfl
  · have : componentBytes .int ≤ 8 := by decide
    exact Nat.le_trans (Nat.mul_le_mul_left N this) (by omega)
  · have e1 := (hK1.2 4 (cA, .int) rfl).2
    have e2 := (hK.1.2 0 (G.2.1, .int) rfl).2
    have e3 : cA = G.2.1 := Option.some.inj (Eq.trans (Eq.symm e1) e2)
    rw [e3] at hP hD
    exact kk q H locs ls hP hD hS hl
theorem V_newaf (hX : VS X l G y cc R nL) {N : Nat} (hN2 : N ≤ 100000) (hk : k + 1 ≤ R.cells) (hn : n + N ≤ R.slots) (d : decode cc pc = .ok (.newarray .float, 2)) {k' n' : Nat} (hk' : k + 1 = k') (hn' : n + N = n') (kk : ∀ q : Nat, V X k' n' (w ++ [(q, .inl (G.2.2.1, (N, .inr (.inr (.inl (fun _ => 0))))))]) lv (pc + 2) (.ref q :: st)) : V X k n w lv pc (.int (jI N) :: st) := by
  subst hk'; subst hn'
  obtain ⟨p0, e0, s0, m0, args0, below0, meth0, c0, A0, Q0, rfl, hx, hb, hml, hown, hK, hA, hlocks, hnm⟩ := hX
  intro H locs ls hP hD hS hl
  refine va_newa (atype := .float) (ty := .float) (N' := N) (a0 := (N, .inr (.inr (.inl (fun _ => 0))))) hx hb (hK.2.2.1 args0).2.1 rfl hK.1 hP hD hS hA (fun cA => rfl) (fun h => ?_) ?_ ?_ hk hn d (fun q cA H hK1 hP hD hS => ?_)
  · have h2 := (jI_lt (a := N) (b := 0) ⟨by omega, by omega⟩ ⟨by omega, by omega⟩).mp h; omega
  · rw [jI_clamp (by omega) (by omega)]; rfl
  · have : componentBytes .float ≤ 8 := by decide
    exact Nat.le_trans (Nat.mul_le_mul_left N this) (by omega)
  · have e1 := (hK1.2 4 (cA, .float) rfl).2
    have e2 := (hK.1.2 1 (G.2.2.1, .float) rfl).2
    have e3 : cA = G.2.2.1 := Option.some.inj (Eq.trans (Eq.symm e1) e2)
    rw [e3] at hP hD
    exact kk q H locs ls hP hD hS hl
theorem V_newac (hX : VS X l G y cc R nL) {N : Nat} (hN2 : N ≤ 100000) (hk : k + 1 ≤ R.cells) (hn : n + N ≤ R.slots) (d : decode cc pc = .ok (.newarray .char, 2)) {k' n' : Nat} (hk' : k + 1 = k') (hn' : n + N = n') (kk : ∀ q : Nat, V X k' n' (w ++ [(q, .inl (G.2.2.2.1, (N, .inl (fun _ => 0))))]) lv (pc + 2) (.ref q :: st)) : V X k n w lv pc (.int (jI N) :: st) := by
  subst hk'; subst hn'
  obtain ⟨p0, e0, s0, m0, args0, below0, meth0, c0, A0, Q0, rfl, hx, hb, hml, hown, hK, hA, hlocks, hnm⟩ := hX
  intro H locs ls hP hD hS hl
  refine va_newa (atype := .char) (ty := .char) (N' := N) (a0 := (N, .inl (fun _ => 0))) hx hb (hK.2.2.1 args0).2.2 rfl hK.1 hP hD hS hA (fun cA => rfl) (fun h => ?_) ?_ ?_ hk hn d (fun q cA H hK1 hP hD hS => ?_)
  · have h2 := (jI_lt (a := N) (b := 0) ⟨by omega, by omega⟩ ⟨by omega, by omega⟩).mp h; omega
  · rw [jI_clamp (by omega) (by omega)]; rfl
  · have : componentBytes .char ≤ 8 := by decide
    exact Nat.le_trans (Nat.mul_le_mul_left N this) (by omega)
  · have e1 := (hK1.2 4 (cA, .char) rfl).2
    have e2 := (hK.1.2 2 (G.2.2.2.1, .char) rfl).2
    have e3 : cA = G.2.2.2.1 := Option.some.inj (Eq.trans (Eq.symm e1) e2)
    rw [e3] at hP hD
    exact kk q H locs ls hP hD hS hl
theorem V_newq (hX : VS X l G y cc R nL) {i N : Nat} (hN2 : N ≤ 100000) (hw : Cond.classLink y.cls i RX1 ∈ lw_tbl) (hk : k + 1 ≤ R.cells) (hn : n + N ≤ R.slots) (d : decode cc pc = .ok (.anewarray i, 3)) {k' n' : Nat} (hk' : k + 1 = k') (hn' : n + N = n') (kk : ∀ q : Nat, V X k' n' (w ++ [(q, .inl (G.2.2.2.2, N, .inr (.inr (.inr (.inr (fun _ => none))))))]) lv (pc + 3) (.ref q :: st)) : V X k n w lv pc (.int (jI N) :: st) := by
  subst hk'; subst hn'
  obtain ⟨p0, e0, s0, m0, args0, below0, meth0, c0, A0, Q0, rfl, hx, hb, hml, hown, hK, hA, hlocks, hnm⟩ := hX
  intro H locs ls hP hD hS hl
  refine va_newq (C := RX1) (N' := N) hx hb hown (hK.use hw rfl) hK.2.2.2 hK.1 hP hD hS hA (fun h => ?_) ?_ ?_ hk hn d (fun q cA H hK1 hP hD hS => ?_)
  · have h2 := (jI_lt (a := N) (b := 0) ⟨by omega, by omega⟩ ⟨by omega, by omega⟩).mp h; omega
  · rw [jI_clamp (by omega) (by omega)]; rfl
  · omega
  · obtain ⟨x1, x2, x3, x4, x5, e1⟩ := (hK1.2 4 (cA, .object RX1) rfl).2
    obtain ⟨z1, z2, z3, z4, z5, e2⟩ := (hK.1.2 3 (G.2.2.2.2, .object RX1) rfl).2
    have e3 : cA = G.2.2.2.2 := Option.some.inj (Eq.trans (Eq.symm e1) e2)
    rw [e3] at hP hD
    exact kk q H locs ls hP hD hS hl
end VRows
end
section
section VCalls
variable {X : vX} {l : Launch} {G : vC} {y : MethodName} {cc : ByteArray} {R : Room} {nL k n pc : Nat} {w : va_W} {lv : List (Nat × Value)} {st : List Value}
theorem vr_call {p : Program} {l : Launch} {e : Env} {R : Room} {s : State} {m : MethodId} {args : Array Value} {below : List Frame} {meth : Method} {c : Code} {H H0 : Heap} {locs : List Loc} {cells slots mc ms pc : Nat} {ls : Array Slot} {st0 rest : List Value} {Q : State → Prop} {G : vC} {post : Option Value → va_W → Prop} {A0 A1 free : Nat → Prop} {aa : Array Value}
    (hr : va_Run p l e R s m args below meth c H locs cells slots mc ms (F0 m pc ls st0) rest (vQ G post A1 aa) free) (hS : va_S A0 H0 H locs) (hA : ∀ q, q < H.size → A1 q → A0 q) (hf : ∀ q, free q → A0 q)
    (kk : ∀ (v : Option Value) (u : va_W) (H1 : Heap) (locs1 : List Loc), post v u → va_P G.1 vwCl u H1 → va_D A1 u → H.size ≤ H1.size → (∀ q : Nat, q < H.size → ¬ A1 q → H1[q]? = H[q]?) → va_S A0 H0 H1 locs1 → W p l e R s m args below meth c H1 locs1 (cells + mc) (slots + ms) Q (F0 m (pc + 3) ls (v.toList ++ rest))) : W p l e R s m args below meth c H locs cells slots Q (F0 m pc ls st0) := by
  intro T hT X
  obtain ⟨v, st₀, t, T', L, h0, X', hL, e1, e2, ⟨⟨v2, u, hv, hp, hb, hd⟩, hz, hk⟩, st⟩ := hr T hT X
  cases hv
  rw [h0] at hz hk
  obtain ⟨t2, a1, b1⟩ := kk v u T'.heap (locs ++ L) hp (by rw [e1]; exact hb) hd (by rw [e1]; exact hz) (fun q h1 h2 => by rw [e1]; exact hk q h1 h2)
    ⟨Nat.le_trans hS.1 (by rw [e1]; exact hz), fun q h1 h2 => by rw [e1, hk q (Nat.lt_of_lt_of_le h1 hS.1) (fun z => h2 (hA q (Nat.lt_of_lt_of_le h1 hS.1) z))]; exact hS.2.1 q h1 h2, fun q hq => by
      rcases List.mem_append.mp hq with h | h
      · exact hS.2.2 q h
      · exact hf _ (hL q h)⟩ T' rfl X'
  exact ⟨t2, st t2 a1, b1⟩
theorem Ct.blind {G : vC} {as : List Value} {w : va_W} {sz : Nat} : FrameBlind (va_Pc as (fun U => U.heap.size = sz ∧ va_P G.1 vwCl w U.heap ∧ vK G U ∧ va_D (fun _ => True) w)) := by
  intro a U g mk q
  obtain ⟨q0, q1, qP, qK, qD⟩ := q
  exact ⟨q0, q1, qP, qK.call, qD⟩
theorem fr_part {A : Nat → Prop} {D : va_G} {cl : List vw_C} {a wc b : va_W} {H : Heap} (hP : va_P D cl (a ++ (wc ++ b)) H) (hD : va_D A (a ++ (wc ++ b))) : va_P D cl wc H ∧ va_D (fun _ => True) wc := by
  constructor
  · exact vp_mem.mpr fun q hq => vp_mem.mp hP q (List.mem_append.mpr (Or.inr (List.mem_append.mpr (Or.inl hq))))
  · have h1 := (vd_mem.mp hD).1
    rw [List.map_append, List.map_append, List.nodup_append, List.nodup_append] at h1
    exact vd_mem.mpr ⟨h1.2.1.1, fun _ _ => trivial⟩
/-- what the tables say of a call (V) -/
def cw_V (own : String) (i : Nat) (C : String) (y : MethodName) (cc : ByteArray) (maxL : Nat) (ret : Option FieldType) (n : Nat) : Prop := Cond.methodLink own i y ∈ lw_tbl ∧ Cond.instanceMethod y ∈ lw_tbl ∧ Cond.initialized y.cls ∈ lw_tbl ∧ Cond.code y cc maxL ret ∈ lw_tbl ∧ (y.cls ≠ "java/lang/invoke/MethodHandle" ∧ y.cls ≠ "java/lang/invoke/VarHandle") ∧ (parseMethodDescriptor y.desc).map (fun d => d.parameters.length) = some n ∧ Cond.selects C y y ∈ lw_tbl
theorem V_rV (hX : VS X l G y cc R nL) {i n1 maxL : Nat} {C : String} {y2 : MethodName} {bytes : ByteArray} {ret : Option FieldType} {rm : Room} {b : Nat} {as st0 : List Value} {wc : va_W} {ci N : Nat} {T : u_T} {fs : List Value} (hw : cw_V y.cls i C y2 bytes maxL ret n1) {post : Option Value → va_W → Prop} (hM : Ct l G y2 bytes maxL ret rm (.ref b :: as) wc post) (hroom : rm.frames + 1 ≤ R.frames ∧ 8 + (maxL + 11) + rm.locals ≤ R.locals) (hcell : k + rm.cells ≤ R.cells ∧ n + rm.slots ≤ R.slots) (hn : as.length = n1) (hst : st0 = as.reverse ++ .ref b :: st) (hcat : (st.map fun v => v.category).sum ≤ 8) (d : decode cc pc = .ok (.invokevirtual i, 3)) (a b' : va_W) (hwd : w = a ++ (wc ++ b')) (q : Nat) (hq : w[q]? = some (b, .inr (ci, fs))) (hcl : vwCl[ci]? = some (C, T, N)) 
    (kk : ∀ (v : Option Value) (u : va_W), post v u → V X (k + rm.cells) (n + rm.slots) (a ++ (u ++ b')) lv (pc + 3) (v.toList ++ st)) : V X k n w lv pc st0 := by
  obtain ⟨p0, e0, s0, m0, args0, below0, meth0, c0, A0, Q0, rfl, hx, hb, hml, hown, hK, hA, hlocks, hnm⟩ := hX
  intro H locs ls hP hD hS hl
  obtain ⟨h1, h2, h3, h4, h5, h6, h7⟩ := hw
  subst hwd
  have hpt := fr_part hP hD
  have hF := fr_free hD hS.1 hA
  exact vr_call (va_runV (g := F0 m0 pc ls st0) (Ts := []) (rest := st) ⟨hx, hb, hml, hown, fun _ h => by cases h⟩ (hM H.size) ⟨⟨rfl, rfl, hroom.1, hroom.2, (fun w hw2 a' U hW => by rw [List.mem_singleton.mp hw2]; exact (vK.warm hW hK).use h4 rfl), List.mem_singleton.mpr rfl, hK.use h4 rfl, hK.use h3 rfl, h5, (fun sig h => by rw [h] at h6; exact (Option.some.inj h6).symm), hK.use h1 rfl⟩, hK.use h2 rfl, hK.use h7 rfl⟩ ⟨Ct.blind, va_recv hK.1 hP hcl hq, fun U hU hW => ⟨rfl, by rw [hU], by rw [hU]; exact hpt.1, vK.warm hW hK, hpt.2⟩⟩ rfl hn hl.1 hst (lv_room hcat) d hcell) hS (fun q _ h => hF q h) hF (fun v u H1 locs1 hpo hP1 hD1 hz1 hk1 hS1 => by
    obtain ⟨hP2, hD2⟩ := fr_join hP hD hk1 hF hP1 hD1
    exact kk v u hpo H1 locs1 ls hP2 hD2 hS1 hl)
theorem V_cV (hX : VS X l G y cc R nL) {i n1 maxL : Nat} {C : String} {y2 : MethodName} {bytes : ByteArray} {ret : Option FieldType} {rm : Room} {b : Nat} {as st0 : List Value} {wc : va_W} {ci N : Nat} {T : u_T} {fs : List Value} (hw : cw_V y.cls i C y2 bytes maxL ret n1) {v : Value} {wc' w' : va_W} {k' n' : Nat} (hM : Fn l G y2 bytes maxL ret rm (.ref b :: as) wc (some v) wc') (hroom : rm.frames + 1 ≤ R.frames ∧ 8 + (maxL + 11) + rm.locals ≤ R.locals) (hcell : k + rm.cells ≤ R.cells ∧ n + rm.slots ≤ R.slots) (hn : as.length = n1) (hst : st0 = as.reverse ++ .ref b :: st) (hcat : (st.map fun v => v.category).sum ≤ 8) (d : decode cc pc = .ok (.invokevirtual i, 3)) (a b' : va_W) (hwd : w = a ++ (wc ++ b')) (q : Nat) (hq : w[q]? = some (b, .inr (ci, fs))) (hcl : vwCl[ci]? = some (C, T, N)) (hw' : a ++ (wc' ++ b') = w') (hk : k + rm.cells = k') (hn' : n + rm.slots = n')
    (kk : V X k' n' w' lv (pc + 3) (v :: st)) : V X k n w lv pc st0 := by
  subst hk; subst hn'
  refine V_rV hX hw hM hroom hcell hn hst hcat d a b' hwd q hq hcl (fun v u h => ?_)
  obtain ⟨rfl, rfl⟩ := h
  rw [hw']
  exact kk
theorem V_dV (hX : VS X l G y cc R nL) {i n1 maxL : Nat} {C : String} {y2 : MethodName} {bytes : ByteArray} {ret : Option FieldType} {rm : Room} {b : Nat} {as st0 : List Value} {wc : va_W} {ci N : Nat} {T : u_T} {fs : List Value} (hw : cw_V y.cls i C y2 bytes maxL ret n1) {wc' w' : va_W} {k' n' : Nat} (hM : Fn l G y2 bytes maxL ret rm (.ref b :: as) wc none wc') (hroom : rm.frames + 1 ≤ R.frames ∧ 8 + (maxL + 11) + rm.locals ≤ R.locals) (hcell : k + rm.cells ≤ R.cells ∧ n + rm.slots ≤ R.slots) (hn : as.length = n1) (hst : st0 = as.reverse ++ .ref b :: st) (hcat : (st.map fun v => v.category).sum ≤ 8) (d : decode cc pc = .ok (.invokevirtual i, 3)) (a b' : va_W) (hwd : w = a ++ (wc ++ b')) (q : Nat) (hq : w[q]? = some (b, .inr (ci, fs))) (hcl : vwCl[ci]? = some (C, T, N)) (hw' : a ++ (wc' ++ b') = w') (hk : k + rm.cells = k') (hn' : n + rm.slots = n')
    (kk : V X k' n' w' lv (pc + 3) st) : V X k n w lv pc st0 := by
  subst hk; subst hn'
  refine V_rV hX hw hM hroom hcell hn hst hcat d a b' hwd q hq hcl (fun v u h => ?_)
  obtain ⟨rfl, rfl⟩ := h
  rw [hw']
  exact kk
/-- what the tables say of a call (VN) -/
def cw_VN (own : String) (i : Nat) (C : String) (y : MethodName) (host : String) (cc : ByteArray) (maxL : Nat) (ret : Option FieldType) (n : Nat) : Prop := Cond.methodLinkNest own i y host ∈ lw_tbl ∧ Cond.instanceMethod y ∈ lw_tbl ∧ Cond.initialized y.cls ∈ lw_tbl ∧ Cond.code y cc maxL ret ∈ lw_tbl ∧ (y.cls ≠ "java/lang/invoke/MethodHandle" ∧ y.cls ≠ "java/lang/invoke/VarHandle") ∧ (parseMethodDescriptor y.desc).map (fun d => d.parameters.length) = some n ∧ Cond.selects C y y ∈ lw_tbl
theorem V_rVN (hX : VS X l G y cc R nL) {i n1 maxL : Nat} {C : String} {y2 : MethodName} {host : String} {bytes : ByteArray} {ret : Option FieldType} {rm : Room} {b : Nat} {as st0 : List Value} {wc : va_W} {ci N : Nat} {T : u_T} {fs : List Value} (hw : cw_VN y.cls i C y2 host bytes maxL ret n1) {post : Option Value → va_W → Prop} (hM : Ct l G y2 bytes maxL ret rm (.ref b :: as) wc post) (hroom : rm.frames + 1 ≤ R.frames ∧ 8 + (maxL + 11) + rm.locals ≤ R.locals) (hcell : k + rm.cells ≤ R.cells ∧ n + rm.slots ≤ R.slots) (hn : as.length = n1) (hst : st0 = as.reverse ++ .ref b :: st) (hcat : (st.map fun v => v.category).sum ≤ 8) (d : decode cc pc = .ok (.invokevirtual i, 3)) (a b' : va_W) (hwd : w = a ++ (wc ++ b')) (q : Nat) (hq : w[q]? = some (b, .inr (ci, fs))) (hcl : vwCl[ci]? = some (C, T, N)) 
    (kk : ∀ (v : Option Value) (u : va_W), post v u → V X (k + rm.cells) (n + rm.slots) (a ++ (u ++ b')) lv (pc + 3) (v.toList ++ st)) : V X k n w lv pc st0 := by
  obtain ⟨p0, e0, s0, m0, args0, below0, meth0, c0, A0, Q0, rfl, hx, hb, hml, hown, hK, hA, hlocks, hnm⟩ := hX
  intro H locs ls hP hD hS hl
  obtain ⟨h1, h2, h3, h4, h5, h6, h7⟩ := hw
  subst hwd
  have hpt := fr_part hP hD
  have hF := fr_free hD hS.1 hA
  exact vr_call (va_runVN (g := F0 m0 pc ls st0) (Ts := []) (rest := st) ⟨hx, hb, hml, hown, fun _ h => by cases h⟩ (hM H.size) ⟨⟨⟨rfl, rfl, hroom.1, hroom.2, (fun w hw2 a' U hW => by rw [List.mem_singleton.mp hw2]; exact (vK.warm hW hK).use h4 rfl), List.mem_singleton.mpr rfl⟩, hK.use h4 rfl, hK.use h3 rfl, h5, (fun sig h => by rw [h] at h6; exact (Option.some.inj h6).symm), hK.use h1 rfl⟩, hK.use h2 rfl, hK.use h7 rfl⟩ ⟨Ct.blind, va_recv hK.1 hP hcl hq, fun U hU hW => ⟨rfl, by rw [hU], by rw [hU]; exact hpt.1, vK.warm hW hK, hpt.2⟩⟩ rfl hn hl.1 hst (lv_room hcat) d hcell) hS (fun q _ h => hF q h) hF (fun v u H1 locs1 hpo hP1 hD1 hz1 hk1 hS1 => by
    obtain ⟨hP2, hD2⟩ := fr_join hP hD hk1 hF hP1 hD1
    exact kk v u hpo H1 locs1 ls hP2 hD2 hS1 hl)
theorem V_cVN (hX : VS X l G y cc R nL) {i n1 maxL : Nat} {C : String} {y2 : MethodName} {host : String} {bytes : ByteArray} {ret : Option FieldType} {rm : Room} {b : Nat} {as st0 : List Value} {wc : va_W} {ci N : Nat} {T : u_T} {fs : List Value} (hw : cw_VN y.cls i C y2 host bytes maxL ret n1) {v : Value} {wc' w' : va_W} {k' n' : Nat} (hM : Fn l G y2 bytes maxL ret rm (.ref b :: as) wc (some v) wc') (hroom : rm.frames + 1 ≤ R.frames ∧ 8 + (maxL + 11) + rm.locals ≤ R.locals) (hcell : k + rm.cells ≤ R.cells ∧ n + rm.slots ≤ R.slots) (hn : as.length = n1) (hst : st0 = as.reverse ++ .ref b :: st) (hcat : (st.map fun v => v.category).sum ≤ 8) (d : decode cc pc = .ok (.invokevirtual i, 3)) (a b' : va_W) (hwd : w = a ++ (wc ++ b')) (q : Nat) (hq : w[q]? = some (b, .inr (ci, fs))) (hcl : vwCl[ci]? = some (C, T, N)) (hw' : a ++ (wc' ++ b') = w') (hk : k + rm.cells = k') (hn' : n + rm.slots = n')
    (kk : V X k' n' w' lv (pc + 3) (v :: st)) : V X k n w lv pc st0 := by
  subst hk; subst hn'
  refine V_rVN hX hw hM hroom hcell hn hst hcat d a b' hwd q hq hcl (fun v u h => ?_)
  obtain ⟨rfl, rfl⟩ := h
  rw [hw']
  exact kk
theorem V_dVN (hX : VS X l G y cc R nL) {i n1 maxL : Nat} {C : String} {y2 : MethodName} {host : String} {bytes : ByteArray} {ret : Option FieldType} {rm : Room} {b : Nat} {as st0 : List Value} {wc : va_W} {ci N : Nat} {T : u_T} {fs : List Value} (hw : cw_VN y.cls i C y2 host bytes maxL ret n1) {wc' w' : va_W} {k' n' : Nat} (hM : Fn l G y2 bytes maxL ret rm (.ref b :: as) wc none wc') (hroom : rm.frames + 1 ≤ R.frames ∧ 8 + (maxL + 11) + rm.locals ≤ R.locals) (hcell : k + rm.cells ≤ R.cells ∧ n + rm.slots ≤ R.slots) (hn : as.length = n1) (hst : st0 = as.reverse ++ .ref b :: st) (hcat : (st.map fun v => v.category).sum ≤ 8) (d : decode cc pc = .ok (.invokevirtual i, 3)) (a b' : va_W) (hwd : w = a ++ (wc ++ b')) (q : Nat) (hq : w[q]? = some (b, .inr (ci, fs))) (hcl : vwCl[ci]? = some (C, T, N)) (hw' : a ++ (wc' ++ b') = w') (hk : k + rm.cells = k') (hn' : n + rm.slots = n')
    (kk : V X k' n' w' lv (pc + 3) st) : V X k n w lv pc st0 := by
  subst hk; subst hn'
  refine V_rVN hX hw hM hroom hcell hn hst hcat d a b' hwd q hq hcl (fun v u h => ?_)
  obtain ⟨rfl, rfl⟩ := h
  rw [hw']
  exact kk
/-- what the tables say of a call (S) -/
def cw_S (own : String) (i : Nat) (y : MethodName) (cc : ByteArray) (maxL : Nat) (ret : Option FieldType) (n : Nat) : Prop := Cond.methodLink own i y ∈ lw_tbl ∧ Cond.static y ∈ lw_tbl ∧ Cond.initialized y.cls ∈ lw_tbl ∧ Cond.code y cc maxL ret ∈ lw_tbl ∧ (y.cls ≠ "java/lang/invoke/MethodHandle" ∧ y.cls ≠ "java/lang/invoke/VarHandle") ∧ (parseMethodDescriptor y.desc).map (fun d => d.parameters.length) = some n
theorem V_rS (hX : VS X l G y cc R nL) {i n1 maxL : Nat} {y2 : MethodName} {bytes : ByteArray} {ret : Option FieldType} {rm : Room} {as st0 : List Value} {wc : va_W} (hw : cw_S y.cls i y2 bytes maxL ret n1) {post : Option Value → va_W → Prop} (hM : Ct l G y2 bytes maxL ret rm (as) wc post) (hroom : rm.frames + 1 ≤ R.frames ∧ 8 + (maxL + 11) + rm.locals ≤ R.locals) (hcell : k + rm.cells ≤ R.cells ∧ n + rm.slots ≤ R.slots) (hn : as.length = n1) (hst : st0 = as.reverse ++ st) (hcat : (st.map fun v => v.category).sum ≤ 8) (d : decode cc pc = .ok (.invokestatic i, 3)) (a b' : va_W) (hwd : w = a ++ (wc ++ b')) 
    (kk : ∀ (v : Option Value) (u : va_W), post v u → V X (k + rm.cells) (n + rm.slots) (a ++ (u ++ b')) lv (pc + 3) (v.toList ++ st)) : V X k n w lv pc st0 := by
  obtain ⟨p0, e0, s0, m0, args0, below0, meth0, c0, A0, Q0, rfl, hx, hb, hml, hown, hK, hA, hlocks, hnm⟩ := hX
  intro H locs ls hP hD hS hl
  obtain ⟨h1, h2, h3, h4, h5, h6⟩ := hw
  subst hwd
  have hpt := fr_part hP hD
  have hF := fr_free hD hS.1 hA
  exact vr_call (va_runS (g := F0 m0 pc ls st0) (Ts := []) (rest := st) ⟨hx, hb, hml, hown, fun _ h => by cases h⟩ (hM H.size) ⟨⟨rfl, rfl, hroom.1, hroom.2, (fun w hw2 a' U hW => by rw [List.mem_singleton.mp hw2]; exact (vK.warm hW hK).use h4 rfl), List.mem_singleton.mpr rfl, hK.use h4 rfl, hK.use h3 rfl, h5, (fun sig h => by rw [h] at h6; exact (Option.some.inj h6).symm), hK.use h1 rfl⟩, hK.use h2 rfl⟩ ⟨Ct.blind, fun U hU hW => ⟨rfl, by rw [hU], by rw [hU]; exact hpt.1, vK.warm hW hK, hpt.2⟩⟩ rfl hn hl.1 hst (lv_room hcat) d hcell) hS (fun q _ h => hF q h) hF (fun v u H1 locs1 hpo hP1 hD1 hz1 hk1 hS1 => by
    obtain ⟨hP2, hD2⟩ := fr_join hP hD hk1 hF hP1 hD1
    exact kk v u hpo H1 locs1 ls hP2 hD2 hS1 hl)
theorem V_cS (hX : VS X l G y cc R nL) {i n1 maxL : Nat} {y2 : MethodName} {bytes : ByteArray} {ret : Option FieldType} {rm : Room} {as st0 : List Value} {wc : va_W} (hw : cw_S y.cls i y2 bytes maxL ret n1) {v : Value} {wc' w' : va_W} {k' n' : Nat} (hM : Fn l G y2 bytes maxL ret rm (as) wc (some v) wc') (hroom : rm.frames + 1 ≤ R.frames ∧ 8 + (maxL + 11) + rm.locals ≤ R.locals) (hcell : k + rm.cells ≤ R.cells ∧ n + rm.slots ≤ R.slots) (hn : as.length = n1) (hst : st0 = as.reverse ++ st) (hcat : (st.map fun v => v.category).sum ≤ 8) (d : decode cc pc = .ok (.invokestatic i, 3)) (a b' : va_W) (hwd : w = a ++ (wc ++ b')) (hw' : a ++ (wc' ++ b') = w') (hk : k + rm.cells = k') (hn' : n + rm.slots = n')
    (kk : V X k' n' w' lv (pc + 3) (v :: st)) : V X k n w lv pc st0 := by
  subst hk; subst hn'
  refine V_rS hX hw hM hroom hcell hn hst hcat d a b' hwd (fun v u h => ?_)
  obtain ⟨rfl, rfl⟩ := h
  rw [hw']
  exact kk
theorem V_dS (hX : VS X l G y cc R nL) {i n1 maxL : Nat} {y2 : MethodName} {bytes : ByteArray} {ret : Option FieldType} {rm : Room} {as st0 : List Value} {wc : va_W} (hw : cw_S y.cls i y2 bytes maxL ret n1) {wc' w' : va_W} {k' n' : Nat} (hM : Fn l G y2 bytes maxL ret rm (as) wc none wc') (hroom : rm.frames + 1 ≤ R.frames ∧ 8 + (maxL + 11) + rm.locals ≤ R.locals) (hcell : k + rm.cells ≤ R.cells ∧ n + rm.slots ≤ R.slots) (hn : as.length = n1) (hst : st0 = as.reverse ++ st) (hcat : (st.map fun v => v.category).sum ≤ 8) (d : decode cc pc = .ok (.invokestatic i, 3)) (a b' : va_W) (hwd : w = a ++ (wc ++ b')) (hw' : a ++ (wc' ++ b') = w') (hk : k + rm.cells = k') (hn' : n + rm.slots = n')
    (kk : V X k' n' w' lv (pc + 3) st) : V X k n w lv pc st0 := by
  subst hk; subst hn'
  refine V_rS hX hw hM hroom hcell hn hst hcat d a b' hwd (fun v u h => ?_)
  obtain ⟨rfl, rfl⟩ := h
  rw [hw']
  exact kk
/-- what the tables say of a call (SN) -/
def cw_SN (own : String) (i : Nat) (y : MethodName) (host : String) (cc : ByteArray) (maxL : Nat) (ret : Option FieldType) (n : Nat) : Prop := Cond.methodLinkNest own i y host ∈ lw_tbl ∧ Cond.static y ∈ lw_tbl ∧ Cond.initialized y.cls ∈ lw_tbl ∧ Cond.code y cc maxL ret ∈ lw_tbl ∧ (y.cls ≠ "java/lang/invoke/MethodHandle" ∧ y.cls ≠ "java/lang/invoke/VarHandle") ∧ (parseMethodDescriptor y.desc).map (fun d => d.parameters.length) = some n
theorem V_rSN (hX : VS X l G y cc R nL) {i n1 maxL : Nat} {y2 : MethodName} {host : String} {bytes : ByteArray} {ret : Option FieldType} {rm : Room} {as st0 : List Value} {wc : va_W} (hw : cw_SN y.cls i y2 host bytes maxL ret n1) {post : Option Value → va_W → Prop} (hM : Ct l G y2 bytes maxL ret rm (as) wc post) (hroom : rm.frames + 1 ≤ R.frames ∧ 8 + (maxL + 11) + rm.locals ≤ R.locals) (hcell : k + rm.cells ≤ R.cells ∧ n + rm.slots ≤ R.slots) (hn : as.length = n1) (hst : st0 = as.reverse ++ st) (hcat : (st.map fun v => v.category).sum ≤ 8) (d : decode cc pc = .ok (.invokestatic i, 3)) (a b' : va_W) (hwd : w = a ++ (wc ++ b')) 
    (kk : ∀ (v : Option Value) (u : va_W), post v u → V X (k + rm.cells) (n + rm.slots) (a ++ (u ++ b')) lv (pc + 3) (v.toList ++ st)) : V X k n w lv pc st0 := by
  obtain ⟨p0, e0, s0, m0, args0, below0, meth0, c0, A0, Q0, rfl, hx, hb, hml, hown, hK, hA, hlocks, hnm⟩ := hX
  intro H locs ls hP hD hS hl
  obtain ⟨h1, h2, h3, h4, h5, h6⟩ := hw
  subst hwd
  have hpt := fr_part hP hD
  have hF := fr_free hD hS.1 hA
  exact vr_call (va_runSN (g := F0 m0 pc ls st0) (Ts := []) (rest := st) ⟨hx, hb, hml, hown, fun _ h => by cases h⟩ (hM H.size) ⟨⟨⟨rfl, rfl, hroom.1, hroom.2, (fun w hw2 a' U hW => by rw [List.mem_singleton.mp hw2]; exact (vK.warm hW hK).use h4 rfl), List.mem_singleton.mpr rfl⟩, hK.use h4 rfl, hK.use h3 rfl, h5, (fun sig h => by rw [h] at h6; exact (Option.some.inj h6).symm), hK.use h1 rfl⟩, hK.use h2 rfl, trivial⟩ ⟨Ct.blind, fun U hU hW => ⟨rfl, by rw [hU], by rw [hU]; exact hpt.1, vK.warm hW hK, hpt.2⟩⟩ rfl hn hl.1 hst (lv_room hcat) d hcell) hS (fun q _ h => hF q h) hF (fun v u H1 locs1 hpo hP1 hD1 hz1 hk1 hS1 => by
    obtain ⟨hP2, hD2⟩ := fr_join hP hD hk1 hF hP1 hD1
    exact kk v u hpo H1 locs1 ls hP2 hD2 hS1 hl)
theorem V_cSN (hX : VS X l G y cc R nL) {i n1 maxL : Nat} {y2 : MethodName} {host : String} {bytes : ByteArray} {ret : Option FieldType} {rm : Room} {as st0 : List Value} {wc : va_W} (hw : cw_SN y.cls i y2 host bytes maxL ret n1) {v : Value} {wc' w' : va_W} {k' n' : Nat} (hM : Fn l G y2 bytes maxL ret rm (as) wc (some v) wc') (hroom : rm.frames + 1 ≤ R.frames ∧ 8 + (maxL + 11) + rm.locals ≤ R.locals) (hcell : k + rm.cells ≤ R.cells ∧ n + rm.slots ≤ R.slots) (hn : as.length = n1) (hst : st0 = as.reverse ++ st) (hcat : (st.map fun v => v.category).sum ≤ 8) (d : decode cc pc = .ok (.invokestatic i, 3)) (a b' : va_W) (hwd : w = a ++ (wc ++ b')) (hw' : a ++ (wc' ++ b') = w') (hk : k + rm.cells = k') (hn' : n + rm.slots = n')
    (kk : V X k' n' w' lv (pc + 3) (v :: st)) : V X k n w lv pc st0 := by
  subst hk; subst hn'
  refine V_rSN hX hw hM hroom hcell hn hst hcat d a b' hwd (fun v u h => ?_)
  obtain ⟨rfl, rfl⟩ := h
  rw [hw']
  exact kk
theorem V_dSN (hX : VS X l G y cc R nL) {i n1 maxL : Nat} {y2 : MethodName} {host : String} {bytes : ByteArray} {ret : Option FieldType} {rm : Room} {as st0 : List Value} {wc : va_W} (hw : cw_SN y.cls i y2 host bytes maxL ret n1) {wc' w' : va_W} {k' n' : Nat} (hM : Fn l G y2 bytes maxL ret rm (as) wc none wc') (hroom : rm.frames + 1 ≤ R.frames ∧ 8 + (maxL + 11) + rm.locals ≤ R.locals) (hcell : k + rm.cells ≤ R.cells ∧ n + rm.slots ≤ R.slots) (hn : as.length = n1) (hst : st0 = as.reverse ++ st) (hcat : (st.map fun v => v.category).sum ≤ 8) (d : decode cc pc = .ok (.invokestatic i, 3)) (a b' : va_W) (hwd : w = a ++ (wc ++ b')) (hw' : a ++ (wc' ++ b') = w') (hk : k + rm.cells = k') (hn' : n + rm.slots = n')
    (kk : V X k' n' w' lv (pc + 3) st) : V X k n w lv pc st0 := by
  subst hk; subst hn'
  refine V_rSN hX hw hM hroom hcell hn hst hcat d a b' hwd (fun v u h => ?_)
  obtain ⟨rfl, rfl⟩ := h
  rw [hw']
  exact kk
/-- what the tables say of a call (I) -/
def cw_I (own : String) (i : Nat) (y : MethodName) (cc : ByteArray) (maxL : Nat) (ret : Option FieldType) (n : Nat) : Prop := Cond.methodLink own i y ∈ lw_tbl ∧ Cond.instanceMethod y ∈ lw_tbl ∧ Cond.initialized y.cls ∈ lw_tbl ∧ Cond.code y cc maxL ret ∈ lw_tbl ∧ (y.cls ≠ "java/lang/invoke/MethodHandle" ∧ y.cls ≠ "java/lang/invoke/VarHandle") ∧ (parseMethodDescriptor y.desc).map (fun d => d.parameters.length) = some n ∧ y.name = "<init>"
theorem V_rI (hX : VS X l G y cc R nL) {i n1 maxL : Nat} {y2 : MethodName} {bytes : ByteArray} {rm : Room} {b : Nat} {as st0 : List Value} {wc : va_W} (hw : cw_I y.cls i y2 bytes maxL none n1) {post : Option Value → va_W → Prop} (hM : Ct l G y2 bytes maxL none rm (.ref b :: as) wc post) (hroom : rm.frames + 1 ≤ R.frames ∧ 8 + (maxL + 11) + rm.locals ≤ R.locals) (hcell : k + rm.cells ≤ R.cells ∧ n + rm.slots ≤ R.slots) (hn : as.length = n1) (hst : st0 = as.reverse ++ .ref b :: st) (hcat : (st.map fun v => v.category).sum ≤ 8) (d : decode cc pc = .ok (.invokespecial i, 3)) (a b' : va_W) (hwd : w = a ++ (wc ++ b')) 
    (kk : ∀ (v : Option Value) (u : va_W), post v u → V X (k + rm.cells) (n + rm.slots) (a ++ (u ++ b')) lv (pc + 3) (v.toList ++ st)) : V X k n w lv pc st0 := by
  obtain ⟨p0, e0, s0, m0, args0, below0, meth0, c0, A0, Q0, rfl, hx, hb, hml, hown, hK, hA, hlocks, hnm⟩ := hX
  intro H locs ls hP hD hS hl
  obtain ⟨h1, h2, h3, h4, h5, h6, h7⟩ := hw
  subst hwd
  have hpt := fr_part hP hD
  have hF := fr_free hD hS.1 hA
  exact vr_call (va_runI (g := F0 m0 pc ls st0) (Ts := []) (rest := st) ⟨hx, hb, hml, hown, fun _ h => by cases h⟩ (hM H.size) ⟨⟨rfl, rfl, hroom.1, hroom.2, (fun w hw2 a' U hW => by rw [List.mem_singleton.mp hw2]; exact (vK.warm hW hK).use h4 rfl), List.mem_singleton.mpr rfl, hK.use h4 rfl, hK.use h3 rfl, h5, (fun sig h => by rw [h] at h6; exact (Option.some.inj h6).symm), hK.use h1 rfl⟩, h7, hK.use h2 rfl⟩ ⟨Ct.blind, fun U hU hW => ⟨rfl, by rw [hU], by rw [hU]; exact hpt.1, vK.warm hW hK, hpt.2⟩⟩ rfl hn hl.1 hst (lv_room hcat) d hcell) hS (fun q _ h => hF q h) hF (fun v u H1 locs1 hpo hP1 hD1 hz1 hk1 hS1 => by
    obtain ⟨hP2, hD2⟩ := fr_join hP hD hk1 hF hP1 hD1
    exact kk v u hpo H1 locs1 ls hP2 hD2 hS1 hl)
theorem V_dI (hX : VS X l G y cc R nL) {i n1 maxL : Nat} {y2 : MethodName} {bytes : ByteArray} {rm : Room} {b : Nat} {as st0 : List Value} {wc : va_W} (hw : cw_I y.cls i y2 bytes maxL none n1) {wc' w' : va_W} {k' n' : Nat} (hM : Fn l G y2 bytes maxL none rm (.ref b :: as) wc none wc') (hroom : rm.frames + 1 ≤ R.frames ∧ 8 + (maxL + 11) + rm.locals ≤ R.locals) (hcell : k + rm.cells ≤ R.cells ∧ n + rm.slots ≤ R.slots) (hn : as.length = n1) (hst : st0 = as.reverse ++ .ref b :: st) (hcat : (st.map fun v => v.category).sum ≤ 8) (d : decode cc pc = .ok (.invokespecial i, 3)) (a b' : va_W) (hwd : w = a ++ (wc ++ b')) (hw' : a ++ (wc' ++ b') = w') (hk : k + rm.cells = k') (hn' : n + rm.slots = n')
    (kk : V X k' n' w' lv (pc + 3) st) : V X k n w lv pc st0 := by
  subst hk; subst hn'
  refine V_rI hX hw hM hroom hcell hn hst hcat d a b' hwd (fun v u h => ?_)
  obtain ⟨rfl, rfl⟩ := h
  rw [hw']
  exact kk
/-- what the tables say of a call (IN) -/
def cw_IN (own : String) (i : Nat) (y : MethodName) (host : String) (cc : ByteArray) (maxL : Nat) (ret : Option FieldType) (n : Nat) : Prop := Cond.methodLinkNest own i y host ∈ lw_tbl ∧ Cond.instanceMethod y ∈ lw_tbl ∧ Cond.initialized y.cls ∈ lw_tbl ∧ Cond.code y cc maxL ret ∈ lw_tbl ∧ (y.cls ≠ "java/lang/invoke/MethodHandle" ∧ y.cls ≠ "java/lang/invoke/VarHandle") ∧ (parseMethodDescriptor y.desc).map (fun d => d.parameters.length) = some n ∧ y.name = "<init>"
theorem V_rIN (hX : VS X l G y cc R nL) {i n1 maxL : Nat} {y2 : MethodName} {host : String} {bytes : ByteArray} {rm : Room} {b : Nat} {as st0 : List Value} {wc : va_W} (hw : cw_IN y.cls i y2 host bytes maxL none n1) {post : Option Value → va_W → Prop} (hM : Ct l G y2 bytes maxL none rm (.ref b :: as) wc post) (hroom : rm.frames + 1 ≤ R.frames ∧ 8 + (maxL + 11) + rm.locals ≤ R.locals) (hcell : k + rm.cells ≤ R.cells ∧ n + rm.slots ≤ R.slots) (hn : as.length = n1) (hst : st0 = as.reverse ++ .ref b :: st) (hcat : (st.map fun v => v.category).sum ≤ 8) (d : decode cc pc = .ok (.invokespecial i, 3)) (a b' : va_W) (hwd : w = a ++ (wc ++ b')) 
    (kk : ∀ (v : Option Value) (u : va_W), post v u → V X (k + rm.cells) (n + rm.slots) (a ++ (u ++ b')) lv (pc + 3) (v.toList ++ st)) : V X k n w lv pc st0 := by
  obtain ⟨p0, e0, s0, m0, args0, below0, meth0, c0, A0, Q0, rfl, hx, hb, hml, hown, hK, hA, hlocks, hnm⟩ := hX
  intro H locs ls hP hD hS hl
  obtain ⟨h1, h2, h3, h4, h5, h6, h7⟩ := hw
  subst hwd
  have hpt := fr_part hP hD
  have hF := fr_free hD hS.1 hA
  exact vr_call (va_runIN (g := F0 m0 pc ls st0) (Ts := []) (rest := st) ⟨hx, hb, hml, hown, fun _ h => by cases h⟩ (hM H.size) ⟨⟨⟨rfl, rfl, hroom.1, hroom.2, (fun w hw2 a' U hW => by rw [List.mem_singleton.mp hw2]; exact (vK.warm hW hK).use h4 rfl), List.mem_singleton.mpr rfl⟩, hK.use h4 rfl, hK.use h3 rfl, h5, (fun sig h => by rw [h] at h6; exact (Option.some.inj h6).symm), hK.use h1 rfl⟩, h7, hK.use h2 rfl⟩ ⟨Ct.blind, fun U hU hW => ⟨rfl, by rw [hU], by rw [hU]; exact hpt.1, vK.warm hW hK, hpt.2⟩⟩ rfl hn hl.1 hst (lv_room hcat) d hcell) hS (fun q _ h => hF q h) hF (fun v u H1 locs1 hpo hP1 hD1 hz1 hk1 hS1 => by
    obtain ⟨hP2, hD2⟩ := fr_join hP hD hk1 hF hP1 hD1
    exact kk v u hpo H1 locs1 ls hP2 hD2 hS1 hl)
theorem V_dIN (hX : VS X l G y cc R nL) {i n1 maxL : Nat} {y2 : MethodName} {host : String} {bytes : ByteArray} {rm : Room} {b : Nat} {as st0 : List Value} {wc : va_W} (hw : cw_IN y.cls i y2 host bytes maxL none n1) {wc' w' : va_W} {k' n' : Nat} (hM : Fn l G y2 bytes maxL none rm (.ref b :: as) wc none wc') (hroom : rm.frames + 1 ≤ R.frames ∧ 8 + (maxL + 11) + rm.locals ≤ R.locals) (hcell : k + rm.cells ≤ R.cells ∧ n + rm.slots ≤ R.slots) (hn : as.length = n1) (hst : st0 = as.reverse ++ .ref b :: st) (hcat : (st.map fun v => v.category).sum ≤ 8) (d : decode cc pc = .ok (.invokespecial i, 3)) (a b' : va_W) (hwd : w = a ++ (wc ++ b')) (hw' : a ++ (wc' ++ b') = w') (hk : k + rm.cells = k') (hn' : n + rm.slots = n')
    (kk : V X k' n' w' lv (pc + 3) st) : V X k n w lv pc st0 := by
  subst hk; subst hn'
  refine V_rIN hX hw hM hroom hcell hn hst hcat d a b' hwd (fun v u h => ?_)
  obtain ⟨rfl, rfl⟩ := h
  rw [hw']
  exact kk
theorem V_iret (hX : VS X l G y cc R nL) {rm : Room} {post : Option Value → va_W → Prop} (hR : VR X (some .int) rm post) {v : Int32} (d : decode cc pc = .ok (.ireturn, 1)) (hp : post (some (.int v)) w) : V X rm.cells rm.slots w lv pc [.int v] := by
  obtain ⟨p0, e0, s0, m0, args0, below0, meth0, c0, A0, Q0, rfl, hx, hb, hml, hown, hK, hA, hlocks, hnm⟩ := hX
  intro H locs ls hP hD hS hl
  obtain ⟨hr, rfl⟩ := hR
  exact W.iret hx hb hr (fun t ht hW => ⟨⟨some (.int v), w, rfl, hp, by rw [ht]; exact hP, hD⟩, hS.F ht⟩) hS.2.2 d hlocks
theorem V_zret (hX : VS X l G y cc R nL) {rm : Room} {post : Option Value → va_W → Prop} {ty : FieldType} (hR : VR X (some ty) rm post) {v : Int32} (hn : narrow ty (.int v) = .int v) (d : decode cc pc = .ok (.ireturn, 1)) (hp : post (some (.int v)) w) : V X rm.cells rm.slots w lv pc [.int v] := by
  obtain ⟨p0, e0, s0, m0, args0, below0, meth0, c0, A0, Q0, rfl, hx, hb, hml, hown, hK, hA, hlocks, hnm⟩ := hX
  intro H locs ls hP hD hS hl
  obtain ⟨hr, rfl⟩ := hR
  exact W.zret hx hb hr hn (fun t ht hW => ⟨⟨some (.int v), w, rfl, hp, by rw [ht]; exact hP, hD⟩, hS.F ht⟩) hS.2.2 d hlocks
theorem V_fret (hX : VS X l G y cc R nL) {rm : Room} {post : Option Value → va_W → Prop} (hR : VR X (some .float) rm post) {v : UInt32} (d : decode cc pc = .ok (.freturn, 1)) (hp : post (some (.float v)) w) : V X rm.cells rm.slots w lv pc [.float v] := by
  obtain ⟨p0, e0, s0, m0, args0, below0, meth0, c0, A0, Q0, rfl, hx, hb, hml, hown, hK, hA, hlocks, hnm⟩ := hX
  intro H locs ls hP hD hS hl
  obtain ⟨hr, rfl⟩ := hR
  exact W.fret hx hb hr (fun t ht hW => ⟨⟨some (.float v), w, rfl, hp, by rw [ht]; exact hP, hD⟩, hS.F ht⟩) hS.2.2 d
theorem V_dret (hX : VS X l G y cc R nL) {rm : Room} {post : Option Value → va_W → Prop} (hR : VR X (some .double) rm post) {v : UInt64} (d : decode cc pc = .ok (.dreturn, 1)) (hp : post (some (.double v)) w) : V X rm.cells rm.slots w lv pc [.double v] := by
  obtain ⟨p0, e0, s0, m0, args0, below0, meth0, c0, A0, Q0, rfl, hx, hb, hml, hown, hK, hA, hlocks, hnm⟩ := hX
  intro H locs ls hP hD hS hl
  obtain ⟨hr, rfl⟩ := hR
  exact W.dret hx hb hr (fun t ht hW => ⟨⟨some (.double v), w, rfl, hp, by rw [ht]; exact hP, hD⟩, hS.F ht⟩) hS.2.2 d
theorem V_vret (hX : VS X l G y cc R nL) {rm : Room} {post : Option Value → va_W → Prop} (hR : VR X none rm post) (d : decode cc pc = .ok (.return_, 1)) (hp : post none w) : V X rm.cells rm.slots w lv pc [] := by
  obtain ⟨p0, e0, s0, m0, args0, below0, meth0, c0, A0, Q0, rfl, hx, hb, hml, hown, hK, hA, hlocks, hnm⟩ := hX
  intro H locs ls hP hD hS hl
  obtain ⟨hr, rfl⟩ := hR
  exact W.vret hx hb hr (fun t ht hW => ⟨⟨none, w, rfl, hp, by rw [ht]; exact hP, hD⟩, hS.F ht⟩) hS.2.2 d hlocks
theorem V_min (hX : VS X l G y cc R nL) {i : Nat} {a b c : Int} (d : decode cc pc = .ok (.invokestatic i, 3)) (h1 : Cond.methodLink y.cls i Lib.Math.min.name ∈ lw_tbl) (ha : iR a) (hb2 : iR b) (hf : 1 ≤ R.frames) (hlo : (st.map fun v => v.category).sum + 13 ≤ R.locals) (hk : k ≤ R.cells) (hn : n ≤ R.slots) (h : (if b < a then b else a) = c) (kk : V X k n w lv (pc + 3) (.int (jI c) :: st)) : V X k n w lv pc (.int (jI b) :: .int (jI a) :: st) := by
  subst h
  obtain ⟨p0, e0, s0, m0, args0, below0, meth0, c0, A0, Q0, rfl, hx, hb, hml, hown, hK, hA, hlocks, hnm⟩ := hX
  intro H locs ls hP hD hS hl
  refine va_mmin hx hb (hml.trans hl.1.symm) hown (hK.use h1 rfl) (hK.use (w := Cond.static Lib.Math.min.name) (by decide +kernel) rfl) (hK.use (w := Cond.initialized "java/lang/Math") (by decide +kernel) rfl) (hK.use (w := Cond.code Lib.Math.min.name Lib.Math.min.code 2 (some .int)) (by decide +kernel) rfl) hf hlo hk hn d ?_
  have e : (if jI b < jI a then jI b else jI a) = jI (if b < a then b else a) := by
    by_cases q : b < a
    · rw [if_pos q, if_pos ((jI_lt hb2 ha).mpr q)]
    · rw [if_neg q, if_neg (fun z => q ((jI_lt hb2 ha).mp z))]
  rw [e]
  exact kk H locs ls hP hD hS hl
theorem V_copyi (hX : VS X l G y cc R nL) {i : Nat} (d : decode cc pc = .ok (.invokestatic i, 3)) (h1 : Cond.methodLink y.cls i arraycopyName ∈ lw_tbl) (q0 q1 : Nat) {a0 a mz m1 cz : Nat} {f g : Nat → Int32} (ea0 : w[q0]? = some (a0, .inl (G.2.1, mz, .inl f))) (ea1 : w[q1]? = some (a, .inl (G.2.1, m1, .inl g))) (hc0 : cz ≤ mz) (hc1 : cz ≤ m1) (hm : cz ≤ 2147483647) (hf : 1 ≤ R.frames) (hlo : (st.map fun v => v.category).sum + (nativeFrameWords "java/lang/System" "arraycopy" 5 + 11) ≤ R.locals) {w' : va_W} (hw' : w.set q1 (a, .inl (G.2.1, m1, .inl (va_cpy f g 0 0 cz))) = w') (kk : V X k n w' lv (pc + 3) st) : V X k n w lv pc (.int (jI cz) :: .int (jI 0) :: .ref a :: .int (jI 0) :: .ref a0 :: st) := by
  subst hw'
  obtain ⟨p0, e0, s0, m0, args0, below0, meth0, c0, A0, Q0, rfl, hx, hb, hml, hown, hK, hA, hlocks, hnm⟩ := hX
  intro H locs ls hP hD hS hl
  have z0 : (jI 0).toNatClampNeg = 0 := rfl
  have zc : (jI cz).toNatClampNeg = cz := by rw [jI_clamp (by omega) (by omega)]; rfl
  have zn : ¬ jI 0 < 0 := by decide
  have zcn : ¬ jI (cz : Int) < 0 := fun h => by have h2 := (jI_lt (a := cz) (b := 0) ⟨by omega, by omega⟩ ⟨by omega, by omega⟩).mp h; omega
  refine va_copyi (tys := vT G) hx hb (hml.trans hl.1.symm) hown (hK.use h1 rfl) (hK.use (w := Cond.native arraycopyName) (by decide +kernel) rfl) (hK.use (w := Cond.static arraycopyName) (by decide +kernel) rfl) (hK.use (w := Cond.initialized "java/lang/System") (by decide +kernel) rfl) hK.1 hP hD hS q0 q1 0 0 ea0 ea1 rfl rfl rfl zn zn zcn (by rw [z0, zc]; omega) (by rw [z0, zc]; omega) (fun _ _ => rfl) hf hlo d ?_
  rw [z0, zc]
  exact fun H locs hP hD hS => kk H locs ls hP hD hS hl
end VCalls
end
section
theorem uwX0 : ∀ w ∈ u_ws RX0 TX0 3, w ∈ lw_tbl ∧ v_ok w = true := by decide +kernel
theorem cbX0 : cB 0 RX0 TX0 3 tyX0 := ⟨rfl, uwX0, tyX0_ok, nmX0⟩
theorem uwX1 : ∀ w ∈ u_ws RX1 TX1 17, w ∈ lw_tbl ∧ v_ok w = true := by decide +kernel
theorem cbX1 : cB 1 RX1 TX1 17 tyX1 := ⟨rfl, uwX1, tyX1_ok, nmX1⟩
theorem uwX2 : ∀ w ∈ u_ws RX2 TX2 2, w ∈ lw_tbl ∧ v_ok w = true := by decide +kernel
theorem cbX2 : cB 2 RX2 TX2 2 tyX2 := ⟨rfl, uwX2, tyX2_ok, nmX2⟩
theorem uwX3 : ∀ w ∈ u_ws RX3 TX3 7, w ∈ lw_tbl ∧ v_ok w = true := by decide +kernel
theorem cbX3 : cB 3 RX3 TX3 7 tyX3 := ⟨rfl, uwX3, tyX3_ok, nmX3⟩
theorem uwX4 : ∀ w ∈ u_ws RX4 TX4 11, w ∈ lw_tbl ∧ v_ok w = true := by decide +kernel
theorem cbX4 : cB 4 RX4 TX4 11 tyX4 := ⟨rfl, uwX4, tyX4_ok, nmX4⟩
theorem uwX5 : ∀ w ∈ u_ws RX5 TX5 14, w ∈ lw_tbl ∧ v_ok w = true := by decide +kernel
theorem cbX5 : cB 5 RX5 TX5 14 tyX5 := ⟨rfl, uwX5, tyX5_ok, nmX5⟩
theorem wo_X4_1 : Cond.methodLink RX4 1 objectInit ∈ lw_tbl := List.mem_of_getElem? (i := 108) (by decide +kernel)
theorem wk_X4_7 : Cond.classLink RX4 7 RX1 ∈ lw_tbl := List.mem_of_getElem? (i := 111) (by decide +kernel)
theorem wc_X4_9 : cw_IN RX4 9 yX1_init "StrawHouse" cX1_init 2 none 0 := ⟨List.mem_of_getElem? (i := 113) (by decide +kernel), List.mem_of_getElem? (i := 114) (by decide +kernel), List.mem_of_getElem? (i := 96) (by decide +kernel), List.mem_of_getElem? (i := 115) (by decide +kernel), ⟨by decide +kernel, by decide +kernel⟩, by decide +kernel, rfl⟩
theorem wf_X4_10 : Cond.fieldLink RX4 10 RX4 (TX4 0).2.1 (TX4 0).2.2.1 ∈ lw_tbl := List.mem_of_getElem? (i := 250) (by decide +kernel)
theorem wf_X4_16 : Cond.fieldLink RX4 16 RX4 (TX4 1).2.1 (TX4 1).2.2.1 ∈ lw_tbl := List.mem_of_getElem? (i := 251) (by decide +kernel)
theorem wf_X4_19 : Cond.fieldLink RX4 19 RX4 (TX4 2).2.1 (TX4 2).2.2.1 ∈ lw_tbl := List.mem_of_getElem? (i := 252) (by decide +kernel)
theorem wf_X4_22 : Cond.fieldLink RX4 22 RX4 (TX4 3).2.1 (TX4 3).2.2.1 ∈ lw_tbl := List.mem_of_getElem? (i := 253) (by decide +kernel)
theorem wk_X4_25 : Cond.classLink RX4 25 RX2 ∈ lw_tbl := List.mem_of_getElem? (i := 183) (by decide +kernel)
theorem wc_X4_27 : cw_IN RX4 27 yX2_init "StrawHouse" cX2_init 2 none 0 := ⟨List.mem_of_getElem? (i := 185) (by decide +kernel), List.mem_of_getElem? (i := 186) (by decide +kernel), List.mem_of_getElem? (i := 97) (by decide +kernel), List.mem_of_getElem? (i := 187) (by decide +kernel), ⟨by decide +kernel, by decide +kernel⟩, by decide +kernel, rfl⟩
theorem wf_X4_28 : Cond.fieldLink RX4 28 RX4 (TX4 4).2.1 (TX4 4).2.2.1 ∈ lw_tbl := List.mem_of_getElem? (i := 254) (by decide +kernel)
theorem wk_X4_32 : Cond.classLink RX4 32 RX3 ∈ lw_tbl := List.mem_of_getElem? (i := 200) (by decide +kernel)
theorem wc_X4_34 : cw_IN RX4 34 yX3_init "StrawHouse" cX3_init 1 none 0 := ⟨List.mem_of_getElem? (i := 202) (by decide +kernel), List.mem_of_getElem? (i := 203) (by decide +kernel), List.mem_of_getElem? (i := 98) (by decide +kernel), List.mem_of_getElem? (i := 204) (by decide +kernel), ⟨by decide +kernel, by decide +kernel⟩, by decide +kernel, rfl⟩
theorem wf_X4_35 : Cond.fieldLink RX4 35 RX4 (TX4 5).2.1 (TX4 5).2.2.1 ∈ lw_tbl := List.mem_of_getElem? (i := 255) (by decide +kernel)
theorem wk_X4_39 : Cond.classLink RX4 39 RX0 ∈ lw_tbl := List.mem_of_getElem? (i := 231) (by decide +kernel)
theorem wc_X4_41 : cw_IN RX4 41 yX0_init "StrawHouse" cX0_init 2 none 1 := ⟨List.mem_of_getElem? (i := 233) (by decide +kernel), List.mem_of_getElem? (i := 234) (by decide +kernel), List.mem_of_getElem? (i := 99) (by decide +kernel), List.mem_of_getElem? (i := 235) (by decide +kernel), ⟨by decide +kernel, by decide +kernel⟩, by decide +kernel, rfl⟩
theorem wf_X4_44 : Cond.fieldLink RX4 44 RX4 (TX4 6).2.1 (TX4 6).2.2.1 ∈ lw_tbl := List.mem_of_getElem? (i := 256) (by decide +kernel)
theorem wf_X4_48 : Cond.fieldLink RX4 48 RX4 (TX4 7).2.1 (TX4 7).2.2.1 ∈ lw_tbl := List.mem_of_getElem? (i := 257) (by decide +kernel)
theorem wf_X4_51 : Cond.fieldLink RX4 51 RX4 (TX4 9).2.1 (TX4 9).2.2.1 ∈ lw_tbl := List.mem_of_getElem? (i := 259) (by decide +kernel)
theorem wf_X4_55 : Cond.fieldLink RX4 55 RX4 (TX4 10).2.1 (TX4 10).2.2.1 ∈ lw_tbl := List.mem_of_getElem? (i := 260) (by decide +kernel)
theorem wc_X4_58 : cw_VN RX4 58 RX1 yX1_become "StrawHouse" cX1_become 2 none 1 := ⟨List.mem_of_getElem? (i := 288) (by decide +kernel), List.mem_of_getElem? (i := 290) (by decide +kernel), List.mem_of_getElem? (i := 96) (by decide +kernel), List.mem_of_getElem? (i := 291) (by decide +kernel), ⟨by decide +kernel, by decide +kernel⟩, by decide +kernel, List.mem_of_getElem? (i := 0) (by decide +kernel)⟩
theorem wc_X4_62 : cw_VN RX4 62 RX1 yX1_raise "StrawHouse" cX1_raise 6 (some .int) 4 := ⟨List.mem_of_getElem? (i := 301) (by decide +kernel), List.mem_of_getElem? (i := 303) (by decide +kernel), List.mem_of_getElem? (i := 96) (by decide +kernel), List.mem_of_getElem? (i := 304) (by decide +kernel), ⟨by decide +kernel, by decide +kernel⟩, by decide +kernel, List.mem_of_getElem? (i := 1) (by decide +kernel)⟩
theorem wc_X4_66 : cw_V RX4 66 RX4 yX4_recorded cX4_recorded 2 (some .int) 1 := ⟨List.mem_of_getElem? (i := 315) (by decide +kernel), List.mem_of_getElem? (i := 317) (by decide +kernel), List.mem_of_getElem? (i := 95) (by decide +kernel), List.mem_of_getElem? (i := 318) (by decide +kernel), ⟨by decide +kernel, by decide +kernel⟩, by decide +kernel, List.mem_of_getElem? (i := 2) (by decide +kernel)⟩
theorem wc_X4_70 : cw_VN RX4 70 RX1 yX1_bring "StrawHouse" cX1_bring 4 (some .int) 2 := ⟨List.mem_of_getElem? (i := 332) (by decide +kernel), List.mem_of_getElem? (i := 334) (by decide +kernel), List.mem_of_getElem? (i := 96) (by decide +kernel), List.mem_of_getElem? (i := 335) (by decide +kernel), ⟨by decide +kernel, by decide +kernel⟩, by decide +kernel, List.mem_of_getElem? (i := 5) (by decide +kernel)⟩
theorem wc_X4_74 : cw_VN RX4 74 RX1 yX1_turnByHand "StrawHouse" cX1_turnByHand 4 (some .int) 2 := ⟨List.mem_of_getElem? (i := 344) (by decide +kernel), List.mem_of_getElem? (i := 346) (by decide +kernel), List.mem_of_getElem? (i := 96) (by decide +kernel), List.mem_of_getElem? (i := 347) (by decide +kernel), ⟨by decide +kernel, by decide +kernel⟩, by decide +kernel, List.mem_of_getElem? (i := 7) (by decide +kernel)⟩
theorem wc_X4_77 : cw_VN RX4 77 RX1 yX1_takeCrow "StrawHouse" cX1_takeCrow 4 (some .int) 2 := ⟨List.mem_of_getElem? (i := 352) (by decide +kernel), List.mem_of_getElem? (i := 354) (by decide +kernel), List.mem_of_getElem? (i := 96) (by decide +kernel), List.mem_of_getElem? (i := 355) (by decide +kernel), ⟨by decide +kernel, by decide +kernel⟩, by decide +kernel, List.mem_of_getElem? (i := 8) (by decide +kernel)⟩
theorem wc_X4_80 : cw_VN RX4 80 RX1 yX1_scareOff "StrawHouse" cX1_scareOff 3 (some .int) 1 := ⟨List.mem_of_getElem? (i := 364) (by decide +kernel), List.mem_of_getElem? (i := 366) (by decide +kernel), List.mem_of_getElem? (i := 96) (by decide +kernel), List.mem_of_getElem? (i := 367) (by decide +kernel), ⟨by decide +kernel, by decide +kernel⟩, by decide +kernel, List.mem_of_getElem? (i := 10) (by decide +kernel)⟩
theorem wc_X4_83 : cw_VN RX4 83 RX1 yX1_stuff "StrawHouse" cX1_stuff 4 (some .int) 2 := ⟨List.mem_of_getElem? (i := 376) (by decide +kernel), List.mem_of_getElem? (i := 378) (by decide +kernel), List.mem_of_getElem? (i := 96) (by decide +kernel), List.mem_of_getElem? (i := 379) (by decide +kernel), ⟨by decide +kernel, by decide +kernel⟩, by decide +kernel, List.mem_of_getElem? (i := 12) (by decide +kernel)⟩
theorem wc_X4_86 : cw_VN RX4 86 RX1 yX1_giveSeats "StrawHouse" cX1_giveSeats 4 (some .int) 2 := ⟨List.mem_of_getElem? (i := 385) (by decide +kernel), List.mem_of_getElem? (i := 387) (by decide +kernel), List.mem_of_getElem? (i := 96) (by decide +kernel), List.mem_of_getElem? (i := 388) (by decide +kernel), ⟨by decide +kernel, by decide +kernel⟩, by decide +kernel, List.mem_of_getElem? (i := 13) (by decide +kernel)⟩
theorem wc_X4_89 : cw_VN RX4 89 RX1 yX1_blow "StrawHouse" cX1_blow 4 (some .int) 2 := ⟨List.mem_of_getElem? (i := 393) (by decide +kernel), List.mem_of_getElem? (i := 395) (by decide +kernel), List.mem_of_getElem? (i := 96) (by decide +kernel), List.mem_of_getElem? (i := 396) (by decide +kernel), ⟨by decide +kernel, by decide +kernel⟩, by decide +kernel, List.mem_of_getElem? (i := 14) (by decide +kernel)⟩
theorem wc_X4_92 : cw_VN RX4 92 RX1 yX1_adjust "StrawHouse" cX1_adjust 4 (some .int) 2 := ⟨List.mem_of_getElem? (i := 401) (by decide +kernel), List.mem_of_getElem? (i := 403) (by decide +kernel), List.mem_of_getElem? (i := 96) (by decide +kernel), List.mem_of_getElem? (i := 404) (by decide +kernel), ⟨by decide +kernel, by decide +kernel⟩, by decide +kernel, List.mem_of_getElem? (i := 15) (by decide +kernel)⟩
theorem wc_X4_95 : cw_VN RX4 95 RX0 yX0_decide "StrawHouse" cX0_decide 2 (some .int) 1 := ⟨List.mem_of_getElem? (i := 409) (by decide +kernel), List.mem_of_getElem? (i := 411) (by decide +kernel), List.mem_of_getElem? (i := 99) (by decide +kernel), List.mem_of_getElem? (i := 412) (by decide +kernel), ⟨by decide +kernel, by decide +kernel⟩, by decide +kernel, List.mem_of_getElem? (i := 16) (by decide +kernel)⟩
theorem wc_X4_99 : cw_VN RX4 99 RX1 yX1_countVote "StrawHouse" cX1_countVote 2 (some .int) 1 := ⟨List.mem_of_getElem? (i := 461) (by decide +kernel), List.mem_of_getElem? (i := 463) (by decide +kernel), List.mem_of_getElem? (i := 96) (by decide +kernel), List.mem_of_getElem? (i := 464) (by decide +kernel), ⟨by decide +kernel, by decide +kernel⟩, by decide +kernel, List.mem_of_getElem? (i := 27) (by decide +kernel)⟩
theorem wc_X4_102 : cw_VN RX4 102 RX1 yX1_goOn "StrawHouse" cX1_goOn 2 (some .int) 1 := ⟨List.mem_of_getElem? (i := 469) (by decide +kernel), List.mem_of_getElem? (i := 471) (by decide +kernel), List.mem_of_getElem? (i := 96) (by decide +kernel), List.mem_of_getElem? (i := 472) (by decide +kernel), ⟨by decide +kernel, by decide +kernel⟩, by decide +kernel, List.mem_of_getElem? (i := 28) (by decide +kernel)⟩
theorem wc_X4_105 : cw_VN RX4 105 RX3 yX3_append "StrawHouse" cX3_append 2 (some .int) 1 := ⟨List.mem_of_getElem? (i := 498) (by decide +kernel), List.mem_of_getElem? (i := 500) (by decide +kernel), List.mem_of_getElem? (i := 98) (by decide +kernel), List.mem_of_getElem? (i := 501) (by decide +kernel), ⟨by decide +kernel, by decide +kernel⟩, by decide +kernel, List.mem_of_getElem? (i := 34) (by decide +kernel)⟩
theorem wc_X4_109 : cw_VN RX4 109 RX3 yX3_empty "StrawHouse" cX3_empty 2 (some .int) 0 := ⟨List.mem_of_getElem? (i := 506) (by decide +kernel), List.mem_of_getElem? (i := 508) (by decide +kernel), List.mem_of_getElem? (i := 98) (by decide +kernel), List.mem_of_getElem? (i := 509) (by decide +kernel), ⟨by decide +kernel, by decide +kernel⟩, by decide +kernel, List.mem_of_getElem? (i := 35) (by decide +kernel)⟩
theorem wc_X4_113 : cw_VN RX4 113 RX3 yX3_read "StrawHouse" cX3_read 2 (some .int) 0 := ⟨List.mem_of_getElem? (i := 514) (by decide +kernel), List.mem_of_getElem? (i := 516) (by decide +kernel), List.mem_of_getElem? (i := 98) (by decide +kernel), List.mem_of_getElem? (i := 517) (by decide +kernel), ⟨by decide +kernel, by decide +kernel⟩, by decide +kernel, List.mem_of_getElem? (i := 36) (by decide +kernel)⟩
theorem wf_X4_116 : Cond.fieldLinkNest RX4 116 RX3 (TX3 5).2.1 (TX3 5).2.2.1 "StrawHouse" ∈ lw_tbl := List.mem_of_getElem? (i := 213) (by decide +kernel)
theorem wc_X4_119 : cw_V RX4 119 RX4 yX4_doThing cX4_doThing 4 (some .int) 1 := ⟨List.mem_of_getElem? (i := 555) (by decide +kernel), List.mem_of_getElem? (i := 557) (by decide +kernel), List.mem_of_getElem? (i := 95) (by decide +kernel), List.mem_of_getElem? (i := 558) (by decide +kernel), ⟨by decide +kernel, by decide +kernel⟩, by decide +kernel, List.mem_of_getElem? (i := 46) (by decide +kernel)⟩
theorem wc_X4_122 : cw_S RX4 122 yX4_isError cX4_isError 1 (some .boolean) 1 := ⟨List.mem_of_getElem? (i := 571) (by decide +kernel), List.mem_of_getElem? (i := 572) (by decide +kernel), List.mem_of_getElem? (i := 95) (by decide +kernel), List.mem_of_getElem? (i := 573) (by decide +kernel), ⟨by decide +kernel, by decide +kernel⟩, by decide +kernel⟩
theorem wc_X4_126 : cw_VN RX4 126 RX2 yX2_bringBack "StrawHouse" cX2_bringBack 2 (some .int) 1 := ⟨List.mem_of_getElem? (i := 582) (by decide +kernel), List.mem_of_getElem? (i := 584) (by decide +kernel), List.mem_of_getElem? (i := 97) (by decide +kernel), List.mem_of_getElem? (i := 585) (by decide +kernel), ⟨by decide +kernel, by decide +kernel⟩, by decide +kernel, List.mem_of_getElem? (i := 50) (by decide +kernel)⟩
theorem wf_X4_129 : Cond.fieldLink RX4 129 RX4 (TX4 8).2.1 (TX4 8).2.2.1 ∈ lw_tbl := List.mem_of_getElem? (i := 258) (by decide +kernel)
theorem wf_X4_133 : Cond.fieldLinkNest RX4 133 RX1 (TX1 14).2.1 (TX1 14).2.2.1 "StrawHouse" ∈ lw_tbl := List.mem_of_getElem? (i := 144) (by decide +kernel)
theorem wc_X4_136 : cw_VN RX4 136 RX1 yX1_tellScarecrow "StrawHouse" cX1_tellScarecrow 3 (some .int) 2 := ⟨List.mem_of_getElem? (i := 598) (by decide +kernel), List.mem_of_getElem? (i := 600) (by decide +kernel), List.mem_of_getElem? (i := 96) (by decide +kernel), List.mem_of_getElem? (i := 601) (by decide +kernel), ⟨by decide +kernel, by decide +kernel⟩, by decide +kernel, List.mem_of_getElem? (i := 51) (by decide +kernel)⟩
theorem wc_X4_139 : cw_VN RX4 139 RX1 yX1_isScarecrow "StrawHouse" cX1_isScarecrow 2 (some .boolean) 1 := ⟨List.mem_of_getElem? (i := 606) (by decide +kernel), List.mem_of_getElem? (i := 338) (by decide +kernel), List.mem_of_getElem? (i := 96) (by decide +kernel), List.mem_of_getElem? (i := 339) (by decide +kernel), ⟨by decide +kernel, by decide +kernel⟩, by decide +kernel, List.mem_of_getElem? (i := 6) (by decide +kernel)⟩
theorem wc_X4_142 : cw_VN RX4 142 RX1 yX1_strawAsFloat "StrawHouse" cX1_strawAsFloat 2 (some .float) 1 := ⟨List.mem_of_getElem? (i := 607) (by decide +kernel), List.mem_of_getElem? (i := 434) (by decide +kernel), List.mem_of_getElem? (i := 96) (by decide +kernel), List.mem_of_getElem? (i := 435) (by decide +kernel), ⟨by decide +kernel, by decide +kernel⟩, by decide +kernel, List.mem_of_getElem? (i := 21) (by decide +kernel)⟩
theorem wc_X4_148 : cw_S RX4 148 yX4_isField cX4_isField 1 (some .boolean) 1 := ⟨List.mem_of_getElem? (i := 613) (by decide +kernel), List.mem_of_getElem? (i := 306) (by decide +kernel), List.mem_of_getElem? (i := 95) (by decide +kernel), List.mem_of_getElem? (i := 307) (by decide +kernel), ⟨by decide +kernel, by decide +kernel⟩, by decide +kernel⟩
theorem wc_X4_151 : cw_S RX4 151 yX4_isWay cX4_isWay 1 (some .boolean) 1 := ⟨List.mem_of_getElem? (i := 614) (by decide +kernel), List.mem_of_getElem? (i := 312) (by decide +kernel), List.mem_of_getElem? (i := 95) (by decide +kernel), List.mem_of_getElem? (i := 313) (by decide +kernel), ⟨by decide +kernel, by decide +kernel⟩, by decide +kernel⟩
theorem wc_X4_154 : cw_VN RX4 154 RX0 yX0_weigh "StrawHouse" cX0_weigh 5 none 2 := ⟨List.mem_of_getElem? (i := 615) (by decide +kernel), List.mem_of_getElem? (i := 430) (by decide +kernel), List.mem_of_getElem? (i := 99) (by decide +kernel), List.mem_of_getElem? (i := 431) (by decide +kernel), ⟨by decide +kernel, by decide +kernel⟩, by decide +kernel, List.mem_of_getElem? (i := 20) (by decide +kernel)⟩
theorem wf_X4_158 : Cond.fieldLinkNest RX4 158 RX0 (TX0 1).2.1 (TX0 1).2.2.1 "StrawHouse" ∈ lw_tbl := List.mem_of_getElem? (i := 239) (by decide +kernel)
theorem wf_X4_162 : Cond.fieldLinkNest RX4 162 RX1 (TX1 8).2.1 (TX1 8).2.2.1 "StrawHouse" ∈ lw_tbl := List.mem_of_getElem? (i := 135) (by decide +kernel)
theorem wc_X4_166 : cw_VN RX4 166 RX1 yX1_standingIn "StrawHouse" cX1_standingIn 4 (some .int) 1 := ⟨List.mem_of_getElem? (i := 620) (by decide +kernel), List.mem_of_getElem? (i := 622) (by decide +kernel), List.mem_of_getElem? (i := 96) (by decide +kernel), List.mem_of_getElem? (i := 623) (by decide +kernel), ⟨by decide +kernel, by decide +kernel⟩, by decide +kernel, List.mem_of_getElem? (i := 52) (by decide +kernel)⟩
theorem wc_X4_169 : cw_VN RX4 169 RX0 yX0_voteOf "StrawHouse" cX0_voteOf 6 (some .int) 2 := ⟨List.mem_of_getElem? (i := 624) (by decide +kernel), List.mem_of_getElem? (i := 419) (by decide +kernel), List.mem_of_getElem? (i := 99) (by decide +kernel), List.mem_of_getElem? (i := 420) (by decide +kernel), ⟨by decide +kernel, by decide +kernel⟩, by decide +kernel, List.mem_of_getElem? (i := 18) (by decide +kernel)⟩
theorem wc_X4_173 : cw_VN RX4 173 RX0 yX0_speakerOf "StrawHouse" cX0_speakerOf 5 (some .int) 2 := ⟨List.mem_of_getElem? (i := 625) (by decide +kernel), List.mem_of_getElem? (i := 423) (by decide +kernel), List.mem_of_getElem? (i := 99) (by decide +kernel), List.mem_of_getElem? (i := 424) (by decide +kernel), ⟨by decide +kernel, by decide +kernel⟩, by decide +kernel, List.mem_of_getElem? (i := 19) (by decide +kernel)⟩
theorem wc_X4_176 : cw_VN RX4 176 RX0 yX0_reasonOf "StrawHouse" cX0_reasonOf 5 (some .int) 2 := ⟨List.mem_of_getElem? (i := 630) (by decide +kernel), List.mem_of_getElem? (i := 632) (by decide +kernel), List.mem_of_getElem? (i := 99) (by decide +kernel), List.mem_of_getElem? (i := 633) (by decide +kernel), ⟨by decide +kernel, by decide +kernel⟩, by decide +kernel, List.mem_of_getElem? (i := 53) (by decide +kernel)⟩
theorem wc_X4_179 : cw_VN RX4 179 RX0 yX0_decideByPairs "StrawHouse" cX0_decideByPairs 3 (some .int) 1 := ⟨List.mem_of_getElem? (i := 642) (by decide +kernel), List.mem_of_getElem? (i := 644) (by decide +kernel), List.mem_of_getElem? (i := 99) (by decide +kernel), List.mem_of_getElem? (i := 645) (by decide +kernel), ⟨by decide +kernel, by decide +kernel⟩, by decide +kernel, List.mem_of_getElem? (i := 55) (by decide +kernel)⟩
theorem wf_X4_182 : Cond.fieldLinkNest RX4 182 RX1 (TX1 10).2.1 (TX1 10).2.2.1 "StrawHouse" ∈ lw_tbl := List.mem_of_getElem? (i := 139) (by decide +kernel)
theorem wc_X4_185 : cw_V RX4 185 RX4 yX4_couldSwing cX4_couldSwing 8 (some .boolean) 2 := ⟨List.mem_of_getElem? (i := 655) (by decide +kernel), List.mem_of_getElem? (i := 657) (by decide +kernel), List.mem_of_getElem? (i := 95) (by decide +kernel), List.mem_of_getElem? (i := 658) (by decide +kernel), ⟨by decide +kernel, by decide +kernel⟩, by decide +kernel, List.mem_of_getElem? (i := 57) (by decide +kernel)⟩
theorem wc_X4_189 : cw_VN RX4 189 RX1 yX1_doTick "StrawHouse" cX1_doTick 3 (some .int) 0 := ⟨List.mem_of_getElem? (i := 668) (by decide +kernel), List.mem_of_getElem? (i := 480) (by decide +kernel), List.mem_of_getElem? (i := 96) (by decide +kernel), List.mem_of_getElem? (i := 481) (by decide +kernel), ⟨by decide +kernel, by decide +kernel⟩, by decide +kernel, List.mem_of_getElem? (i := 30) (by decide +kernel)⟩
theorem wf_X4_192 : Cond.fieldLinkNest RX4 192 RX1 (TX1 5).2.1 (TX1 5).2.2.1 "StrawHouse" ∈ lw_tbl := List.mem_of_getElem? (i := 129) (by decide +kernel)
theorem wc_X4_195 : cw_S RX4 195 yX4_isIn cX4_isIn 3 (some .boolean) 3 := ⟨List.mem_of_getElem? (i := 308) (by decide +kernel), List.mem_of_getElem? (i := 309) (by decide +kernel), List.mem_of_getElem? (i := 95) (by decide +kernel), List.mem_of_getElem? (i := 310) (by decide +kernel), ⟨by decide +kernel, by decide +kernel⟩, by decide +kernel⟩
theorem wc_X4_199 : cw_VN RX4 199 RX1 yX1_doTicks "StrawHouse" cX1_doTicks 4 (some .int) 1 := ⟨List.mem_of_getElem? (i := 673) (by decide +kernel), List.mem_of_getElem? (i := 476) (by decide +kernel), List.mem_of_getElem? (i := 96) (by decide +kernel), List.mem_of_getElem? (i := 477) (by decide +kernel), ⟨by decide +kernel, by decide +kernel⟩, by decide +kernel, List.mem_of_getElem? (i := 29) (by decide +kernel)⟩
theorem wf_X4_202 : Cond.fieldLinkNest RX4 202 RX1 (TX1 6).2.1 (TX1 6).2.2.1 "StrawHouse" ∈ lw_tbl := List.mem_of_getElem? (i := 131) (by decide +kernel)
theorem wc_X4_205 : cw_S RX4 205 yX4_sumOf cX4_sumOf 3 (some .int) 1 := ⟨List.mem_of_getElem? (i := 674) (by decide +kernel), List.mem_of_getElem? (i := 459) (by decide +kernel), List.mem_of_getElem? (i := 95) (by decide +kernel), List.mem_of_getElem? (i := 460) (by decide +kernel), ⟨by decide +kernel, by decide +kernel⟩, by decide +kernel⟩
theorem wf_X4_209 : Cond.fieldLinkNest RX4 209 RX2 (TX2 1).2.1 (TX2 1).2.2.1 "StrawHouse" ∈ lw_tbl := List.mem_of_getElem? (i := 194) (by decide +kernel)
theorem wf_X4_212 : Cond.fieldLinkNest RX4 212 RX3 (TX3 4).2.1 (TX3 4).2.2.1 "StrawHouse" ∈ lw_tbl := List.mem_of_getElem? (i := 211) (by decide +kernel)
theorem wc_X4_215 : cw_VN RX4 215 RX1 yX1_tellCount "StrawHouse" cX1_tellCount 2 (some .int) 1 := ⟨List.mem_of_getElem? (i := 679) (by decide +kernel), List.mem_of_getElem? (i := 681) (by decide +kernel), List.mem_of_getElem? (i := 96) (by decide +kernel), List.mem_of_getElem? (i := 682) (by decide +kernel), ⟨by decide +kernel, by decide +kernel⟩, by decide +kernel, List.mem_of_getElem? (i := 58) (by decide +kernel)⟩
theorem wc_X4_218 : cw_VN RX4 218 RX2 yX2_remember "StrawHouse" cX2_remember 2 none 1 := ⟨List.mem_of_getElem? (i := 319) (by decide +kernel), List.mem_of_getElem? (i := 321) (by decide +kernel), List.mem_of_getElem? (i := 97) (by decide +kernel), List.mem_of_getElem? (i := 322) (by decide +kernel), ⟨by decide +kernel, by decide +kernel⟩, by decide +kernel, List.mem_of_getElem? (i := 3) (by decide +kernel)⟩
theorem wc_X4_221 : cw_VN RX4 221 RX3 yX3_firstOf "StrawHouse" cX3_firstOf 2 (some .int) 1 := ⟨List.mem_of_getElem? (i := 559) (by decide +kernel), List.mem_of_getElem? (i := 561) (by decide +kernel), List.mem_of_getElem? (i := 98) (by decide +kernel), List.mem_of_getElem? (i := 562) (by decide +kernel), ⟨by decide +kernel, by decide +kernel⟩, by decide +kernel, List.mem_of_getElem? (i := 47) (by decide +kernel)⟩
theorem wc_X4_224 : cw_VN RX4 224 RX3 yX3_secondOf "StrawHouse" cX3_secondOf 2 (some .int) 1 := ⟨List.mem_of_getElem? (i := 563) (by decide +kernel), List.mem_of_getElem? (i := 565) (by decide +kernel), List.mem_of_getElem? (i := 98) (by decide +kernel), List.mem_of_getElem? (i := 566) (by decide +kernel), ⟨by decide +kernel, by decide +kernel⟩, by decide +kernel, List.mem_of_getElem? (i := 48) (by decide +kernel)⟩
theorem wc_X4_227 : cw_VN RX4 227 RX3 yX3_kindOf "StrawHouse" cX3_kindOf 2 (some .int) 1 := ⟨List.mem_of_getElem? (i := 567) (by decide +kernel), List.mem_of_getElem? (i := 569) (by decide +kernel), List.mem_of_getElem? (i := 98) (by decide +kernel), List.mem_of_getElem? (i := 570) (by decide +kernel), ⟨by decide +kernel, by decide +kernel⟩, by decide +kernel, List.mem_of_getElem? (i := 49) (by decide +kernel)⟩
theorem wf_X4_230 : Cond.fieldLinkNest RX4 230 RX1 (TX1 0).2.1 (TX1 0).2.2.1 "StrawHouse" ∈ lw_tbl := List.mem_of_getElem? (i := 119) (by decide +kernel)
theorem wf_X4_233 : Cond.fieldLinkNest RX4 233 RX1 (TX1 3).2.1 (TX1 3).2.2.1 "StrawHouse" ∈ lw_tbl := List.mem_of_getElem? (i := 125) (by decide +kernel)
theorem wf_X4_236 : Cond.fieldLinkNest RX4 236 RX0 (TX0 2).2.1 (TX0 2).2.2.1 "StrawHouse" ∈ lw_tbl := List.mem_of_getElem? (i := 241) (by decide +kernel)
theorem wc_X4_239 : cw_VN RX4 239 RX0 yX0_bySeats "StrawHouse" cX0_bySeats 3 (some .int) 1 := ⟨List.mem_of_getElem? (i := 659) (by decide +kernel), List.mem_of_getElem? (i := 452) (by decide +kernel), List.mem_of_getElem? (i := 99) (by decide +kernel), List.mem_of_getElem? (i := 453) (by decide +kernel), ⟨by decide +kernel, by decide +kernel⟩, by decide +kernel, List.mem_of_getElem? (i := 25) (by decide +kernel)⟩
theorem wo_X4_242 : Cond.methodLink RX4 242 Lib.Math.min.name ∈ lw_tbl := List.mem_of_getElem? (i := 295) (by decide +kernel)
theorem wo_X4_247 : Cond.methodLink RX4 247 arraycopyName ∈ lw_tbl := List.mem_of_getElem? (i := 298) (by decide +kernel)
theorem wo_X5_1 : Cond.methodLink RX5 1 objectInit ∈ lw_tbl := List.mem_of_getElem? (i := 689) (by decide +kernel)
theorem wf_X5_7 : Cond.fieldLink RX5 7 RX5 (TX5 0).2.1 (TX5 0).2.2.1 ∈ lw_tbl := List.mem_of_getElem? (i := 690) (by decide +kernel)
theorem wf_X5_13 : Cond.fieldLink RX5 13 RX5 (TX5 1).2.1 (TX5 1).2.2.1 ∈ lw_tbl := List.mem_of_getElem? (i := 691) (by decide +kernel)
theorem wf_X5_16 : Cond.fieldLink RX5 16 RX5 (TX5 2).2.1 (TX5 2).2.2.1 ∈ lw_tbl := List.mem_of_getElem? (i := 692) (by decide +kernel)
theorem wf_X5_19 : Cond.fieldLink RX5 19 RX5 (TX5 4).2.1 (TX5 4).2.2.1 ∈ lw_tbl := List.mem_of_getElem? (i := 694) (by decide +kernel)
theorem wf_X5_22 : Cond.fieldLink RX5 22 RX5 (TX5 6).2.1 (TX5 6).2.2.1 ∈ lw_tbl := List.mem_of_getElem? (i := 696) (by decide +kernel)
theorem wc_X5_25 : cw_S RX5 25 yX5_within cX5_within 3 (some .boolean) 3 := ⟨List.mem_of_getElem? (i := 760) (by decide +kernel), List.mem_of_getElem? (i := 761) (by decide +kernel), List.mem_of_getElem? (i := 100) (by decide +kernel), List.mem_of_getElem? (i := 762) (by decide +kernel), ⟨by decide +kernel, by decide +kernel⟩, by decide +kernel⟩
theorem wc_X5_29 : cw_V RX5 29 RX5 yX5_of cX5_of 3 (some .int) 2 := ⟨List.mem_of_getElem? (i := 785) (by decide +kernel), List.mem_of_getElem? (i := 787) (by decide +kernel), List.mem_of_getElem? (i := 100) (by decide +kernel), List.mem_of_getElem? (i := 788) (by decide +kernel), ⟨by decide +kernel, by decide +kernel⟩, by decide +kernel, List.mem_of_getElem? (i := 64) (by decide +kernel)⟩
theorem wf_X5_33 : Cond.fieldLink RX5 33 RX5 (TX5 3).2.1 (TX5 3).2.2.1 ∈ lw_tbl := List.mem_of_getElem? (i := 693) (by decide +kernel)
theorem wc_X5_37 : cw_S RX5 37 yX5_isNothing cX5_isNothing 1 (some .boolean) 1 := ⟨List.mem_of_getElem? (i := 774) (by decide +kernel), List.mem_of_getElem? (i := 775) (by decide +kernel), List.mem_of_getElem? (i := 100) (by decide +kernel), List.mem_of_getElem? (i := 776) (by decide +kernel), ⟨by decide +kernel, by decide +kernel⟩, by decide +kernel⟩
theorem wc_X5_41 : cw_V RX5 41 RX5 yX5_push cX5_push 2 none 0 := ⟨List.mem_of_getElem? (i := 749) (by decide +kernel), List.mem_of_getElem? (i := 751) (by decide +kernel), List.mem_of_getElem? (i := 100) (by decide +kernel), List.mem_of_getElem? (i := 752) (by decide +kernel), ⟨by decide +kernel, by decide +kernel⟩, by decide +kernel, List.mem_of_getElem? (i := 60) (by decide +kernel)⟩
theorem wf_X5_44 : Cond.fieldLink RX5 44 RX5 (TX5 5).2.1 (TX5 5).2.2.1 ∈ lw_tbl := List.mem_of_getElem? (i := 695) (by decide +kernel)
theorem wc_X5_48 : cw_V RX5 48 RX5 yX5_putAside cX5_putAside 2 none 0 := ⟨List.mem_of_getElem? (i := 745) (by decide +kernel), List.mem_of_getElem? (i := 747) (by decide +kernel), List.mem_of_getElem? (i := 100) (by decide +kernel), List.mem_of_getElem? (i := 748) (by decide +kernel), ⟨by decide +kernel, by decide +kernel⟩, by decide +kernel, List.mem_of_getElem? (i := 59) (by decide +kernel)⟩
theorem wc_X5_51 : cw_V RX5 51 RX5 yX5_weighs cX5_weighs 7 (some .int) 3 := ⟨List.mem_of_getElem? (i := 861) (by decide +kernel), List.mem_of_getElem? (i := 863) (by decide +kernel), List.mem_of_getElem? (i := 100) (by decide +kernel), List.mem_of_getElem? (i := 864) (by decide +kernel), ⟨by decide +kernel, by decide +kernel⟩, by decide +kernel, List.mem_of_getElem? (i := 75) (by decide +kernel)⟩
theorem wc_X5_55 : cw_V RX5 55 RX5 yX5_greatest cX5_greatest 5 (some .int) 2 := ⟨List.mem_of_getElem? (i := 857) (by decide +kernel), List.mem_of_getElem? (i := 859) (by decide +kernel), List.mem_of_getElem? (i := 100) (by decide +kernel), List.mem_of_getElem? (i := 860) (by decide +kernel), ⟨by decide +kernel, by decide +kernel⟩, by decide +kernel, List.mem_of_getElem? (i := 74) (by decide +kernel)⟩
theorem wc_X5_58 : cw_V RX5 58 RX5 yX5_leaders cX5_leaders 6 (some .int) 2 := ⟨List.mem_of_getElem? (i := 853) (by decide +kernel), List.mem_of_getElem? (i := 855) (by decide +kernel), List.mem_of_getElem? (i := 100) (by decide +kernel), List.mem_of_getElem? (i := 856) (by decide +kernel), ⟨by decide +kernel, by decide +kernel⟩, by decide +kernel, List.mem_of_getElem? (i := 73) (by decide +kernel)⟩
theorem wc_X5_61 : cw_V RX5 61 RX5 yX5_speaker cX5_speaker 5 (some .int) 1 := ⟨List.mem_of_getElem? (i := 865) (by decide +kernel), List.mem_of_getElem? (i := 867) (by decide +kernel), List.mem_of_getElem? (i := 100) (by decide +kernel), List.mem_of_getElem? (i := 868) (by decide +kernel), ⟨by decide +kernel, by decide +kernel⟩, by decide +kernel, List.mem_of_getElem? (i := 76) (by decide +kernel)⟩
theorem wc_X5_65 : cw_S RX5 65 yX5_lowest cX5_lowest 2 (some .int) 1 := ⟨List.mem_of_getElem? (i := 869) (by decide +kernel), List.mem_of_getElem? (i := 870) (by decide +kernel), List.mem_of_getElem? (i := 100) (by decide +kernel), List.mem_of_getElem? (i := 871) (by decide +kernel), ⟨by decide +kernel, by decide +kernel⟩, by decide +kernel⟩
theorem wc_X5_68 : cw_V RX5 68 RX5 yX5_votes cX5_votes 5 (some .int) 2 := ⟨List.mem_of_getElem? (i := 849) (by decide +kernel), List.mem_of_getElem? (i := 851) (by decide +kernel), List.mem_of_getElem? (i := 100) (by decide +kernel), List.mem_of_getElem? (i := 852) (by decide +kernel), ⟨by decide +kernel, by decide +kernel⟩, by decide +kernel, List.mem_of_getElem? (i := 72) (by decide +kernel)⟩
theorem wc_X5_71 : cw_V RX5 71 RX5 yX5_allSeats cX5_allSeats 3 (some .int) 0 := ⟨List.mem_of_getElem? (i := 872) (by decide +kernel), List.mem_of_getElem? (i := 874) (by decide +kernel), List.mem_of_getElem? (i := 100) (by decide +kernel), List.mem_of_getElem? (i := 875) (by decide +kernel), ⟨by decide +kernel, by decide +kernel⟩, by decide +kernel, List.mem_of_getElem? (i := 77) (by decide +kernel)⟩
theorem wc_X5_75 : cw_V RX5 75 RX5 yX5_setOf cX5_setOf 4 none 3 := ⟨List.mem_of_getElem? (i := 766) (by decide +kernel), List.mem_of_getElem? (i := 768) (by decide +kernel), List.mem_of_getElem? (i := 100) (by decide +kernel), List.mem_of_getElem? (i := 769) (by decide +kernel), ⟨by decide +kernel, by decide +kernel⟩, by decide +kernel, List.mem_of_getElem? (i := 61) (by decide +kernel)⟩
theorem wc_X5_79 : cw_V RX5 79 RX5 yX5_crowsOn cX5_crowsOn 4 (some .int) 1 := ⟨List.mem_of_getElem? (i := 801) (by decide +kernel), List.mem_of_getElem? (i := 803) (by decide +kernel), List.mem_of_getElem? (i := 100) (by decide +kernel), List.mem_of_getElem? (i := 804) (by decide +kernel), ⟨by decide +kernel, by decide +kernel⟩, by decide +kernel, List.mem_of_getElem? (i := 66) (by decide +kernel)⟩
theorem wc_X5_82 : cw_V RX5 82 RX5 yX5_flyOff cX5_flyOff 3 none 1 := ⟨List.mem_of_getElem? (i := 809) (by decide +kernel), List.mem_of_getElem? (i := 811) (by decide +kernel), List.mem_of_getElem? (i := 100) (by decide +kernel), List.mem_of_getElem? (i := 812) (by decide +kernel), ⟨by decide +kernel, by decide +kernel⟩, by decide +kernel, List.mem_of_getElem? (i := 67) (by decide +kernel)⟩
theorem wc_X5_86 : cw_V RX5 86 RX5 yX5_blowOn cX5_blowOn 5 (some .int) 1 := ⟨List.mem_of_getElem? (i := 893) (by decide +kernel), List.mem_of_getElem? (i := 895) (by decide +kernel), List.mem_of_getElem? (i := 100) (by decide +kernel), List.mem_of_getElem? (i := 896) (by decide +kernel), ⟨by decide +kernel, by decide +kernel⟩, by decide +kernel, List.mem_of_getElem? (i := 81) (by decide +kernel)⟩
theorem wc_X5_89 : cw_V RX5 89 RX5 yX5_pluck cX5_pluck 5 none 1 := ⟨List.mem_of_getElem? (i := 897) (by decide +kernel), List.mem_of_getElem? (i := 899) (by decide +kernel), List.mem_of_getElem? (i := 100) (by decide +kernel), List.mem_of_getElem? (i := 900) (by decide +kernel), ⟨by decide +kernel, by decide +kernel⟩, by decide +kernel, List.mem_of_getElem? (i := 82) (by decide +kernel)⟩
theorem wc_X5_92 : cw_V RX5 92 RX5 yX5_passOne cX5_passOne 3 (some .int) 0 := ⟨List.mem_of_getElem? (i := 889) (by decide +kernel), List.mem_of_getElem? (i := 891) (by decide +kernel), List.mem_of_getElem? (i := 100) (by decide +kernel), List.mem_of_getElem? (i := 892) (by decide +kernel), ⟨by decide +kernel, by decide +kernel⟩, by decide +kernel, List.mem_of_getElem? (i := 80) (by decide +kernel)⟩
theorem wc_X5_95 : cw_V RX5 95 RX5 yX5_isScarecrow cX5_isScarecrow 2 (some .boolean) 1 := ⟨List.mem_of_getElem? (i := 781) (by decide +kernel), List.mem_of_getElem? (i := 783) (by decide +kernel), List.mem_of_getElem? (i := 100) (by decide +kernel), List.mem_of_getElem? (i := 784) (by decide +kernel), ⟨by decide +kernel, by decide +kernel⟩, by decide +kernel, List.mem_of_getElem? (i := 63) (by decide +kernel)⟩
theorem wc_X5_98 : cw_S RX5 98 yX5_isWay cX5_isWay 1 (some .boolean) 1 := ⟨List.mem_of_getElem? (i := 763) (by decide +kernel), List.mem_of_getElem? (i := 764) (by decide +kernel), List.mem_of_getElem? (i := 100) (by decide +kernel), List.mem_of_getElem? (i := 765) (by decide +kernel), ⟨by decide +kernel, by decide +kernel⟩, by decide +kernel⟩
theorem wc_X5_101 : cw_V RX5 101 RX5 yX5_decides cX5_decides 5 (some .int) 1 := ⟨List.mem_of_getElem? (i := 845) (by decide +kernel), List.mem_of_getElem? (i := 847) (by decide +kernel), List.mem_of_getElem? (i := 100) (by decide +kernel), List.mem_of_getElem? (i := 848) (by decide +kernel), ⟨by decide +kernel, by decide +kernel⟩, by decide +kernel, List.mem_of_getElem? (i := 71) (by decide +kernel)⟩
theorem wc_X5_105 : cw_V RX5 105 RX5 yX5_passMany cX5_passMany 4 (some .int) 1 := ⟨List.mem_of_getElem? (i := 885) (by decide +kernel), List.mem_of_getElem? (i := 887) (by decide +kernel), List.mem_of_getElem? (i := 100) (by decide +kernel), List.mem_of_getElem? (i := 888) (by decide +kernel), ⟨by decide +kernel, by decide +kernel⟩, by decide +kernel, List.mem_of_getElem? (i := 79) (by decide +kernel)⟩
theorem wc_X5_108 : cw_S RX5 108 yX5_isField cX5_isField 1 (some .boolean) 1 := ⟨List.mem_of_getElem? (i := 757) (by decide +kernel), List.mem_of_getElem? (i := 758) (by decide +kernel), List.mem_of_getElem? (i := 100) (by decide +kernel), List.mem_of_getElem? (i := 759) (by decide +kernel), ⟨by decide +kernel, by decide +kernel⟩, by decide +kernel⟩
theorem wc_X5_111 : cw_V RX5 111 RX5 yX5_recorded cX5_recorded 2 (some .int) 1 := ⟨List.mem_of_getElem? (i := 770) (by decide +kernel), List.mem_of_getElem? (i := 772) (by decide +kernel), List.mem_of_getElem? (i := 100) (by decide +kernel), List.mem_of_getElem? (i := 773) (by decide +kernel), ⟨by decide +kernel, by decide +kernel⟩, by decide +kernel, List.mem_of_getElem? (i := 62) (by decide +kernel)⟩
theorem wc_X5_114 : cw_V RX5 114 RX5 yX5_doCrow cX5_doCrow 3 (some .int) 2 := ⟨List.mem_of_getElem? (i := 797) (by decide +kernel), List.mem_of_getElem? (i := 799) (by decide +kernel), List.mem_of_getElem? (i := 100) (by decide +kernel), List.mem_of_getElem? (i := 800) (by decide +kernel), ⟨by decide +kernel, by decide +kernel⟩, by decide +kernel, List.mem_of_getElem? (i := 65) (by decide +kernel)⟩
theorem wc_X5_117 : cw_V RX5 117 RX5 yX5_doFill cX5_doFill 5 (some .int) 2 := ⟨List.mem_of_getElem? (i := 817) (by decide +kernel), List.mem_of_getElem? (i := 819) (by decide +kernel), List.mem_of_getElem? (i := 100) (by decide +kernel), List.mem_of_getElem? (i := 820) (by decide +kernel), ⟨by decide +kernel, by decide +kernel⟩, by decide +kernel, List.mem_of_getElem? (i := 68) (by decide +kernel)⟩
theorem wc_X5_120 : cw_V RX5 120 RX5 yX5_doWind cX5_doWind 4 (some .int) 2 := ⟨List.mem_of_getElem? (i := 829) (by decide +kernel), List.mem_of_getElem? (i := 831) (by decide +kernel), List.mem_of_getElem? (i := 100) (by decide +kernel), List.mem_of_getElem? (i := 832) (by decide +kernel), ⟨by decide +kernel, by decide +kernel⟩, by decide +kernel, List.mem_of_getElem? (i := 69) (by decide +kernel)⟩
theorem wc_X5_123 : cw_V RX5 123 RX5 yX5_doVote cX5_doVote 2 (some .int) 0 := ⟨List.mem_of_getElem? (i := 841) (by decide +kernel), List.mem_of_getElem? (i := 843) (by decide +kernel), List.mem_of_getElem? (i := 100) (by decide +kernel), List.mem_of_getElem? (i := 844) (by decide +kernel), ⟨by decide +kernel, by decide +kernel⟩, by decide +kernel, List.mem_of_getElem? (i := 70) (by decide +kernel)⟩
theorem wc_X5_126 : cw_V RX5 126 RX5 yX5_doPass cX5_doPass 2 (some .int) 1 := ⟨List.mem_of_getElem? (i := 880) (by decide +kernel), List.mem_of_getElem? (i := 882) (by decide +kernel), List.mem_of_getElem? (i := 100) (by decide +kernel), List.mem_of_getElem? (i := 883) (by decide +kernel), ⟨by decide +kernel, by decide +kernel⟩, by decide +kernel, List.mem_of_getElem? (i := 78) (by decide +kernel)⟩
theorem wf_X5_129 : Cond.fieldLink RX5 129 RX5 (TX5 7).2.1 (TX5 7).2.2.1 ∈ lw_tbl := List.mem_of_getElem? (i := 697) (by decide +kernel)
theorem wf_X5_132 : Cond.fieldLink RX5 132 RX5 (TX5 8).2.1 (TX5 8).2.2.1 ∈ lw_tbl := List.mem_of_getElem? (i := 698) (by decide +kernel)
theorem wc_X5_135 : cw_V RX5 135 RX5 yX5_code cX5_code 1 (some .int) 0 := ⟨List.mem_of_getElem? (i := 921) (by decide +kernel), List.mem_of_getElem? (i := 923) (by decide +kernel), List.mem_of_getElem? (i := 100) (by decide +kernel), List.mem_of_getElem? (i := 924) (by decide +kernel), ⟨by decide +kernel, by decide +kernel⟩, by decide +kernel, List.mem_of_getElem? (i := 85) (by decide +kernel)⟩
theorem wc_X5_138 : cw_V RX5 138 RX5 yX5_readNumber cX5_readNumber 5 (some .int) 2 := ⟨List.mem_of_getElem? (i := 929) (by decide +kernel), List.mem_of_getElem? (i := 931) (by decide +kernel), List.mem_of_getElem? (i := 100) (by decide +kernel), List.mem_of_getElem? (i := 932) (by decide +kernel), ⟨by decide +kernel, by decide +kernel⟩, by decide +kernel, List.mem_of_getElem? (i := 87) (by decide +kernel)⟩
theorem wf_X5_141 : Cond.fieldLink RX5 141 RX5 (TX5 10).2.1 (TX5 10).2.2.1 ∈ lw_tbl := List.mem_of_getElem? (i := 700) (by decide +kernel)
theorem wc_X5_144 : cw_V RX5 144 RX5 yX5_takes cX5_takes 3 (some .boolean) 1 := ⟨List.mem_of_getElem? (i := 933) (by decide +kernel), List.mem_of_getElem? (i := 935) (by decide +kernel), List.mem_of_getElem? (i := 100) (by decide +kernel), List.mem_of_getElem? (i := 936) (by decide +kernel), ⟨by decide +kernel, by decide +kernel⟩, by decide +kernel, List.mem_of_getElem? (i := 88) (by decide +kernel)⟩
theorem wf_X5_147 : Cond.fieldLink RX5 147 RX5 (TX5 11).2.1 (TX5 11).2.2.1 ∈ lw_tbl := List.mem_of_getElem? (i := 701) (by decide +kernel)
theorem wf_X5_150 : Cond.fieldLink RX5 150 RX5 (TX5 9).2.1 (TX5 9).2.2.1 ∈ lw_tbl := List.mem_of_getElem? (i := 699) (by decide +kernel)
theorem wc_X5_153 : cw_V RX5 153 RX5 yX5_readsBoth cX5_readsBoth 5 (some .boolean) 4 := ⟨List.mem_of_getElem? (i := 925) (by decide +kernel), List.mem_of_getElem? (i := 927) (by decide +kernel), List.mem_of_getElem? (i := 100) (by decide +kernel), List.mem_of_getElem? (i := 928) (by decide +kernel), ⟨by decide +kernel, by decide +kernel⟩, by decide +kernel, List.mem_of_getElem? (i := 86) (by decide +kernel)⟩
theorem wc_X5_157 : cw_V RX5 157 RX5 yX5_readsThing cX5_readsThing 1 (some .boolean) 0 := ⟨List.mem_of_getElem? (i := 917) (by decide +kernel), List.mem_of_getElem? (i := 919) (by decide +kernel), List.mem_of_getElem? (i := 100) (by decide +kernel), List.mem_of_getElem? (i := 920) (by decide +kernel), ⟨by decide +kernel, by decide +kernel⟩, by decide +kernel, List.mem_of_getElem? (i := 84) (by decide +kernel)⟩
theorem wc_X5_161 : cw_V RX5 161 RX5 yX5_findFault cX5_findFault 1 (some .int) 0 := ⟨List.mem_of_getElem? (i := 913) (by decide +kernel), List.mem_of_getElem? (i := 915) (by decide +kernel), List.mem_of_getElem? (i := 100) (by decide +kernel), List.mem_of_getElem? (i := 916) (by decide +kernel), ⟨by decide +kernel, by decide +kernel⟩, by decide +kernel, List.mem_of_getElem? (i := 83) (by decide +kernel)⟩
theorem wc_X5_164 : cw_V RX5 164 RX5 yX5_doThing cX5_doThing 1 (some .int) 0 := ⟨List.mem_of_getElem? (i := 937) (by decide +kernel), List.mem_of_getElem? (i := 939) (by decide +kernel), List.mem_of_getElem? (i := 100) (by decide +kernel), List.mem_of_getElem? (i := 940) (by decide +kernel), ⟨by decide +kernel, by decide +kernel⟩, by decide +kernel, List.mem_of_getElem? (i := 89) (by decide +kernel)⟩
theorem wc_X5_167 : cw_V RX5 167 RX5 yX5_takeBack cX5_takeBack 2 none 0 := ⟨List.mem_of_getElem? (i := 941) (by decide +kernel), List.mem_of_getElem? (i := 943) (by decide +kernel), List.mem_of_getElem? (i := 100) (by decide +kernel), List.mem_of_getElem? (i := 944) (by decide +kernel), ⟨by decide +kernel, by decide +kernel⟩, by decide +kernel, List.mem_of_getElem? (i := 90) (by decide +kernel)⟩
theorem wf_X5_170 : Cond.fieldLink RX5 170 RX5 (TX5 12).2.1 (TX5 12).2.2.1 ∈ lw_tbl := List.mem_of_getElem? (i := 702) (by decide +kernel)
theorem wf_X5_173 : Cond.fieldLink RX5 173 RX5 (TX5 13).2.1 (TX5 13).2.2.1 ∈ lw_tbl := List.mem_of_getElem? (i := 703) (by decide +kernel)
theorem wc_X5_180 : cw_V RX5 180 RX5 yX5_standing cX5_standing 4 (some .int) 1 := ⟨List.mem_of_getElem? (i := 967) (by decide +kernel), List.mem_of_getElem? (i := 969) (by decide +kernel), List.mem_of_getElem? (i := 100) (by decide +kernel), List.mem_of_getElem? (i := 970) (by decide +kernel), ⟨by decide +kernel, by decide +kernel⟩, by decide +kernel, List.mem_of_getElem? (i := 91) (by decide +kernel)⟩
theorem wc_X5_183 : cw_V RX5 183 RX5 yX5_swingsWith cX5_swingsWith 6 (some .boolean) 2 := ⟨List.mem_of_getElem? (i := 983) (by decide +kernel), List.mem_of_getElem? (i := 985) (by decide +kernel), List.mem_of_getElem? (i := 100) (by decide +kernel), List.mem_of_getElem? (i := 986) (by decide +kernel), ⟨by decide +kernel, by decide +kernel⟩, by decide +kernel, List.mem_of_getElem? (i := 92) (by decide +kernel)⟩
theorem wc_X5_187 : cw_V RX5 187 RX5 yX5_sumOf cX5_sumOf 4 (some .int) 1 := ⟨List.mem_of_getElem? (i := 1003) (by decide +kernel), List.mem_of_getElem? (i := 1005) (by decide +kernel), List.mem_of_getElem? (i := 100) (by decide +kernel), List.mem_of_getElem? (i := 1006) (by decide +kernel), ⟨by decide +kernel, by decide +kernel⟩, by decide +kernel, List.mem_of_getElem? (i := 93) (by decide +kernel)⟩
theorem wo_X0_3 : Cond.methodLink RX0 3 objectInit ∈ lw_tbl := List.mem_of_getElem? (i := 236) (by decide +kernel)
theorem wf_X0_9 : Cond.fieldLink RX0 9 RX0 (TX0 1).2.1 (TX0 1).2.2.1 ∈ lw_tbl := List.mem_of_getElem? (i := 238) (by decide +kernel)
theorem wf_X0_15 : Cond.fieldLink RX0 15 RX0 (TX0 2).2.1 (TX0 2).2.2.1 ∈ lw_tbl := List.mem_of_getElem? (i := 240) (by decide +kernel)
theorem wf_X0_19 : Cond.fieldLink RX0 19 RX0 (TX0 0).2.1 (TX0 0).2.2.1 ∈ lw_tbl := List.mem_of_getElem? (i := 237) (by decide +kernel)
theorem wf_X0_23 : Cond.fieldLinkNest RX0 23 RX1 (TX1 10).2.1 (TX1 10).2.2.1 "StrawHouse" ∈ lw_tbl := List.mem_of_getElem? (i := 137) (by decide +kernel)
theorem wf_X0_29 : Cond.fieldLinkNest RX0 29 RX1 (TX1 0).2.1 (TX1 0).2.2.1 "StrawHouse" ∈ lw_tbl := List.mem_of_getElem? (i := 118) (by decide +kernel)
theorem wf_X0_32 : Cond.fieldLinkNest RX0 32 RX1 (TX1 3).2.1 (TX1 3).2.2.1 "StrawHouse" ∈ lw_tbl := List.mem_of_getElem? (i := 124) (by decide +kernel)
theorem wc_X0_35 : cw_VN RX0 35 RX1 yX1_strawAsFloat "StrawHouse" cX1_strawAsFloat 2 (some .float) 1 := ⟨List.mem_of_getElem? (i := 432) (by decide +kernel), List.mem_of_getElem? (i := 434) (by decide +kernel), List.mem_of_getElem? (i := 96) (by decide +kernel), List.mem_of_getElem? (i := 435) (by decide +kernel), ⟨by decide +kernel, by decide +kernel⟩, by decide +kernel, List.mem_of_getElem? (i := 21) (by decide +kernel)⟩
theorem wf_X0_39 : Cond.fieldLinkNest RX0 39 RX1 (TX1 1).2.1 (TX1 1).2.2.1 "StrawHouse" ∈ lw_tbl := List.mem_of_getElem? (i := 121) (by decide +kernel)
theorem wc_X0_42 : cw_VN RX0 42 RX1 yX1_lobbyFor "StrawHouse" cX1_lobbyFor 3 (some .float) 2 := ⟨List.mem_of_getElem? (i := 437) (by decide +kernel), List.mem_of_getElem? (i := 439) (by decide +kernel), List.mem_of_getElem? (i := 96) (by decide +kernel), List.mem_of_getElem? (i := 440) (by decide +kernel), ⟨by decide +kernel, by decide +kernel⟩, by decide +kernel, List.mem_of_getElem? (i := 22) (by decide +kernel)⟩
theorem wc_X0_46 : cw_S RX0 46 yX0_speaksBefore cX0_speaksBefore 3 (some .boolean) 3 := ⟨List.mem_of_getElem? (i := 425) (by decide +kernel), List.mem_of_getElem? (i := 426) (by decide +kernel), List.mem_of_getElem? (i := 99) (by decide +kernel), List.mem_of_getElem? (i := 427) (by decide +kernel), ⟨by decide +kernel, by decide +kernel⟩, by decide +kernel⟩
theorem wf_X0_50 : Cond.fieldLinkNest RX0 50 RX1 (TX1 4).2.1 (TX1 4).2.2.1 "StrawHouse" ∈ lw_tbl := List.mem_of_getElem? (i := 127) (by decide +kernel)
theorem wc_X0_53 : cw_V RX0 53 RX0 yX0_speakerOf cX0_speakerOf 5 (some .int) 2 := ⟨List.mem_of_getElem? (i := 421) (by decide +kernel), List.mem_of_getElem? (i := 423) (by decide +kernel), List.mem_of_getElem? (i := 99) (by decide +kernel), List.mem_of_getElem? (i := 424) (by decide +kernel), ⟨by decide +kernel, by decide +kernel⟩, by decide +kernel, List.mem_of_getElem? (i := 19) (by decide +kernel)⟩
theorem wc_X0_57 : cw_V RX0 57 RX0 yX0_weigh cX0_weigh 5 none 2 := ⟨List.mem_of_getElem? (i := 428) (by decide +kernel), List.mem_of_getElem? (i := 430) (by decide +kernel), List.mem_of_getElem? (i := 99) (by decide +kernel), List.mem_of_getElem? (i := 431) (by decide +kernel), ⟨by decide +kernel, by decide +kernel⟩, by decide +kernel, List.mem_of_getElem? (i := 20) (by decide +kernel)⟩
theorem wc_X0_61 : cw_V RX0 61 RX0 yX0_greatestWeight cX0_greatestWeight 3 (some .float) 0 := ⟨List.mem_of_getElem? (i := 442) (by decide +kernel), List.mem_of_getElem? (i := 444) (by decide +kernel), List.mem_of_getElem? (i := 99) (by decide +kernel), List.mem_of_getElem? (i := 445) (by decide +kernel), ⟨by decide +kernel, by decide +kernel⟩, by decide +kernel, List.mem_of_getElem? (i := 23) (by decide +kernel)⟩
theorem wc_X0_65 : cw_V RX0 65 RX0 yX0_lowestOf cX0_lowestOf 3 (some .int) 1 := ⟨List.mem_of_getElem? (i := 446) (by decide +kernel), List.mem_of_getElem? (i := 448) (by decide +kernel), List.mem_of_getElem? (i := 99) (by decide +kernel), List.mem_of_getElem? (i := 449) (by decide +kernel), ⟨by decide +kernel, by decide +kernel⟩, by decide +kernel, List.mem_of_getElem? (i := 24) (by decide +kernel)⟩
theorem wc_X0_69 : cw_V RX0 69 RX0 yX0_howManyOf cX0_howManyOf 4 (some .int) 1 := ⟨List.mem_of_getElem? (i := 634) (by decide +kernel), List.mem_of_getElem? (i := 636) (by decide +kernel), List.mem_of_getElem? (i := 99) (by decide +kernel), List.mem_of_getElem? (i := 637) (by decide +kernel), ⟨by decide +kernel, by decide +kernel⟩, by decide +kernel, List.mem_of_getElem? (i := 54) (by decide +kernel)⟩
theorem wc_X0_72 : cw_V RX0 72 RX0 yX0_voteOf cX0_voteOf 6 (some .int) 2 := ⟨List.mem_of_getElem? (i := 417) (by decide +kernel), List.mem_of_getElem? (i := 419) (by decide +kernel), List.mem_of_getElem? (i := 99) (by decide +kernel), List.mem_of_getElem? (i := 420) (by decide +kernel), ⟨by decide +kernel, by decide +kernel⟩, by decide +kernel, List.mem_of_getElem? (i := 18) (by decide +kernel)⟩
theorem wc_X0_75 : cw_V RX0 75 RX0 yX0_poll cX0_poll 3 none 1 := ⟨List.mem_of_getElem? (i := 413) (by decide +kernel), List.mem_of_getElem? (i := 415) (by decide +kernel), List.mem_of_getElem? (i := 99) (by decide +kernel), List.mem_of_getElem? (i := 416) (by decide +kernel), ⟨by decide +kernel, by decide +kernel⟩, by decide +kernel, List.mem_of_getElem? (i := 17) (by decide +kernel)⟩
theorem wc_X0_79 : cw_V RX0 79 RX0 yX0_bySeats cX0_bySeats 3 (some .int) 1 := ⟨List.mem_of_getElem? (i := 450) (by decide +kernel), List.mem_of_getElem? (i := 452) (by decide +kernel), List.mem_of_getElem? (i := 99) (by decide +kernel), List.mem_of_getElem? (i := 453) (by decide +kernel), ⟨by decide +kernel, by decide +kernel⟩, by decide +kernel, List.mem_of_getElem? (i := 25) (by decide +kernel)⟩
theorem wc_X0_83 : cw_V RX0 83 RX0 yX0_hasMajority cX0_hasMajority 5 (some .boolean) 2 := ⟨List.mem_of_getElem? (i := 454) (by decide +kernel), List.mem_of_getElem? (i := 456) (by decide +kernel), List.mem_of_getElem? (i := 99) (by decide +kernel), List.mem_of_getElem? (i := 457) (by decide +kernel), ⟨by decide +kernel, by decide +kernel⟩, by decide +kernel, List.mem_of_getElem? (i := 26) (by decide +kernel)⟩
theorem wc_X0_87 : cw_V RX0 87 RX0 yX0_leftByPairs cX0_leftByPairs 6 (some .int) 1 := ⟨List.mem_of_getElem? (i := 646) (by decide +kernel), List.mem_of_getElem? (i := 648) (by decide +kernel), List.mem_of_getElem? (i := 99) (by decide +kernel), List.mem_of_getElem? (i := 649) (by decide +kernel), ⟨by decide +kernel, by decide +kernel⟩, by decide +kernel, List.mem_of_getElem? (i := 56) (by decide +kernel)⟩
theorem wc_X0_90 : cw_SN RX0 90 yX4_isWay "StrawHouse" cX4_isWay 1 (some .boolean) 1 := ⟨List.mem_of_getElem? (i := 650) (by decide +kernel), List.mem_of_getElem? (i := 312) (by decide +kernel), List.mem_of_getElem? (i := 95) (by decide +kernel), List.mem_of_getElem? (i := 313) (by decide +kernel), ⟨by decide +kernel, by decide +kernel⟩, by decide +kernel⟩
theorem wf_X0_94 : Cond.fieldLinkNest RX0 94 RX1 (TX1 8).2.1 (TX1 8).2.2.1 "StrawHouse" ∈ lw_tbl := List.mem_of_getElem? (i := 134) (by decide +kernel)
theorem wc_X0_97 : cw_SN RX0 97 yX4_sumOf "StrawHouse" cX4_sumOf 3 (some .int) 1 := ⟨List.mem_of_getElem? (i := 458) (by decide +kernel), List.mem_of_getElem? (i := 459) (by decide +kernel), List.mem_of_getElem? (i := 95) (by decide +kernel), List.mem_of_getElem? (i := 460) (by decide +kernel), ⟨by decide +kernel, by decide +kernel⟩, by decide +kernel⟩
theorem wo_X1_3 : Cond.methodLink RX1 3 objectInit ∈ lw_tbl := List.mem_of_getElem? (i := 116) (by decide +kernel)
theorem wf_X1_9 : Cond.fieldLink RX1 9 RX1 (TX1 0).2.1 (TX1 0).2.2.1 ∈ lw_tbl := List.mem_of_getElem? (i := 117) (by decide +kernel)
theorem wf_X1_15 : Cond.fieldLink RX1 15 RX1 (TX1 1).2.1 (TX1 1).2.2.1 ∈ lw_tbl := List.mem_of_getElem? (i := 120) (by decide +kernel)
theorem wf_X1_18 : Cond.fieldLink RX1 18 RX1 (TX1 2).2.1 (TX1 2).2.2.1 ∈ lw_tbl := List.mem_of_getElem? (i := 122) (by decide +kernel)
theorem wf_X1_21 : Cond.fieldLink RX1 21 RX1 (TX1 3).2.1 (TX1 3).2.2.1 ∈ lw_tbl := List.mem_of_getElem? (i := 123) (by decide +kernel)
theorem wf_X1_24 : Cond.fieldLink RX1 24 RX1 (TX1 4).2.1 (TX1 4).2.2.1 ∈ lw_tbl := List.mem_of_getElem? (i := 126) (by decide +kernel)
theorem wf_X1_27 : Cond.fieldLink RX1 27 RX1 (TX1 5).2.1 (TX1 5).2.2.1 ∈ lw_tbl := List.mem_of_getElem? (i := 128) (by decide +kernel)
theorem wf_X1_30 : Cond.fieldLink RX1 30 RX1 (TX1 6).2.1 (TX1 6).2.2.1 ∈ lw_tbl := List.mem_of_getElem? (i := 130) (by decide +kernel)
theorem wf_X1_33 : Cond.fieldLink RX1 33 RX1 (TX1 7).2.1 (TX1 7).2.2.1 ∈ lw_tbl := List.mem_of_getElem? (i := 132) (by decide +kernel)
theorem wf_X1_36 : Cond.fieldLink RX1 36 RX1 (TX1 8).2.1 (TX1 8).2.2.1 ∈ lw_tbl := List.mem_of_getElem? (i := 133) (by decide +kernel)
theorem wf_X1_39 : Cond.fieldLink RX1 39 RX1 (TX1 9).2.1 (TX1 9).2.2.1 ∈ lw_tbl := List.mem_of_getElem? (i := 136) (by decide +kernel)
theorem wf_X1_42 : Cond.fieldLink RX1 42 RX1 (TX1 13).2.1 (TX1 13).2.2.1 ∈ lw_tbl := List.mem_of_getElem? (i := 142) (by decide +kernel)
theorem wf_X1_46 : Cond.fieldLink RX1 46 RX1 (TX1 16).2.1 (TX1 16).2.2.1 ∈ lw_tbl := List.mem_of_getElem? (i := 146) (by decide +kernel)
theorem wc_X1_49 : cw_SN RX1 49 yX4_copyRow "StrawHouse" cX4_copyRow 2 none 2 := ⟨List.mem_of_getElem? (i := 292) (by decide +kernel), List.mem_of_getElem? (i := 293) (by decide +kernel), List.mem_of_getElem? (i := 95) (by decide +kernel), List.mem_of_getElem? (i := 294) (by decide +kernel), ⟨by decide +kernel, by decide +kernel⟩, by decide +kernel⟩
theorem wf_X1_53 : Cond.fieldLink RX1 53 RX1 (TX1 10).2.1 (TX1 10).2.2.1 ∈ lw_tbl := List.mem_of_getElem? (i := 138) (by decide +kernel)
theorem wf_X1_56 : Cond.fieldLink RX1 56 RX1 (TX1 11).2.1 (TX1 11).2.2.1 ∈ lw_tbl := List.mem_of_getElem? (i := 140) (by decide +kernel)
theorem wf_X1_59 : Cond.fieldLink RX1 59 RX1 (TX1 12).2.1 (TX1 12).2.2.1 ∈ lw_tbl := List.mem_of_getElem? (i := 141) (by decide +kernel)
theorem wf_X1_62 : Cond.fieldLink RX1 62 RX1 (TX1 14).2.1 (TX1 14).2.2.1 ∈ lw_tbl := List.mem_of_getElem? (i := 143) (by decide +kernel)
theorem wf_X1_65 : Cond.fieldLink RX1 65 RX1 (TX1 15).2.1 (TX1 15).2.2.1 ∈ lw_tbl := List.mem_of_getElem? (i := 145) (by decide +kernel)
theorem wc_X1_68 : cw_SN RX1 68 yX4_isField "StrawHouse" cX4_isField 1 (some .boolean) 1 := ⟨List.mem_of_getElem? (i := 305) (by decide +kernel), List.mem_of_getElem? (i := 306) (by decide +kernel), List.mem_of_getElem? (i := 95) (by decide +kernel), List.mem_of_getElem? (i := 307) (by decide +kernel), ⟨by decide +kernel, by decide +kernel⟩, by decide +kernel⟩
theorem wc_X1_72 : cw_SN RX1 72 yX4_isWay "StrawHouse" cX4_isWay 1 (some .boolean) 1 := ⟨List.mem_of_getElem? (i := 311) (by decide +kernel), List.mem_of_getElem? (i := 312) (by decide +kernel), List.mem_of_getElem? (i := 95) (by decide +kernel), List.mem_of_getElem? (i := 313) (by decide +kernel), ⟨by decide +kernel, by decide +kernel⟩, by decide +kernel⟩
theorem wc_X1_75 : cw_SN RX1 75 yX4_isIn "StrawHouse" cX4_isIn 3 (some .boolean) 3 := ⟨List.mem_of_getElem? (i := 314) (by decide +kernel), List.mem_of_getElem? (i := 309) (by decide +kernel), List.mem_of_getElem? (i := 95) (by decide +kernel), List.mem_of_getElem? (i := 310) (by decide +kernel), ⟨by decide +kernel, by decide +kernel⟩, by decide +kernel⟩
theorem wc_X1_79 : cw_V RX1 79 RX1 yX1_isScarecrow cX1_isScarecrow 2 (some .boolean) 1 := ⟨List.mem_of_getElem? (i := 336) (by decide +kernel), List.mem_of_getElem? (i := 338) (by decide +kernel), List.mem_of_getElem? (i := 96) (by decide +kernel), List.mem_of_getElem? (i := 339) (by decide +kernel), ⟨by decide +kernel, by decide +kernel⟩, by decide +kernel, List.mem_of_getElem? (i := 6) (by decide +kernel)⟩
theorem wc_X1_82 : cw_V RX1 82 RX1 yX1_crowsOn cX1_crowsOn 4 (some .int) 1 := ⟨List.mem_of_getElem? (i := 356) (by decide +kernel), List.mem_of_getElem? (i := 358) (by decide +kernel), List.mem_of_getElem? (i := 96) (by decide +kernel), List.mem_of_getElem? (i := 359) (by decide +kernel), ⟨by decide +kernel, by decide +kernel⟩, by decide +kernel, List.mem_of_getElem? (i := 9) (by decide +kernel)⟩
theorem wc_X1_86 : cw_V RX1 86 RX1 yX1_letCrowsFly cX1_letCrowsFly 3 none 1 := ⟨List.mem_of_getElem? (i := 368) (by decide +kernel), List.mem_of_getElem? (i := 370) (by decide +kernel), List.mem_of_getElem? (i := 96) (by decide +kernel), List.mem_of_getElem? (i := 371) (by decide +kernel), ⟨by decide +kernel, by decide +kernel⟩, by decide +kernel, List.mem_of_getElem? (i := 11) (by decide +kernel)⟩
theorem wo_X1_90 : Cond.methodLink RX1 90 Lib.Math.min.name ∈ lw_tbl := List.mem_of_getElem? (i := 380) (by decide +kernel)
theorem wc_X1_97 : cw_V RX1 97 RX1 yX1_doTicks cX1_doTicks 4 (some .int) 1 := ⟨List.mem_of_getElem? (i := 474) (by decide +kernel), List.mem_of_getElem? (i := 476) (by decide +kernel), List.mem_of_getElem? (i := 96) (by decide +kernel), List.mem_of_getElem? (i := 477) (by decide +kernel), ⟨by decide +kernel, by decide +kernel⟩, by decide +kernel, List.mem_of_getElem? (i := 29) (by decide +kernel)⟩
theorem wc_X1_100 : cw_V RX1 100 RX1 yX1_doTick cX1_doTick 3 (some .int) 0 := ⟨List.mem_of_getElem? (i := 478) (by decide +kernel), List.mem_of_getElem? (i := 480) (by decide +kernel), List.mem_of_getElem? (i := 96) (by decide +kernel), List.mem_of_getElem? (i := 481) (by decide +kernel), ⟨by decide +kernel, by decide +kernel⟩, by decide +kernel, List.mem_of_getElem? (i := 30) (by decide +kernel)⟩
theorem wc_X1_104 : cw_V RX1 104 RX1 yX1_turnByWind cX1_turnByWind 4 (some .int) 1 := ⟨List.mem_of_getElem? (i := 482) (by decide +kernel), List.mem_of_getElem? (i := 484) (by decide +kernel), List.mem_of_getElem? (i := 96) (by decide +kernel), List.mem_of_getElem? (i := 485) (by decide +kernel), ⟨by decide +kernel, by decide +kernel⟩, by decide +kernel, List.mem_of_getElem? (i := 31) (by decide +kernel)⟩
theorem wc_X1_107 : cw_V RX1 107 RX1 yX1_pluck cX1_pluck 3 none 1 := ⟨List.mem_of_getElem? (i := 486) (by decide +kernel), List.mem_of_getElem? (i := 488) (by decide +kernel), List.mem_of_getElem? (i := 96) (by decide +kernel), List.mem_of_getElem? (i := 489) (by decide +kernel), ⟨by decide +kernel, by decide +kernel⟩, by decide +kernel, List.mem_of_getElem? (i := 32) (by decide +kernel)⟩
theorem wc_X1_110 : cw_V RX1 110 RX1 yX1_shiftWind cX1_shiftWind 2 none 0 := ⟨List.mem_of_getElem? (i := 490) (by decide +kernel), List.mem_of_getElem? (i := 492) (by decide +kernel), List.mem_of_getElem? (i := 96) (by decide +kernel), List.mem_of_getElem? (i := 493) (by decide +kernel), ⟨by decide +kernel, by decide +kernel⟩, by decide +kernel, List.mem_of_getElem? (i := 33) (by decide +kernel)⟩
theorem wc_X1_115 : cw_SN RX1 115 yX4_sumOf "StrawHouse" cX4_sumOf 3 (some .int) 1 := ⟨List.mem_of_getElem? (i := 683) (by decide +kernel), List.mem_of_getElem? (i := 459) (by decide +kernel), List.mem_of_getElem? (i := 95) (by decide +kernel), List.mem_of_getElem? (i := 460) (by decide +kernel), ⟨by decide +kernel, by decide +kernel⟩, by decide +kernel⟩
theorem wo_X2_3 : Cond.methodLink RX2 3 objectInit ∈ lw_tbl := List.mem_of_getElem? (i := 188) (by decide +kernel)
theorem wk_X2_9 : Cond.classLink RX2 9 RX1 ∈ lw_tbl := List.mem_of_getElem? (i := 189) (by decide +kernel)
theorem wf_X2_11 : Cond.fieldLink RX2 11 RX2 (TX2 0).2.1 (TX2 0).2.2.1 ∈ lw_tbl := List.mem_of_getElem? (i := 192) (by decide +kernel)
theorem wc_X2_17 : cw_IN RX2 17 yX1_init "StrawHouse" cX1_init 2 none 0 := ⟨List.mem_of_getElem? (i := 191) (by decide +kernel), List.mem_of_getElem? (i := 114) (by decide +kernel), List.mem_of_getElem? (i := 96) (by decide +kernel), List.mem_of_getElem? (i := 115) (by decide +kernel), ⟨by decide +kernel, by decide +kernel⟩, by decide +kernel, rfl⟩
theorem wf_X2_18 : Cond.fieldLink RX2 18 RX2 (TX2 1).2.1 (TX2 1).2.2.1 ∈ lw_tbl := List.mem_of_getElem? (i := 193) (by decide +kernel)
theorem wc_X2_22 : cw_V RX2 22 RX2 yX2_dropOldest cX2_dropOldest 3 none 0 := ⟨List.mem_of_getElem? (i := 323) (by decide +kernel), List.mem_of_getElem? (i := 325) (by decide +kernel), List.mem_of_getElem? (i := 97) (by decide +kernel), List.mem_of_getElem? (i := 326) (by decide +kernel), ⟨by decide +kernel, by decide +kernel⟩, by decide +kernel, List.mem_of_getElem? (i := 4) (by decide +kernel)⟩
theorem wc_X2_25 : cw_VN RX2 25 RX1 yX1_become "StrawHouse" cX1_become 2 none 1 := ⟨List.mem_of_getElem? (i := 327) (by decide +kernel), List.mem_of_getElem? (i := 290) (by decide +kernel), List.mem_of_getElem? (i := 96) (by decide +kernel), List.mem_of_getElem? (i := 291) (by decide +kernel), ⟨by decide +kernel, by decide +kernel⟩, by decide +kernel, List.mem_of_getElem? (i := 0) (by decide +kernel)⟩
theorem wo_X3_3 : Cond.methodLink RX3 3 objectInit ∈ lw_tbl := List.mem_of_getElem? (i := 205) (by decide +kernel)
theorem wf_X3_9 : Cond.fieldLink RX3 9 RX3 (TX3 0).2.1 (TX3 0).2.2.1 ∈ lw_tbl := List.mem_of_getElem? (i := 206) (by decide +kernel)
theorem wf_X3_15 : Cond.fieldLink RX3 15 RX3 (TX3 1).2.1 (TX3 1).2.2.1 ∈ lw_tbl := List.mem_of_getElem? (i := 207) (by decide +kernel)
theorem wf_X3_19 : Cond.fieldLink RX3 19 RX3 (TX3 2).2.1 (TX3 2).2.2.1 ∈ lw_tbl := List.mem_of_getElem? (i := 208) (by decide +kernel)
theorem wf_X3_22 : Cond.fieldLink RX3 22 RX3 (TX3 3).2.1 (TX3 3).2.2.1 ∈ lw_tbl := List.mem_of_getElem? (i := 209) (by decide +kernel)
theorem wf_X3_25 : Cond.fieldLink RX3 25 RX3 (TX3 4).2.1 (TX3 4).2.2.1 ∈ lw_tbl := List.mem_of_getElem? (i := 210) (by decide +kernel)
theorem wc_X3_29 : cw_SN RX3 29 yX4_isIn "StrawHouse" cX4_isIn 3 (some .boolean) 3 := ⟨List.mem_of_getElem? (i := 538) (by decide +kernel), List.mem_of_getElem? (i := 309) (by decide +kernel), List.mem_of_getElem? (i := 95) (by decide +kernel), List.mem_of_getElem? (i := 310) (by decide +kernel), ⟨by decide +kernel, by decide +kernel⟩, by decide +kernel⟩
theorem wf_X3_33 : Cond.fieldLink RX3 33 RX3 (TX3 6).2.1 (TX3 6).2.2.1 ∈ lw_tbl := List.mem_of_getElem? (i := 214) (by decide +kernel)
theorem wf_X3_36 : Cond.fieldLink RX3 36 RX3 (TX3 5).2.1 (TX3 5).2.2.1 ∈ lw_tbl := List.mem_of_getElem? (i := 212) (by decide +kernel)
theorem wc_X3_39 : cw_V RX3 39 RX3 yX3_readThing cX3_readThing 1 (some .boolean) 0 := ⟨List.mem_of_getElem? (i := 518) (by decide +kernel), List.mem_of_getElem? (i := 520) (by decide +kernel), List.mem_of_getElem? (i := 98) (by decide +kernel), List.mem_of_getElem? (i := 521) (by decide +kernel), ⟨by decide +kernel, by decide +kernel⟩, by decide +kernel, List.mem_of_getElem? (i := 37) (by decide +kernel)⟩
theorem wc_X3_43 : cw_V RX3 43 RX3 yX3_readSign cX3_readSign 2 (some .boolean) 1 := ⟨List.mem_of_getElem? (i := 539) (by decide +kernel), List.mem_of_getElem? (i := 541) (by decide +kernel), List.mem_of_getElem? (i := 98) (by decide +kernel), List.mem_of_getElem? (i := 542) (by decide +kernel), ⟨by decide +kernel, by decide +kernel⟩, by decide +kernel, List.mem_of_getElem? (i := 42) (by decide +kernel)⟩
theorem wc_X3_47 : cw_V RX3 47 RX3 yX3_characterAt cX3_characterAt 2 (some .int) 1 := ⟨List.mem_of_getElem? (i := 522) (by decide +kernel), List.mem_of_getElem? (i := 524) (by decide +kernel), List.mem_of_getElem? (i := 98) (by decide +kernel), List.mem_of_getElem? (i := 525) (by decide +kernel), ⟨by decide +kernel, by decide +kernel⟩, by decide +kernel, List.mem_of_getElem? (i := 38) (by decide +kernel)⟩
theorem wc_X3_51 : cw_V RX3 51 RX3 yX3_readPair cX3_readPair 8 (some .boolean) 4 := ⟨List.mem_of_getElem? (i := 526) (by decide +kernel), List.mem_of_getElem? (i := 528) (by decide +kernel), List.mem_of_getElem? (i := 98) (by decide +kernel), List.mem_of_getElem? (i := 529) (by decide +kernel), ⟨by decide +kernel, by decide +kernel⟩, by decide +kernel, List.mem_of_getElem? (i := 39) (by decide +kernel)⟩
theorem wc_X3_55 : cw_V RX3 55 RX3 yX3_readVote cX3_readVote 1 (some .boolean) 0 := ⟨List.mem_of_getElem? (i := 547) (by decide +kernel), List.mem_of_getElem? (i := 549) (by decide +kernel), List.mem_of_getElem? (i := 98) (by decide +kernel), List.mem_of_getElem? (i := 550) (by decide +kernel), ⟨by decide +kernel, by decide +kernel⟩, by decide +kernel, List.mem_of_getElem? (i := 44) (by decide +kernel)⟩
theorem wc_X3_58 : cw_V RX3 58 RX3 yX3_readTicks cX3_readTicks 2 (some .boolean) 0 := ⟨List.mem_of_getElem? (i := 551) (by decide +kernel), List.mem_of_getElem? (i := 553) (by decide +kernel), List.mem_of_getElem? (i := 98) (by decide +kernel), List.mem_of_getElem? (i := 554) (by decide +kernel), ⟨by decide +kernel, by decide +kernel⟩, by decide +kernel, List.mem_of_getElem? (i := 45) (by decide +kernel)⟩
theorem wc_X3_61 : cw_V RX3 61 RX3 yX3_readNumber cX3_readNumber 6 (some .int) 2 := ⟨List.mem_of_getElem? (i := 530) (by decide +kernel), List.mem_of_getElem? (i := 532) (by decide +kernel), List.mem_of_getElem? (i := 98) (by decide +kernel), List.mem_of_getElem? (i := 533) (by decide +kernel), ⟨by decide +kernel, by decide +kernel⟩, by decide +kernel, List.mem_of_getElem? (i := 40) (by decide +kernel)⟩
theorem wc_X3_65 : cw_V RX3 65 RX3 yX3_add cX3_add 4 (some .boolean) 3 := ⟨List.mem_of_getElem? (i := 543) (by decide +kernel), List.mem_of_getElem? (i := 545) (by decide +kernel), List.mem_of_getElem? (i := 98) (by decide +kernel), List.mem_of_getElem? (i := 546) (by decide +kernel), ⟨by decide +kernel, by decide +kernel⟩, by decide +kernel, List.mem_of_getElem? (i := 43) (by decide +kernel)⟩
theorem wc_X3_68 : cw_V RX3 68 RX3 yX3_digitAt cX3_digitAt 3 (some .int) 1 := ⟨List.mem_of_getElem? (i := 534) (by decide +kernel), List.mem_of_getElem? (i := 536) (by decide +kernel), List.mem_of_getElem? (i := 98) (by decide +kernel), List.mem_of_getElem? (i := 537) (by decide +kernel), ⟨by decide +kernel, by decide +kernel⟩, by decide +kernel, List.mem_of_getElem? (i := 41) (by decide +kernel)⟩
theorem wk_L_7 : Cond.classLink RL 7 RX4 ∈ lw_tbl := List.mem_of_getElem? (i := 103) (by decide +kernel)
theorem wc_L_9 : cw_I RL 9 yX4_init cX4_init 1 none 0 := ⟨List.mem_of_getElem? (i := 105) (by decide +kernel), List.mem_of_getElem? (i := 106) (by decide +kernel), List.mem_of_getElem? (i := 95) (by decide +kernel), List.mem_of_getElem? (i := 107) (by decide +kernel), ⟨by decide +kernel, by decide +kernel⟩, by decide +kernel, rfl⟩
theorem wk_L_10 : Cond.classLink RL 10 RX5 ∈ lw_tbl := List.mem_of_getElem? (i := 684) (by decide +kernel)
theorem wc_L_12 : cw_I RL 12 yX5_init cX5_init 2 none 0 := ⟨List.mem_of_getElem? (i := 686) (by decide +kernel), List.mem_of_getElem? (i := 687) (by decide +kernel), List.mem_of_getElem? (i := 100) (by decide +kernel), List.mem_of_getElem? (i := 688) (by decide +kernel), ⟨by decide +kernel, by decide +kernel⟩, by decide +kernel, rfl⟩
theorem wc_L_13 : cw_V RL 13 RX4 yX4_setUp cX4_setUp 5 (some .int) 4 := ⟨List.mem_of_getElem? (i := 284) (by decide +kernel), List.mem_of_getElem? (i := 285) (by decide +kernel), List.mem_of_getElem? (i := 95) (by decide +kernel), List.mem_of_getElem? (i := 287) (by decide +kernel), ⟨by decide +kernel, by decide +kernel⟩, by decide +kernel, List.mem_of_getElem? (i := 286) (by decide +kernel)⟩
theorem wc_L_17 : cw_V RL 17 RX5 yX5_setUp cX5_setUp 6 (some .int) 4 := ⟨List.mem_of_getElem? (i := 753) (by decide +kernel), List.mem_of_getElem? (i := 754) (by decide +kernel), List.mem_of_getElem? (i := 100) (by decide +kernel), List.mem_of_getElem? (i := 756) (by decide +kernel), ⟨by decide +kernel, by decide +kernel⟩, by decide +kernel, List.mem_of_getElem? (i := 755) (by decide +kernel)⟩
theorem wc_L_18 : cw_V RL 18 RX4 yX4_carry cX4_carry 3 (some .int) 2 := ⟨List.mem_of_getElem? (i := 328) (by decide +kernel), List.mem_of_getElem? (i := 329) (by decide +kernel), List.mem_of_getElem? (i := 95) (by decide +kernel), List.mem_of_getElem? (i := 331) (by decide +kernel), ⟨by decide +kernel, by decide +kernel⟩, by decide +kernel, List.mem_of_getElem? (i := 330) (by decide +kernel)⟩
theorem wc_L_22 : cw_V RL 22 RX5 yX5_carry cX5_carry 4 (some .int) 2 := ⟨List.mem_of_getElem? (i := 777) (by decide +kernel), List.mem_of_getElem? (i := 778) (by decide +kernel), List.mem_of_getElem? (i := 100) (by decide +kernel), List.mem_of_getElem? (i := 780) (by decide +kernel), ⟨by decide +kernel, by decide +kernel⟩, by decide +kernel, List.mem_of_getElem? (i := 779) (by decide +kernel)⟩
theorem wc_L_23 : cw_V RL 23 RX4 yX4_face cX4_face 3 (some .int) 2 := ⟨List.mem_of_getElem? (i := 340) (by decide +kernel), List.mem_of_getElem? (i := 341) (by decide +kernel), List.mem_of_getElem? (i := 95) (by decide +kernel), List.mem_of_getElem? (i := 343) (by decide +kernel), ⟨by decide +kernel, by decide +kernel⟩, by decide +kernel, List.mem_of_getElem? (i := 342) (by decide +kernel)⟩
theorem wc_L_26 : cw_V RL 26 RX5 yX5_face cX5_face 4 (some .int) 2 := ⟨List.mem_of_getElem? (i := 789) (by decide +kernel), List.mem_of_getElem? (i := 790) (by decide +kernel), List.mem_of_getElem? (i := 100) (by decide +kernel), List.mem_of_getElem? (i := 792) (by decide +kernel), ⟨by decide +kernel, by decide +kernel⟩, by decide +kernel, List.mem_of_getElem? (i := 791) (by decide +kernel)⟩
theorem wc_L_27 : cw_V RL 27 RX4 yX4_crow cX4_crow 3 (some .int) 2 := ⟨List.mem_of_getElem? (i := 348) (by decide +kernel), List.mem_of_getElem? (i := 349) (by decide +kernel), List.mem_of_getElem? (i := 95) (by decide +kernel), List.mem_of_getElem? (i := 351) (by decide +kernel), ⟨by decide +kernel, by decide +kernel⟩, by decide +kernel, List.mem_of_getElem? (i := 350) (by decide +kernel)⟩
theorem wc_L_30 : cw_V RL 30 RX5 yX5_crow cX5_crow 3 (some .int) 2 := ⟨List.mem_of_getElem? (i := 793) (by decide +kernel), List.mem_of_getElem? (i := 794) (by decide +kernel), List.mem_of_getElem? (i := 100) (by decide +kernel), List.mem_of_getElem? (i := 796) (by decide +kernel), ⟨by decide +kernel, by decide +kernel⟩, by decide +kernel, List.mem_of_getElem? (i := 795) (by decide +kernel)⟩
theorem wc_L_31 : cw_V RL 31 RX4 yX4_scare cX4_scare 2 (some .int) 1 := ⟨List.mem_of_getElem? (i := 360) (by decide +kernel), List.mem_of_getElem? (i := 361) (by decide +kernel), List.mem_of_getElem? (i := 95) (by decide +kernel), List.mem_of_getElem? (i := 363) (by decide +kernel), ⟨by decide +kernel, by decide +kernel⟩, by decide +kernel, List.mem_of_getElem? (i := 362) (by decide +kernel)⟩
theorem wc_L_35 : cw_V RL 35 RX5 yX5_scare cX5_scare 3 (some .int) 1 := ⟨List.mem_of_getElem? (i := 805) (by decide +kernel), List.mem_of_getElem? (i := 806) (by decide +kernel), List.mem_of_getElem? (i := 100) (by decide +kernel), List.mem_of_getElem? (i := 808) (by decide +kernel), ⟨by decide +kernel, by decide +kernel⟩, by decide +kernel, List.mem_of_getElem? (i := 807) (by decide +kernel)⟩
theorem wc_L_36 : cw_V RL 36 RX4 yX4_fill cX4_fill 3 (some .int) 2 := ⟨List.mem_of_getElem? (i := 372) (by decide +kernel), List.mem_of_getElem? (i := 373) (by decide +kernel), List.mem_of_getElem? (i := 95) (by decide +kernel), List.mem_of_getElem? (i := 375) (by decide +kernel), ⟨by decide +kernel, by decide +kernel⟩, by decide +kernel, List.mem_of_getElem? (i := 374) (by decide +kernel)⟩
theorem wc_L_39 : cw_V RL 39 RX5 yX5_fill cX5_fill 3 (some .int) 2 := ⟨List.mem_of_getElem? (i := 813) (by decide +kernel), List.mem_of_getElem? (i := 814) (by decide +kernel), List.mem_of_getElem? (i := 100) (by decide +kernel), List.mem_of_getElem? (i := 816) (by decide +kernel), ⟨by decide +kernel, by decide +kernel⟩, by decide +kernel, List.mem_of_getElem? (i := 815) (by decide +kernel)⟩
theorem wc_L_40 : cw_V RL 40 RX4 yX4_seats cX4_seats 3 (some .int) 2 := ⟨List.mem_of_getElem? (i := 381) (by decide +kernel), List.mem_of_getElem? (i := 382) (by decide +kernel), List.mem_of_getElem? (i := 95) (by decide +kernel), List.mem_of_getElem? (i := 384) (by decide +kernel), ⟨by decide +kernel, by decide +kernel⟩, by decide +kernel, List.mem_of_getElem? (i := 383) (by decide +kernel)⟩
theorem wc_L_43 : cw_V RL 43 RX5 yX5_seats cX5_seats 4 (some .int) 2 := ⟨List.mem_of_getElem? (i := 821) (by decide +kernel), List.mem_of_getElem? (i := 822) (by decide +kernel), List.mem_of_getElem? (i := 100) (by decide +kernel), List.mem_of_getElem? (i := 824) (by decide +kernel), ⟨by decide +kernel, by decide +kernel⟩, by decide +kernel, List.mem_of_getElem? (i := 823) (by decide +kernel)⟩
theorem wc_L_44 : cw_V RL 44 RX4 yX4_wind cX4_wind 3 (some .int) 2 := ⟨List.mem_of_getElem? (i := 389) (by decide +kernel), List.mem_of_getElem? (i := 390) (by decide +kernel), List.mem_of_getElem? (i := 95) (by decide +kernel), List.mem_of_getElem? (i := 392) (by decide +kernel), ⟨by decide +kernel, by decide +kernel⟩, by decide +kernel, List.mem_of_getElem? (i := 391) (by decide +kernel)⟩
theorem wc_L_47 : cw_V RL 47 RX5 yX5_wind cX5_wind 3 (some .int) 2 := ⟨List.mem_of_getElem? (i := 825) (by decide +kernel), List.mem_of_getElem? (i := 826) (by decide +kernel), List.mem_of_getElem? (i := 100) (by decide +kernel), List.mem_of_getElem? (i := 828) (by decide +kernel), ⟨by decide +kernel, by decide +kernel⟩, by decide +kernel, List.mem_of_getElem? (i := 827) (by decide +kernel)⟩
theorem wc_L_48 : cw_V RL 48 RX4 yX4_set cX4_set 3 (some .int) 2 := ⟨List.mem_of_getElem? (i := 397) (by decide +kernel), List.mem_of_getElem? (i := 398) (by decide +kernel), List.mem_of_getElem? (i := 95) (by decide +kernel), List.mem_of_getElem? (i := 400) (by decide +kernel), ⟨by decide +kernel, by decide +kernel⟩, by decide +kernel, List.mem_of_getElem? (i := 399) (by decide +kernel)⟩
theorem wc_L_51 : cw_V RL 51 RX5 yX5_set cX5_set 4 (some .int) 2 := ⟨List.mem_of_getElem? (i := 833) (by decide +kernel), List.mem_of_getElem? (i := 834) (by decide +kernel), List.mem_of_getElem? (i := 100) (by decide +kernel), List.mem_of_getElem? (i := 836) (by decide +kernel), ⟨by decide +kernel, by decide +kernel⟩, by decide +kernel, List.mem_of_getElem? (i := 835) (by decide +kernel)⟩
theorem wc_L_52 : cw_V RL 52 RX4 yX4_vote cX4_vote 1 (some .int) 0 := ⟨List.mem_of_getElem? (i := 405) (by decide +kernel), List.mem_of_getElem? (i := 406) (by decide +kernel), List.mem_of_getElem? (i := 95) (by decide +kernel), List.mem_of_getElem? (i := 408) (by decide +kernel), ⟨by decide +kernel, by decide +kernel⟩, by decide +kernel, List.mem_of_getElem? (i := 407) (by decide +kernel)⟩
theorem wc_L_56 : cw_V RL 56 RX5 yX5_vote cX5_vote 1 (some .int) 0 := ⟨List.mem_of_getElem? (i := 837) (by decide +kernel), List.mem_of_getElem? (i := 838) (by decide +kernel), List.mem_of_getElem? (i := 100) (by decide +kernel), List.mem_of_getElem? (i := 840) (by decide +kernel), ⟨by decide +kernel, by decide +kernel⟩, by decide +kernel, List.mem_of_getElem? (i := 839) (by decide +kernel)⟩
theorem wc_L_57 : cw_V RL 57 RX4 yX4_pass cX4_pass 2 (some .int) 1 := ⟨List.mem_of_getElem? (i := 465) (by decide +kernel), List.mem_of_getElem? (i := 466) (by decide +kernel), List.mem_of_getElem? (i := 95) (by decide +kernel), List.mem_of_getElem? (i := 468) (by decide +kernel), ⟨by decide +kernel, by decide +kernel⟩, by decide +kernel, List.mem_of_getElem? (i := 467) (by decide +kernel)⟩
theorem wc_L_60 : cw_V RL 60 RX5 yX5_pass cX5_pass 2 (some .int) 1 := ⟨List.mem_of_getElem? (i := 876) (by decide +kernel), List.mem_of_getElem? (i := 877) (by decide +kernel), List.mem_of_getElem? (i := 100) (by decide +kernel), List.mem_of_getElem? (i := 879) (by decide +kernel), ⟨by decide +kernel, by decide +kernel⟩, by decide +kernel, List.mem_of_getElem? (i := 878) (by decide +kernel)⟩
theorem wc_L_61 : cw_V RL 61 RX4 yX4_type cX4_type 2 (some .int) 1 := ⟨List.mem_of_getElem? (i := 494) (by decide +kernel), List.mem_of_getElem? (i := 495) (by decide +kernel), List.mem_of_getElem? (i := 95) (by decide +kernel), List.mem_of_getElem? (i := 497) (by decide +kernel), ⟨by decide +kernel, by decide +kernel⟩, by decide +kernel, List.mem_of_getElem? (i := 496) (by decide +kernel)⟩
theorem wc_L_65 : cw_V RL 65 RX5 yX5_type cX5_type 2 (some .int) 1 := ⟨List.mem_of_getElem? (i := 901) (by decide +kernel), List.mem_of_getElem? (i := 902) (by decide +kernel), List.mem_of_getElem? (i := 100) (by decide +kernel), List.mem_of_getElem? (i := 904) (by decide +kernel), ⟨by decide +kernel, by decide +kernel⟩, by decide +kernel, List.mem_of_getElem? (i := 903) (by decide +kernel)⟩
theorem wc_L_66 : cw_V RL 66 RX4 yX4_clearText cX4_clearText 1 (some .int) 0 := ⟨List.mem_of_getElem? (i := 502) (by decide +kernel), List.mem_of_getElem? (i := 503) (by decide +kernel), List.mem_of_getElem? (i := 95) (by decide +kernel), List.mem_of_getElem? (i := 505) (by decide +kernel), ⟨by decide +kernel, by decide +kernel⟩, by decide +kernel, List.mem_of_getElem? (i := 504) (by decide +kernel)⟩
theorem wc_L_69 : cw_V RL 69 RX5 yX5_clearText cX5_clearText 2 (some .int) 0 := ⟨List.mem_of_getElem? (i := 905) (by decide +kernel), List.mem_of_getElem? (i := 906) (by decide +kernel), List.mem_of_getElem? (i := 100) (by decide +kernel), List.mem_of_getElem? (i := 908) (by decide +kernel), ⟨by decide +kernel, by decide +kernel⟩, by decide +kernel, List.mem_of_getElem? (i := 907) (by decide +kernel)⟩
theorem wc_L_70 : cw_V RL 70 RX4 yX4_perform cX4_perform 4 (some .int) 0 := ⟨List.mem_of_getElem? (i := 510) (by decide +kernel), List.mem_of_getElem? (i := 511) (by decide +kernel), List.mem_of_getElem? (i := 95) (by decide +kernel), List.mem_of_getElem? (i := 513) (by decide +kernel), ⟨by decide +kernel, by decide +kernel⟩, by decide +kernel, List.mem_of_getElem? (i := 512) (by decide +kernel)⟩
theorem wc_L_73 : cw_V RL 73 RX5 yX5_perform cX5_perform 4 (some .int) 0 := ⟨List.mem_of_getElem? (i := 909) (by decide +kernel), List.mem_of_getElem? (i := 910) (by decide +kernel), List.mem_of_getElem? (i := 100) (by decide +kernel), List.mem_of_getElem? (i := 912) (by decide +kernel), ⟨by decide +kernel, by decide +kernel⟩, by decide +kernel, List.mem_of_getElem? (i := 911) (by decide +kernel)⟩
theorem wc_L_74 : cw_V RL 74 RX4 yX4_stopped cX4_stopped 2 (some .int) 1 := ⟨List.mem_of_getElem? (i := 574) (by decide +kernel), List.mem_of_getElem? (i := 575) (by decide +kernel), List.mem_of_getElem? (i := 95) (by decide +kernel), List.mem_of_getElem? (i := 577) (by decide +kernel), ⟨by decide +kernel, by decide +kernel⟩, by decide +kernel, List.mem_of_getElem? (i := 576) (by decide +kernel)⟩
theorem wc_L_77 : cw_V RL 77 RX5 yX5_stopped cX5_stopped 2 (some .int) 1 := ⟨List.mem_of_getElem? (i := 945) (by decide +kernel), List.mem_of_getElem? (i := 946) (by decide +kernel), List.mem_of_getElem? (i := 100) (by decide +kernel), List.mem_of_getElem? (i := 948) (by decide +kernel), ⟨by decide +kernel, by decide +kernel⟩, by decide +kernel, List.mem_of_getElem? (i := 947) (by decide +kernel)⟩
theorem wc_L_78 : cw_V RL 78 RX4 yX4_undo cX4_undo 1 (some .int) 0 := ⟨List.mem_of_getElem? (i := 578) (by decide +kernel), List.mem_of_getElem? (i := 579) (by decide +kernel), List.mem_of_getElem? (i := 95) (by decide +kernel), List.mem_of_getElem? (i := 581) (by decide +kernel), ⟨by decide +kernel, by decide +kernel⟩, by decide +kernel, List.mem_of_getElem? (i := 580) (by decide +kernel)⟩
theorem wc_L_81 : cw_V RL 81 RX5 yX5_undo cX5_undo 2 (some .int) 0 := ⟨List.mem_of_getElem? (i := 733) (by decide +kernel), List.mem_of_getElem? (i := 734) (by decide +kernel), List.mem_of_getElem? (i := 100) (by decide +kernel), List.mem_of_getElem? (i := 736) (by decide +kernel), ⟨by decide +kernel, by decide +kernel⟩, by decide +kernel, List.mem_of_getElem? (i := 735) (by decide +kernel)⟩
theorem wc_L_82 : cw_V RL 82 RX4 yX4_keep cX4_keep 1 (some .int) 0 := ⟨List.mem_of_getElem? (i := 586) (by decide +kernel), List.mem_of_getElem? (i := 587) (by decide +kernel), List.mem_of_getElem? (i := 95) (by decide +kernel), List.mem_of_getElem? (i := 589) (by decide +kernel), ⟨by decide +kernel, by decide +kernel⟩, by decide +kernel, List.mem_of_getElem? (i := 588) (by decide +kernel)⟩
theorem wc_L_85 : cw_V RL 85 RX5 yX5_keep cX5_keep 2 (some .int) 0 := ⟨List.mem_of_getElem? (i := 737) (by decide +kernel), List.mem_of_getElem? (i := 738) (by decide +kernel), List.mem_of_getElem? (i := 100) (by decide +kernel), List.mem_of_getElem? (i := 740) (by decide +kernel), ⟨by decide +kernel, by decide +kernel⟩, by decide +kernel, List.mem_of_getElem? (i := 739) (by decide +kernel)⟩
theorem wc_L_86 : cw_V RL 86 RX4 yX4_restore cX4_restore 1 (some .int) 0 := ⟨List.mem_of_getElem? (i := 590) (by decide +kernel), List.mem_of_getElem? (i := 591) (by decide +kernel), List.mem_of_getElem? (i := 95) (by decide +kernel), List.mem_of_getElem? (i := 593) (by decide +kernel), ⟨by decide +kernel, by decide +kernel⟩, by decide +kernel, List.mem_of_getElem? (i := 592) (by decide +kernel)⟩
theorem wc_L_89 : cw_V RL 89 RX5 yX5_restore cX5_restore 2 (some .int) 0 := ⟨List.mem_of_getElem? (i := 741) (by decide +kernel), List.mem_of_getElem? (i := 742) (by decide +kernel), List.mem_of_getElem? (i := 100) (by decide +kernel), List.mem_of_getElem? (i := 744) (by decide +kernel), ⟨by decide +kernel, by decide +kernel⟩, by decide +kernel, List.mem_of_getElem? (i := 743) (by decide +kernel)⟩
theorem wc_L_90 : cw_V RL 90 RX4 yX4_scarecrow cX4_scarecrow 3 (some .int) 2 := ⟨List.mem_of_getElem? (i := 594) (by decide +kernel), List.mem_of_getElem? (i := 595) (by decide +kernel), List.mem_of_getElem? (i := 95) (by decide +kernel), List.mem_of_getElem? (i := 597) (by decide +kernel), ⟨by decide +kernel, by decide +kernel⟩, by decide +kernel, List.mem_of_getElem? (i := 596) (by decide +kernel)⟩
theorem wc_L_93 : cw_V RL 93 RX5 yX5_scarecrow cX5_scarecrow 3 (some .int) 2 := ⟨List.mem_of_getElem? (i := 949) (by decide +kernel), List.mem_of_getElem? (i := 950) (by decide +kernel), List.mem_of_getElem? (i := 100) (by decide +kernel), List.mem_of_getElem? (i := 952) (by decide +kernel), ⟨by decide +kernel, by decide +kernel⟩, by decide +kernel, List.mem_of_getElem? (i := 951) (by decide +kernel)⟩
theorem wc_L_94 : cw_V RL 94 RX4 yX4_straw cX4_straw 2 (some .double) 1 := ⟨List.mem_of_getElem? (i := 602) (by decide +kernel), List.mem_of_getElem? (i := 603) (by decide +kernel), List.mem_of_getElem? (i := 95) (by decide +kernel), List.mem_of_getElem? (i := 605) (by decide +kernel), ⟨by decide +kernel, by decide +kernel⟩, by decide +kernel, List.mem_of_getElem? (i := 604) (by decide +kernel)⟩
theorem wc_L_98 : cw_V RL 98 RX5 yX5_straw cX5_straw 2 (some .double) 1 := ⟨List.mem_of_getElem? (i := 953) (by decide +kernel), List.mem_of_getElem? (i := 954) (by decide +kernel), List.mem_of_getElem? (i := 100) (by decide +kernel), List.mem_of_getElem? (i := 956) (by decide +kernel), ⟨by decide +kernel, by decide +kernel⟩, by decide +kernel, List.mem_of_getElem? (i := 955) (by decide +kernel)⟩
theorem wc_L_99 : cw_V RL 99 RX4 yX4_weight cX4_weight 3 (some .double) 2 := ⟨List.mem_of_getElem? (i := 609) (by decide +kernel), List.mem_of_getElem? (i := 610) (by decide +kernel), List.mem_of_getElem? (i := 95) (by decide +kernel), List.mem_of_getElem? (i := 612) (by decide +kernel), ⟨by decide +kernel, by decide +kernel⟩, by decide +kernel, List.mem_of_getElem? (i := 611) (by decide +kernel)⟩
theorem wc_L_103 : cw_V RL 103 RX5 yX5_weight cX5_weight 3 (some .double) 2 := ⟨List.mem_of_getElem? (i := 959) (by decide +kernel), List.mem_of_getElem? (i := 960) (by decide +kernel), List.mem_of_getElem? (i := 100) (by decide +kernel), List.mem_of_getElem? (i := 962) (by decide +kernel), ⟨by decide +kernel, by decide +kernel⟩, by decide +kernel, List.mem_of_getElem? (i := 961) (by decide +kernel)⟩
theorem wc_L_104 : cw_V RL 104 RX4 yX4_field cX4_field 3 (some .int) 2 := ⟨List.mem_of_getElem? (i := 616) (by decide +kernel), List.mem_of_getElem? (i := 617) (by decide +kernel), List.mem_of_getElem? (i := 95) (by decide +kernel), List.mem_of_getElem? (i := 619) (by decide +kernel), ⟨by decide +kernel, by decide +kernel⟩, by decide +kernel, List.mem_of_getElem? (i := 618) (by decide +kernel)⟩
theorem wc_L_107 : cw_V RL 107 RX5 yX5_field cX5_field 3 (some .int) 2 := ⟨List.mem_of_getElem? (i := 963) (by decide +kernel), List.mem_of_getElem? (i := 964) (by decide +kernel), List.mem_of_getElem? (i := 100) (by decide +kernel), List.mem_of_getElem? (i := 966) (by decide +kernel), ⟨by decide +kernel, by decide +kernel⟩, by decide +kernel, List.mem_of_getElem? (i := 965) (by decide +kernel)⟩
theorem wc_L_108 : cw_V RL 108 RX4 yX4_reason cX4_reason 2 (some .int) 1 := ⟨List.mem_of_getElem? (i := 626) (by decide +kernel), List.mem_of_getElem? (i := 627) (by decide +kernel), List.mem_of_getElem? (i := 95) (by decide +kernel), List.mem_of_getElem? (i := 629) (by decide +kernel), ⟨by decide +kernel, by decide +kernel⟩, by decide +kernel, List.mem_of_getElem? (i := 628) (by decide +kernel)⟩
theorem wc_L_111 : cw_V RL 111 RX5 yX5_reason cX5_reason 4 (some .int) 1 := ⟨List.mem_of_getElem? (i := 971) (by decide +kernel), List.mem_of_getElem? (i := 972) (by decide +kernel), List.mem_of_getElem? (i := 100) (by decide +kernel), List.mem_of_getElem? (i := 974) (by decide +kernel), ⟨by decide +kernel, by decide +kernel⟩, by decide +kernel, List.mem_of_getElem? (i := 973) (by decide +kernel)⟩
theorem wc_L_112 : cw_V RL 112 RX4 yX4_decision cX4_decision 2 (some .int) 1 := ⟨List.mem_of_getElem? (i := 638) (by decide +kernel), List.mem_of_getElem? (i := 639) (by decide +kernel), List.mem_of_getElem? (i := 95) (by decide +kernel), List.mem_of_getElem? (i := 641) (by decide +kernel), ⟨by decide +kernel, by decide +kernel⟩, by decide +kernel, List.mem_of_getElem? (i := 640) (by decide +kernel)⟩
theorem wc_L_115 : cw_V RL 115 RX5 yX5_decision cX5_decision 2 (some .int) 1 := ⟨List.mem_of_getElem? (i := 975) (by decide +kernel), List.mem_of_getElem? (i := 976) (by decide +kernel), List.mem_of_getElem? (i := 100) (by decide +kernel), List.mem_of_getElem? (i := 978) (by decide +kernel), ⟨by decide +kernel, by decide +kernel⟩, by decide +kernel, List.mem_of_getElem? (i := 977) (by decide +kernel)⟩
theorem wc_L_116 : cw_V RL 116 RX4 yX4_swings cX4_swings 4 (some .int) 0 := ⟨List.mem_of_getElem? (i := 651) (by decide +kernel), List.mem_of_getElem? (i := 652) (by decide +kernel), List.mem_of_getElem? (i := 95) (by decide +kernel), List.mem_of_getElem? (i := 654) (by decide +kernel), ⟨by decide +kernel, by decide +kernel⟩, by decide +kernel, List.mem_of_getElem? (i := 653) (by decide +kernel)⟩
theorem wc_L_119 : cw_V RL 119 RX5 yX5_swings cX5_swings 4 (some .int) 0 := ⟨List.mem_of_getElem? (i := 979) (by decide +kernel), List.mem_of_getElem? (i := 980) (by decide +kernel), List.mem_of_getElem? (i := 100) (by decide +kernel), List.mem_of_getElem? (i := 982) (by decide +kernel), ⟨by decide +kernel, by decide +kernel⟩, by decide +kernel, List.mem_of_getElem? (i := 981) (by decide +kernel)⟩
theorem wc_L_120 : cw_V RL 120 RX4 yX4_withoutCrows cX4_withoutCrows 1 (some .int) 0 := ⟨List.mem_of_getElem? (i := 660) (by decide +kernel), List.mem_of_getElem? (i := 661) (by decide +kernel), List.mem_of_getElem? (i := 95) (by decide +kernel), List.mem_of_getElem? (i := 663) (by decide +kernel), ⟨by decide +kernel, by decide +kernel⟩, by decide +kernel, List.mem_of_getElem? (i := 662) (by decide +kernel)⟩
theorem wc_L_123 : cw_V RL 123 RX5 yX5_withoutCrows cX5_withoutCrows 1 (some .int) 0 := ⟨List.mem_of_getElem? (i := 987) (by decide +kernel), List.mem_of_getElem? (i := 988) (by decide +kernel), List.mem_of_getElem? (i := 100) (by decide +kernel), List.mem_of_getElem? (i := 990) (by decide +kernel), ⟨by decide +kernel, by decide +kernel⟩, by decide +kernel, List.mem_of_getElem? (i := 989) (by decide +kernel)⟩
theorem wc_L_124 : cw_V RL 124 RX4 yX4_turnsIn cX4_turnsIn 3 (some .int) 1 := ⟨List.mem_of_getElem? (i := 664) (by decide +kernel), List.mem_of_getElem? (i := 665) (by decide +kernel), List.mem_of_getElem? (i := 95) (by decide +kernel), List.mem_of_getElem? (i := 667) (by decide +kernel), ⟨by decide +kernel, by decide +kernel⟩, by decide +kernel, List.mem_of_getElem? (i := 666) (by decide +kernel)⟩
theorem wc_L_127 : cw_V RL 127 RX5 yX5_turnsIn cX5_turnsIn 5 (some .int) 1 := ⟨List.mem_of_getElem? (i := 991) (by decide +kernel), List.mem_of_getElem? (i := 992) (by decide +kernel), List.mem_of_getElem? (i := 100) (by decide +kernel), List.mem_of_getElem? (i := 994) (by decide +kernel), ⟨by decide +kernel, by decide +kernel⟩, by decide +kernel, List.mem_of_getElem? (i := 993) (by decide +kernel)⟩
theorem wc_L_128 : cw_V RL 128 RX4 yX4_ifTicks cX4_ifTicks 4 (some .int) 2 := ⟨List.mem_of_getElem? (i := 669) (by decide +kernel), List.mem_of_getElem? (i := 670) (by decide +kernel), List.mem_of_getElem? (i := 95) (by decide +kernel), List.mem_of_getElem? (i := 672) (by decide +kernel), ⟨by decide +kernel, by decide +kernel⟩, by decide +kernel, List.mem_of_getElem? (i := 671) (by decide +kernel)⟩
theorem wc_L_131 : cw_V RL 131 RX5 yX5_ifTicks cX5_ifTicks 6 (some .int) 2 := ⟨List.mem_of_getElem? (i := 995) (by decide +kernel), List.mem_of_getElem? (i := 996) (by decide +kernel), List.mem_of_getElem? (i := 100) (by decide +kernel), List.mem_of_getElem? (i := 998) (by decide +kernel), ⟨by decide +kernel, by decide +kernel⟩, by decide +kernel, List.mem_of_getElem? (i := 997) (by decide +kernel)⟩
theorem wc_L_132 : cw_V RL 132 RX4 yX4_count cX4_count 2 (some .int) 1 := ⟨List.mem_of_getElem? (i := 675) (by decide +kernel), List.mem_of_getElem? (i := 676) (by decide +kernel), List.mem_of_getElem? (i := 95) (by decide +kernel), List.mem_of_getElem? (i := 678) (by decide +kernel), ⟨by decide +kernel, by decide +kernel⟩, by decide +kernel, List.mem_of_getElem? (i := 677) (by decide +kernel)⟩
theorem wc_L_135 : cw_V RL 135 RX5 yX5_count cX5_count 2 (some .int) 1 := ⟨List.mem_of_getElem? (i := 999) (by decide +kernel), List.mem_of_getElem? (i := 1000) (by decide +kernel), List.mem_of_getElem? (i := 100) (by decide +kernel), List.mem_of_getElem? (i := 1002) (by decide +kernel), ⟨by decide +kernel, by decide +kernel⟩, by decide +kernel, List.mem_of_getElem? (i := 1001) (by decide +kernel)⟩
end
section
/-! THE WORLDS: the house's state is one row of numbers s (the order of the check's own row); what each object holds is told by it -/
def ix (k c : Nat) : Nat := 17 + 11 * k + c
def up (s : Nat → Int) (j : Nat) (v : Int) : Nat → Int := fun k => if k = j then v else s k
theorem up_eq {s : Nat → Int} {j : Nat} {v : Int} : up s j v j = v := if_pos rfl
theorem up_ne {s : Nat → Int} {j k : Nat} {v : Int} (h : k ≠ j) : up s j v k = s k := if_neg h
def hv (s : Nat → Int) (c : Nat) : Nat → Int32 := fun k => jI (s (ix k c))
def hcr (s : Nat → Int) : Nat → Int32 := fun k => jI (s (ix (k / 4) (5 + k % 4)))
def hse (s : Nat → Int) : Nat → Int32 := fun k => if k < 6 then jI (s (11 + k)) else 0
def hst (s : Nat → Int) : Nat → Int32 := fun k => if k < 2 then jI (s k) else 0
def hB (G : vC) (h : Nat → Nat) (s : Nat → Int) : va_W :=
  [(h 0, .inr (1, [.ref (h 1), .ref (h 2), .ref (h 3), .ref (h 4), .ref (h 5), .ref (h 6), .ref (h 7), .ref (h 8), .ref (h 9), .ref (h 10), .int (jI (s 10)), .int (jI (s 3)), .int (jI (s 4)), .int (jI (s 5)), .int (jI (s 2)), .int (jI (s 8)), .int (jI (s 9))])),
   (h 1, .inl (G.2.1, 12, .inl (hv s 0))), (h 2, .inl (G.2.1, 12, .inl (hv s 1))), (h 3, .inl (G.2.1, 12, .inl (hv s 2))), (h 4, .inl (G.2.1, 12, .inl (hv s 3))), (h 5, .inl (G.2.1, 12, .inl (hv s 4))), (h 6, .inl (G.2.1, 12, .inl (hv s 9))), (h 7, .inl (G.2.1, 12, .inl (hv s 10))), (h 8, .inl (G.2.1, 48, .inl (hcr s))), (h 9, .inl (G.2.1, 6, .inl (hse s))), (h 10, .inl (G.2.1, 2, .inl (hst s)))]
theorem hv_eq {s : Nat → Int} {k c : Nat} {v : Int} (hc : c < 11) : hv (up s (ix k c) v) c = upd (hv s c) k (jI v) := by
  funext j
  unfold hv up upd
  by_cases h : j = k
  · subst h; simp
  · rw [if_neg (by unfold ix; omega), if_neg h]
theorem hv_ne {s : Nat → Int} {k c c' : Nat} {v : Int} (hc : c < 11) (hc' : c' < 11) (hn : c ≠ c') : hv (up s (ix k c') v) c = hv s c := by
  funext j
  unfold hv up
  rw [if_neg (by unfold ix; omega)]
theorem hv_lo {s : Nat → Int} {j c : Nat} {v : Int} (hj : j < 17) : hv (up s j v) c = hv s c := by
  funext k
  unfold hv up
  rw [if_neg (by unfold ix; omega)]
theorem hcr_eq {s : Nat → Int} {k w : Nat} {v : Int} (hw : w < 4) : hcr (up s (ix k (5 + w)) v) = upd (hcr s) (k * 4 + w) (jI v) := by
  funext j
  unfold hcr up upd
  by_cases h : j = k * 4 + w
  · rw [if_pos h, if_pos (by unfold ix; omega)]
  · rw [if_neg h, if_neg (by unfold ix; omega)]
theorem hcr_ne {s : Nat → Int} {k c : Nat} {v : Int} (hc : c < 5 ∨ 9 ≤ c) (hc' : c < 11) : hcr (up s (ix k c) v) = hcr s := by
  funext j
  unfold hcr up
  rw [if_neg (by unfold ix; omega)]
theorem hcr_lo {s : Nat → Int} {j : Nat} {v : Int} (hj : j < 17) : hcr (up s j v) = hcr s := by
  funext k
  unfold hcr up
  rw [if_neg (by unfold ix; omega)]
theorem hse_eq {s : Nat → Int} {f : Nat} {v : Int} (hf : f < 6) : hse (up s (11 + f) v) = upd (hse s) f (jI v) := by
  funext j
  unfold hse up upd
  by_cases h : j = f
  · subst h; simp [hf]
  · rw [if_neg h, if_neg (show ¬ 11 + j = 11 + f by omega)]
theorem hse_ne {s : Nat → Int} {j : Nat} {v : Int} (hj : j < 11 ∨ 17 ≤ j) : hse (up s j v) = hse s := by
  funext k
  unfold hse up
  by_cases h : k < 6
  · rw [if_pos h, if_pos h, if_neg (by omega)]
  · rw [if_neg h, if_neg h]
theorem hst_eq {s : Nat → Int} {f : Nat} {v : Int} (hf : f < 2) : hst (up s f v) = upd (hst s) f (jI v) := by
  funext j
  unfold hst up upd
  by_cases h : j = f
  · subst h; simp [hf]
  · rw [if_neg h, if_neg h]
theorem hst_ne {s : Nat → Int} {j : Nat} {v : Int} (hj : 2 ≤ j) : hst (up s j v) = hst s := by
  funext k
  unfold hst up
  by_cases h : k < 2
  · rw [if_pos h, if_pos h, if_neg (by omega)]
  · rw [if_neg h, if_neg h]
theorem up_ix {s : Nat → Int} {k c j : Nat} {v : Int} (hj : j < 17) : up s (ix k c) v j = s j := up_ne (by unfold ix; omega)
theorem ix17 (k c : Nat) : 17 ≤ ix k c := by unfold ix; omega
theorem ix2 (k c : Nat) : 2 ≤ ix k c := by unfold ix; omega
theorem hB_a0 (G : vC) (h : Nat → Nat) (s : Nat → Int) (k : Nat) (v : Int) : (hB G h s).set 1 (h 1, .inl (G.2.1, 12, .inl (upd (hv s 0) k (jI v)))) = hB G h (up s (ix k 0) v) := by
  unfold hB
  rw [hv_eq (s := s) (k := k) (v := v) (c := 0) (by decide), hv_ne (s := s) (k := k) (v := v) (c := 1) (c' := 0) (by decide) (by decide) (by decide), hv_ne (s := s) (k := k) (v := v) (c := 2) (c' := 0) (by decide) (by decide) (by decide), hv_ne (s := s) (k := k) (v := v) (c := 3) (c' := 0) (by decide) (by decide) (by decide), hv_ne (s := s) (k := k) (v := v) (c := 4) (c' := 0) (by decide) (by decide) (by decide), hv_ne (s := s) (k := k) (v := v) (c := 9) (c' := 0) (by decide) (by decide) (by decide), hv_ne (s := s) (k := k) (v := v) (c := 10) (c' := 0) (by decide) (by decide) (by decide), hcr_ne (s := s) (k := k) (v := v) (c := 0) (by decide) (by decide), hse_ne (s := s) (v := v) (Or.inr (ix17 k 0)), hst_ne (s := s) (v := v) (ix2 k 0), up_ix (s := s) (k := k) (c := 0) (v := v) (j := 10) (by decide), up_ix (s := s) (k := k) (c := 0) (v := v) (j := 3) (by decide), up_ix (s := s) (k := k) (c := 0) (v := v) (j := 4) (by decide), up_ix (s := s) (k := k) (c := 0) (v := v) (j := 5) (by decide), up_ix (s := s) (k := k) (c := 0) (v := v) (j := 2) (by decide), up_ix (s := s) (k := k) (c := 0) (v := v) (j := 8) (by decide), up_ix (s := s) (k := k) (c := 0) (v := v) (j := 9) (by decide)]
  rfl

theorem hB_a1 (G : vC) (h : Nat → Nat) (s : Nat → Int) (k : Nat) (v : Int) : (hB G h s).set 2 (h 2, .inl (G.2.1, 12, .inl (upd (hv s 1) k (jI v)))) = hB G h (up s (ix k 1) v) := by
  unfold hB
  rw [hv_ne (s := s) (k := k) (v := v) (c := 0) (c' := 1) (by decide) (by decide) (by decide), hv_eq (s := s) (k := k) (v := v) (c := 1) (by decide), hv_ne (s := s) (k := k) (v := v) (c := 2) (c' := 1) (by decide) (by decide) (by decide), hv_ne (s := s) (k := k) (v := v) (c := 3) (c' := 1) (by decide) (by decide) (by decide), hv_ne (s := s) (k := k) (v := v) (c := 4) (c' := 1) (by decide) (by decide) (by decide), hv_ne (s := s) (k := k) (v := v) (c := 9) (c' := 1) (by decide) (by decide) (by decide), hv_ne (s := s) (k := k) (v := v) (c := 10) (c' := 1) (by decide) (by decide) (by decide), hcr_ne (s := s) (k := k) (v := v) (c := 1) (by decide) (by decide), hse_ne (s := s) (v := v) (Or.inr (ix17 k 1)), hst_ne (s := s) (v := v) (ix2 k 1), up_ix (s := s) (k := k) (c := 1) (v := v) (j := 10) (by decide), up_ix (s := s) (k := k) (c := 1) (v := v) (j := 3) (by decide), up_ix (s := s) (k := k) (c := 1) (v := v) (j := 4) (by decide), up_ix (s := s) (k := k) (c := 1) (v := v) (j := 5) (by decide), up_ix (s := s) (k := k) (c := 1) (v := v) (j := 2) (by decide), up_ix (s := s) (k := k) (c := 1) (v := v) (j := 8) (by decide), up_ix (s := s) (k := k) (c := 1) (v := v) (j := 9) (by decide)]
  rfl

theorem hB_a2 (G : vC) (h : Nat → Nat) (s : Nat → Int) (k : Nat) (v : Int) : (hB G h s).set 3 (h 3, .inl (G.2.1, 12, .inl (upd (hv s 2) k (jI v)))) = hB G h (up s (ix k 2) v) := by
  unfold hB
  rw [hv_ne (s := s) (k := k) (v := v) (c := 0) (c' := 2) (by decide) (by decide) (by decide), hv_ne (s := s) (k := k) (v := v) (c := 1) (c' := 2) (by decide) (by decide) (by decide), hv_eq (s := s) (k := k) (v := v) (c := 2) (by decide), hv_ne (s := s) (k := k) (v := v) (c := 3) (c' := 2) (by decide) (by decide) (by decide), hv_ne (s := s) (k := k) (v := v) (c := 4) (c' := 2) (by decide) (by decide) (by decide), hv_ne (s := s) (k := k) (v := v) (c := 9) (c' := 2) (by decide) (by decide) (by decide), hv_ne (s := s) (k := k) (v := v) (c := 10) (c' := 2) (by decide) (by decide) (by decide), hcr_ne (s := s) (k := k) (v := v) (c := 2) (by decide) (by decide), hse_ne (s := s) (v := v) (Or.inr (ix17 k 2)), hst_ne (s := s) (v := v) (ix2 k 2), up_ix (s := s) (k := k) (c := 2) (v := v) (j := 10) (by decide), up_ix (s := s) (k := k) (c := 2) (v := v) (j := 3) (by decide), up_ix (s := s) (k := k) (c := 2) (v := v) (j := 4) (by decide), up_ix (s := s) (k := k) (c := 2) (v := v) (j := 5) (by decide), up_ix (s := s) (k := k) (c := 2) (v := v) (j := 2) (by decide), up_ix (s := s) (k := k) (c := 2) (v := v) (j := 8) (by decide), up_ix (s := s) (k := k) (c := 2) (v := v) (j := 9) (by decide)]
  rfl

theorem hB_a3 (G : vC) (h : Nat → Nat) (s : Nat → Int) (k : Nat) (v : Int) : (hB G h s).set 4 (h 4, .inl (G.2.1, 12, .inl (upd (hv s 3) k (jI v)))) = hB G h (up s (ix k 3) v) := by
  unfold hB
  rw [hv_ne (s := s) (k := k) (v := v) (c := 0) (c' := 3) (by decide) (by decide) (by decide), hv_ne (s := s) (k := k) (v := v) (c := 1) (c' := 3) (by decide) (by decide) (by decide), hv_ne (s := s) (k := k) (v := v) (c := 2) (c' := 3) (by decide) (by decide) (by decide), hv_eq (s := s) (k := k) (v := v) (c := 3) (by decide), hv_ne (s := s) (k := k) (v := v) (c := 4) (c' := 3) (by decide) (by decide) (by decide), hv_ne (s := s) (k := k) (v := v) (c := 9) (c' := 3) (by decide) (by decide) (by decide), hv_ne (s := s) (k := k) (v := v) (c := 10) (c' := 3) (by decide) (by decide) (by decide), hcr_ne (s := s) (k := k) (v := v) (c := 3) (by decide) (by decide), hse_ne (s := s) (v := v) (Or.inr (ix17 k 3)), hst_ne (s := s) (v := v) (ix2 k 3), up_ix (s := s) (k := k) (c := 3) (v := v) (j := 10) (by decide), up_ix (s := s) (k := k) (c := 3) (v := v) (j := 3) (by decide), up_ix (s := s) (k := k) (c := 3) (v := v) (j := 4) (by decide), up_ix (s := s) (k := k) (c := 3) (v := v) (j := 5) (by decide), up_ix (s := s) (k := k) (c := 3) (v := v) (j := 2) (by decide), up_ix (s := s) (k := k) (c := 3) (v := v) (j := 8) (by decide), up_ix (s := s) (k := k) (c := 3) (v := v) (j := 9) (by decide)]
  rfl

theorem hB_a4 (G : vC) (h : Nat → Nat) (s : Nat → Int) (k : Nat) (v : Int) : (hB G h s).set 5 (h 5, .inl (G.2.1, 12, .inl (upd (hv s 4) k (jI v)))) = hB G h (up s (ix k 4) v) := by
  unfold hB
  rw [hv_ne (s := s) (k := k) (v := v) (c := 0) (c' := 4) (by decide) (by decide) (by decide), hv_ne (s := s) (k := k) (v := v) (c := 1) (c' := 4) (by decide) (by decide) (by decide), hv_ne (s := s) (k := k) (v := v) (c := 2) (c' := 4) (by decide) (by decide) (by decide), hv_ne (s := s) (k := k) (v := v) (c := 3) (c' := 4) (by decide) (by decide) (by decide), hv_eq (s := s) (k := k) (v := v) (c := 4) (by decide), hv_ne (s := s) (k := k) (v := v) (c := 9) (c' := 4) (by decide) (by decide) (by decide), hv_ne (s := s) (k := k) (v := v) (c := 10) (c' := 4) (by decide) (by decide) (by decide), hcr_ne (s := s) (k := k) (v := v) (c := 4) (by decide) (by decide), hse_ne (s := s) (v := v) (Or.inr (ix17 k 4)), hst_ne (s := s) (v := v) (ix2 k 4), up_ix (s := s) (k := k) (c := 4) (v := v) (j := 10) (by decide), up_ix (s := s) (k := k) (c := 4) (v := v) (j := 3) (by decide), up_ix (s := s) (k := k) (c := 4) (v := v) (j := 4) (by decide), up_ix (s := s) (k := k) (c := 4) (v := v) (j := 5) (by decide), up_ix (s := s) (k := k) (c := 4) (v := v) (j := 2) (by decide), up_ix (s := s) (k := k) (c := 4) (v := v) (j := 8) (by decide), up_ix (s := s) (k := k) (c := 4) (v := v) (j := 9) (by decide)]
  rfl

theorem hB_a9 (G : vC) (h : Nat → Nat) (s : Nat → Int) (k : Nat) (v : Int) : (hB G h s).set 6 (h 6, .inl (G.2.1, 12, .inl (upd (hv s 9) k (jI v)))) = hB G h (up s (ix k 9) v) := by
  unfold hB
  rw [hv_ne (s := s) (k := k) (v := v) (c := 0) (c' := 9) (by decide) (by decide) (by decide), hv_ne (s := s) (k := k) (v := v) (c := 1) (c' := 9) (by decide) (by decide) (by decide), hv_ne (s := s) (k := k) (v := v) (c := 2) (c' := 9) (by decide) (by decide) (by decide), hv_ne (s := s) (k := k) (v := v) (c := 3) (c' := 9) (by decide) (by decide) (by decide), hv_ne (s := s) (k := k) (v := v) (c := 4) (c' := 9) (by decide) (by decide) (by decide), hv_eq (s := s) (k := k) (v := v) (c := 9) (by decide), hv_ne (s := s) (k := k) (v := v) (c := 10) (c' := 9) (by decide) (by decide) (by decide), hcr_ne (s := s) (k := k) (v := v) (c := 9) (by decide) (by decide), hse_ne (s := s) (v := v) (Or.inr (ix17 k 9)), hst_ne (s := s) (v := v) (ix2 k 9), up_ix (s := s) (k := k) (c := 9) (v := v) (j := 10) (by decide), up_ix (s := s) (k := k) (c := 9) (v := v) (j := 3) (by decide), up_ix (s := s) (k := k) (c := 9) (v := v) (j := 4) (by decide), up_ix (s := s) (k := k) (c := 9) (v := v) (j := 5) (by decide), up_ix (s := s) (k := k) (c := 9) (v := v) (j := 2) (by decide), up_ix (s := s) (k := k) (c := 9) (v := v) (j := 8) (by decide), up_ix (s := s) (k := k) (c := 9) (v := v) (j := 9) (by decide)]
  rfl

theorem hB_a10 (G : vC) (h : Nat → Nat) (s : Nat → Int) (k : Nat) (v : Int) : (hB G h s).set 7 (h 7, .inl (G.2.1, 12, .inl (upd (hv s 10) k (jI v)))) = hB G h (up s (ix k 10) v) := by
  unfold hB
  rw [hv_ne (s := s) (k := k) (v := v) (c := 0) (c' := 10) (by decide) (by decide) (by decide), hv_ne (s := s) (k := k) (v := v) (c := 1) (c' := 10) (by decide) (by decide) (by decide), hv_ne (s := s) (k := k) (v := v) (c := 2) (c' := 10) (by decide) (by decide) (by decide), hv_ne (s := s) (k := k) (v := v) (c := 3) (c' := 10) (by decide) (by decide) (by decide), hv_ne (s := s) (k := k) (v := v) (c := 4) (c' := 10) (by decide) (by decide) (by decide), hv_ne (s := s) (k := k) (v := v) (c := 9) (c' := 10) (by decide) (by decide) (by decide), hv_eq (s := s) (k := k) (v := v) (c := 10) (by decide), hcr_ne (s := s) (k := k) (v := v) (c := 10) (by decide) (by decide), hse_ne (s := s) (v := v) (Or.inr (ix17 k 10)), hst_ne (s := s) (v := v) (ix2 k 10), up_ix (s := s) (k := k) (c := 10) (v := v) (j := 10) (by decide), up_ix (s := s) (k := k) (c := 10) (v := v) (j := 3) (by decide), up_ix (s := s) (k := k) (c := 10) (v := v) (j := 4) (by decide), up_ix (s := s) (k := k) (c := 10) (v := v) (j := 5) (by decide), up_ix (s := s) (k := k) (c := 10) (v := v) (j := 2) (by decide), up_ix (s := s) (k := k) (c := 10) (v := v) (j := 8) (by decide), up_ix (s := s) (k := k) (c := 10) (v := v) (j := 9) (by decide)]
  rfl

theorem hB_cr (G : vC) (h : Nat → Nat) (s : Nat → Int) (k w : Nat) (hw : w < 4) (v : Int) : (hB G h s).set 8 (h 8, .inl (G.2.1, 48, .inl (upd (hcr s) (k * 4 + w) (jI v)))) = hB G h (up s (ix k (5 + w)) v) := by
  unfold hB
  rw [hv_ne (s := s) (k := k) (v := v) (c := 0) (c' := 5 + w) (by decide) (by omega) (by omega), hv_ne (s := s) (k := k) (v := v) (c := 1) (c' := 5 + w) (by decide) (by omega) (by omega), hv_ne (s := s) (k := k) (v := v) (c := 2) (c' := 5 + w) (by decide) (by omega) (by omega), hv_ne (s := s) (k := k) (v := v) (c := 3) (c' := 5 + w) (by decide) (by omega) (by omega), hv_ne (s := s) (k := k) (v := v) (c := 4) (c' := 5 + w) (by decide) (by omega) (by omega), hv_ne (s := s) (k := k) (v := v) (c := 9) (c' := 5 + w) (by decide) (by omega) (by omega), hv_ne (s := s) (k := k) (v := v) (c := 10) (c' := 5 + w) (by decide) (by omega) (by omega), hcr_eq (s := s) (k := k) (v := v) hw, hse_ne (s := s) (v := v) (Or.inr (ix17 k (5 + w))), hst_ne (s := s) (v := v) (ix2 k (5 + w)), up_ix (s := s) (k := k) (c := 5 + w) (v := v) (j := 10) (by decide), up_ix (s := s) (k := k) (c := 5 + w) (v := v) (j := 3) (by decide), up_ix (s := s) (k := k) (c := 5 + w) (v := v) (j := 4) (by decide), up_ix (s := s) (k := k) (c := 5 + w) (v := v) (j := 5) (by decide), up_ix (s := s) (k := k) (c := 5 + w) (v := v) (j := 2) (by decide), up_ix (s := s) (k := k) (c := 5 + w) (v := v) (j := 8) (by decide), up_ix (s := s) (k := k) (c := 5 + w) (v := v) (j := 9) (by decide)]
  rfl

theorem hB_se (G : vC) (h : Nat → Nat) (s : Nat → Int) (f : Nat) (hf : f < 6) (v : Int) : (hB G h s).set 9 (h 9, .inl (G.2.1, 6, .inl (upd (hse s) f (jI v)))) = hB G h (up s (11 + f) v) := by
  unfold hB
  rw [hv_lo (s := s) (v := v) (c := 0) (j := 11 + f) (by omega), hv_lo (s := s) (v := v) (c := 1) (j := 11 + f) (by omega), hv_lo (s := s) (v := v) (c := 2) (j := 11 + f) (by omega), hv_lo (s := s) (v := v) (c := 3) (j := 11 + f) (by omega), hv_lo (s := s) (v := v) (c := 4) (j := 11 + f) (by omega), hv_lo (s := s) (v := v) (c := 9) (j := 11 + f) (by omega), hv_lo (s := s) (v := v) (c := 10) (j := 11 + f) (by omega), hcr_lo (s := s) (v := v) (j := 11 + f) (by omega), hse_eq (s := s) (v := v) hf, hst_ne (s := s) (v := v) (j := 11 + f) (by omega), up_ne (s := s) (k := 10) (j := 11 + f) (v := v) (by omega), up_ne (s := s) (k := 3) (j := 11 + f) (v := v) (by omega), up_ne (s := s) (k := 4) (j := 11 + f) (v := v) (by omega), up_ne (s := s) (k := 5) (j := 11 + f) (v := v) (by omega), up_ne (s := s) (k := 2) (j := 11 + f) (v := v) (by omega), up_ne (s := s) (k := 8) (j := 11 + f) (v := v) (by omega), up_ne (s := s) (k := 9) (j := 11 + f) (v := v) (by omega)]
  rfl

theorem hB_st (G : vC) (h : Nat → Nat) (s : Nat → Int) (f : Nat) (hf : f < 2) (v : Int) : (hB G h s).set 10 (h 10, .inl (G.2.1, 2, .inl (upd (hst s) f (jI v)))) = hB G h (up s (f) v) := by
  unfold hB
  rw [hv_lo (s := s) (v := v) (c := 0) (j := f) (by omega), hv_lo (s := s) (v := v) (c := 1) (j := f) (by omega), hv_lo (s := s) (v := v) (c := 2) (j := f) (by omega), hv_lo (s := s) (v := v) (c := 3) (j := f) (by omega), hv_lo (s := s) (v := v) (c := 4) (j := f) (by omega), hv_lo (s := s) (v := v) (c := 9) (j := f) (by omega), hv_lo (s := s) (v := v) (c := 10) (j := f) (by omega), hcr_lo (s := s) (v := v) (j := f) (by omega), hse_ne (s := s) (v := v) (j := f) (Or.inl (by omega)), hst_eq (s := s) (v := v) hf, up_ne (s := s) (k := 10) (j := f) (v := v) (by omega), up_ne (s := s) (k := 3) (j := f) (v := v) (by omega), up_ne (s := s) (k := 4) (j := f) (v := v) (by omega), up_ne (s := s) (k := 5) (j := f) (v := v) (by omega), up_ne (s := s) (k := 2) (j := f) (v := v) (by omega), up_ne (s := s) (k := 8) (j := f) (v := v) (by omega), up_ne (s := s) (k := 9) (j := f) (v := v) (by omega)]
  rfl

theorem hB_f10 (G : vC) (h : Nat → Nat) (s : Nat → Int) (v : Int) : (hB G h s).set 0 (h 0, .inr (1, [.ref (h 1), .ref (h 2), .ref (h 3), .ref (h 4), .ref (h 5), .ref (h 6), .ref (h 7), .ref (h 8), .ref (h 9), .ref (h 10), .int (jI v), .int (jI (s 3)), .int (jI (s 4)), .int (jI (s 5)), .int (jI (s 2)), .int (jI (s 8)), .int (jI (s 9))])) = hB G h (up s (10) v) := by
  unfold hB
  rw [hv_lo (s := s) (v := v) (c := 0) (j := 10) (by decide), hv_lo (s := s) (v := v) (c := 1) (j := 10) (by decide), hv_lo (s := s) (v := v) (c := 2) (j := 10) (by decide), hv_lo (s := s) (v := v) (c := 3) (j := 10) (by decide), hv_lo (s := s) (v := v) (c := 4) (j := 10) (by decide), hv_lo (s := s) (v := v) (c := 9) (j := 10) (by decide), hv_lo (s := s) (v := v) (c := 10) (j := 10) (by decide), hcr_lo (s := s) (v := v) (j := 10) (by decide), hse_ne (s := s) (v := v) (j := 10) (Or.inl (by decide)), hst_ne (s := s) (v := v) (j := 10) (by decide), up_eq (s := s) (j := 10) (v := v), up_ne (s := s) (k := 3) (j := 10) (v := v) (by decide), up_ne (s := s) (k := 4) (j := 10) (v := v) (by decide), up_ne (s := s) (k := 5) (j := 10) (v := v) (by decide), up_ne (s := s) (k := 2) (j := 10) (v := v) (by decide), up_ne (s := s) (k := 8) (j := 10) (v := v) (by decide), up_ne (s := s) (k := 9) (j := 10) (v := v) (by decide)]
  rfl

theorem hB_f11 (G : vC) (h : Nat → Nat) (s : Nat → Int) (v : Int) : (hB G h s).set 0 (h 0, .inr (1, [.ref (h 1), .ref (h 2), .ref (h 3), .ref (h 4), .ref (h 5), .ref (h 6), .ref (h 7), .ref (h 8), .ref (h 9), .ref (h 10), .int (jI (s 10)), .int (jI v), .int (jI (s 4)), .int (jI (s 5)), .int (jI (s 2)), .int (jI (s 8)), .int (jI (s 9))])) = hB G h (up s (3) v) := by
  unfold hB
  rw [hv_lo (s := s) (v := v) (c := 0) (j := 3) (by decide), hv_lo (s := s) (v := v) (c := 1) (j := 3) (by decide), hv_lo (s := s) (v := v) (c := 2) (j := 3) (by decide), hv_lo (s := s) (v := v) (c := 3) (j := 3) (by decide), hv_lo (s := s) (v := v) (c := 4) (j := 3) (by decide), hv_lo (s := s) (v := v) (c := 9) (j := 3) (by decide), hv_lo (s := s) (v := v) (c := 10) (j := 3) (by decide), hcr_lo (s := s) (v := v) (j := 3) (by decide), hse_ne (s := s) (v := v) (j := 3) (Or.inl (by decide)), hst_ne (s := s) (v := v) (j := 3) (by decide), up_ne (s := s) (k := 10) (j := 3) (v := v) (by decide), up_eq (s := s) (j := 3) (v := v), up_ne (s := s) (k := 4) (j := 3) (v := v) (by decide), up_ne (s := s) (k := 5) (j := 3) (v := v) (by decide), up_ne (s := s) (k := 2) (j := 3) (v := v) (by decide), up_ne (s := s) (k := 8) (j := 3) (v := v) (by decide), up_ne (s := s) (k := 9) (j := 3) (v := v) (by decide)]
  rfl

theorem hB_f12 (G : vC) (h : Nat → Nat) (s : Nat → Int) (v : Int) : (hB G h s).set 0 (h 0, .inr (1, [.ref (h 1), .ref (h 2), .ref (h 3), .ref (h 4), .ref (h 5), .ref (h 6), .ref (h 7), .ref (h 8), .ref (h 9), .ref (h 10), .int (jI (s 10)), .int (jI (s 3)), .int (jI v), .int (jI (s 5)), .int (jI (s 2)), .int (jI (s 8)), .int (jI (s 9))])) = hB G h (up s (4) v) := by
  unfold hB
  rw [hv_lo (s := s) (v := v) (c := 0) (j := 4) (by decide), hv_lo (s := s) (v := v) (c := 1) (j := 4) (by decide), hv_lo (s := s) (v := v) (c := 2) (j := 4) (by decide), hv_lo (s := s) (v := v) (c := 3) (j := 4) (by decide), hv_lo (s := s) (v := v) (c := 4) (j := 4) (by decide), hv_lo (s := s) (v := v) (c := 9) (j := 4) (by decide), hv_lo (s := s) (v := v) (c := 10) (j := 4) (by decide), hcr_lo (s := s) (v := v) (j := 4) (by decide), hse_ne (s := s) (v := v) (j := 4) (Or.inl (by decide)), hst_ne (s := s) (v := v) (j := 4) (by decide), up_ne (s := s) (k := 10) (j := 4) (v := v) (by decide), up_ne (s := s) (k := 3) (j := 4) (v := v) (by decide), up_eq (s := s) (j := 4) (v := v), up_ne (s := s) (k := 5) (j := 4) (v := v) (by decide), up_ne (s := s) (k := 2) (j := 4) (v := v) (by decide), up_ne (s := s) (k := 8) (j := 4) (v := v) (by decide), up_ne (s := s) (k := 9) (j := 4) (v := v) (by decide)]
  rfl

theorem hB_f13 (G : vC) (h : Nat → Nat) (s : Nat → Int) (v : Int) : (hB G h s).set 0 (h 0, .inr (1, [.ref (h 1), .ref (h 2), .ref (h 3), .ref (h 4), .ref (h 5), .ref (h 6), .ref (h 7), .ref (h 8), .ref (h 9), .ref (h 10), .int (jI (s 10)), .int (jI (s 3)), .int (jI (s 4)), .int (jI v), .int (jI (s 2)), .int (jI (s 8)), .int (jI (s 9))])) = hB G h (up s (5) v) := by
  unfold hB
  rw [hv_lo (s := s) (v := v) (c := 0) (j := 5) (by decide), hv_lo (s := s) (v := v) (c := 1) (j := 5) (by decide), hv_lo (s := s) (v := v) (c := 2) (j := 5) (by decide), hv_lo (s := s) (v := v) (c := 3) (j := 5) (by decide), hv_lo (s := s) (v := v) (c := 4) (j := 5) (by decide), hv_lo (s := s) (v := v) (c := 9) (j := 5) (by decide), hv_lo (s := s) (v := v) (c := 10) (j := 5) (by decide), hcr_lo (s := s) (v := v) (j := 5) (by decide), hse_ne (s := s) (v := v) (j := 5) (Or.inl (by decide)), hst_ne (s := s) (v := v) (j := 5) (by decide), up_ne (s := s) (k := 10) (j := 5) (v := v) (by decide), up_ne (s := s) (k := 3) (j := 5) (v := v) (by decide), up_ne (s := s) (k := 4) (j := 5) (v := v) (by decide), up_eq (s := s) (j := 5) (v := v), up_ne (s := s) (k := 2) (j := 5) (v := v) (by decide), up_ne (s := s) (k := 8) (j := 5) (v := v) (by decide), up_ne (s := s) (k := 9) (j := 5) (v := v) (by decide)]
  rfl

theorem hB_f14 (G : vC) (h : Nat → Nat) (s : Nat → Int) (v : Int) : (hB G h s).set 0 (h 0, .inr (1, [.ref (h 1), .ref (h 2), .ref (h 3), .ref (h 4), .ref (h 5), .ref (h 6), .ref (h 7), .ref (h 8), .ref (h 9), .ref (h 10), .int (jI (s 10)), .int (jI (s 3)), .int (jI (s 4)), .int (jI (s 5)), .int (jI v), .int (jI (s 8)), .int (jI (s 9))])) = hB G h (up s (2) v) := by
  unfold hB
  rw [hv_lo (s := s) (v := v) (c := 0) (j := 2) (by decide), hv_lo (s := s) (v := v) (c := 1) (j := 2) (by decide), hv_lo (s := s) (v := v) (c := 2) (j := 2) (by decide), hv_lo (s := s) (v := v) (c := 3) (j := 2) (by decide), hv_lo (s := s) (v := v) (c := 4) (j := 2) (by decide), hv_lo (s := s) (v := v) (c := 9) (j := 2) (by decide), hv_lo (s := s) (v := v) (c := 10) (j := 2) (by decide), hcr_lo (s := s) (v := v) (j := 2) (by decide), hse_ne (s := s) (v := v) (j := 2) (Or.inl (by decide)), hst_ne (s := s) (v := v) (j := 2) (by decide), up_ne (s := s) (k := 10) (j := 2) (v := v) (by decide), up_ne (s := s) (k := 3) (j := 2) (v := v) (by decide), up_ne (s := s) (k := 4) (j := 2) (v := v) (by decide), up_ne (s := s) (k := 5) (j := 2) (v := v) (by decide), up_eq (s := s) (j := 2) (v := v), up_ne (s := s) (k := 8) (j := 2) (v := v) (by decide), up_ne (s := s) (k := 9) (j := 2) (v := v) (by decide)]
  rfl

theorem hB_f15 (G : vC) (h : Nat → Nat) (s : Nat → Int) (v : Int) : (hB G h s).set 0 (h 0, .inr (1, [.ref (h 1), .ref (h 2), .ref (h 3), .ref (h 4), .ref (h 5), .ref (h 6), .ref (h 7), .ref (h 8), .ref (h 9), .ref (h 10), .int (jI (s 10)), .int (jI (s 3)), .int (jI (s 4)), .int (jI (s 5)), .int (jI (s 2)), .int (jI v), .int (jI (s 9))])) = hB G h (up s (8) v) := by
  unfold hB
  rw [hv_lo (s := s) (v := v) (c := 0) (j := 8) (by decide), hv_lo (s := s) (v := v) (c := 1) (j := 8) (by decide), hv_lo (s := s) (v := v) (c := 2) (j := 8) (by decide), hv_lo (s := s) (v := v) (c := 3) (j := 8) (by decide), hv_lo (s := s) (v := v) (c := 4) (j := 8) (by decide), hv_lo (s := s) (v := v) (c := 9) (j := 8) (by decide), hv_lo (s := s) (v := v) (c := 10) (j := 8) (by decide), hcr_lo (s := s) (v := v) (j := 8) (by decide), hse_ne (s := s) (v := v) (j := 8) (Or.inl (by decide)), hst_ne (s := s) (v := v) (j := 8) (by decide), up_ne (s := s) (k := 10) (j := 8) (v := v) (by decide), up_ne (s := s) (k := 3) (j := 8) (v := v) (by decide), up_ne (s := s) (k := 4) (j := 8) (v := v) (by decide), up_ne (s := s) (k := 5) (j := 8) (v := v) (by decide), up_ne (s := s) (k := 2) (j := 8) (v := v) (by decide), up_eq (s := s) (j := 8) (v := v), up_ne (s := s) (k := 9) (j := 8) (v := v) (by decide)]
  rfl

theorem hB_f16 (G : vC) (h : Nat → Nat) (s : Nat → Int) (v : Int) : (hB G h s).set 0 (h 0, .inr (1, [.ref (h 1), .ref (h 2), .ref (h 3), .ref (h 4), .ref (h 5), .ref (h 6), .ref (h 7), .ref (h 8), .ref (h 9), .ref (h 10), .int (jI (s 10)), .int (jI (s 3)), .int (jI (s 4)), .int (jI (s 5)), .int (jI (s 2)), .int (jI (s 8)), .int (jI v)])) = hB G h (up s (9) v) := by
  unfold hB
  rw [hv_lo (s := s) (v := v) (c := 0) (j := 9) (by decide), hv_lo (s := s) (v := v) (c := 1) (j := 9) (by decide), hv_lo (s := s) (v := v) (c := 2) (j := 9) (by decide), hv_lo (s := s) (v := v) (c := 3) (j := 9) (by decide), hv_lo (s := s) (v := v) (c := 4) (j := 9) (by decide), hv_lo (s := s) (v := v) (c := 9) (j := 9) (by decide), hv_lo (s := s) (v := v) (c := 10) (j := 9) (by decide), hcr_lo (s := s) (v := v) (j := 9) (by decide), hse_ne (s := s) (v := v) (j := 9) (Or.inl (by decide)), hst_ne (s := s) (v := v) (j := 9) (by decide), up_ne (s := s) (k := 10) (j := 9) (v := v) (by decide), up_ne (s := s) (k := 3) (j := 9) (v := v) (by decide), up_ne (s := s) (k := 4) (j := 9) (v := v) (by decide), up_ne (s := s) (k := 5) (j := 9) (v := v) (by decide), up_ne (s := s) (k := 2) (j := 9) (v := v) (by decide), up_ne (s := s) (k := 8) (j := 9) (v := v) (by decide), up_eq (s := s) (j := 9) (v := v)]
  rfl

theorem hB_g6 (G : vC) (h : Nat → Nat) (s : Nat → Int) (v : Int) : hB G h s = hB G h (up s (6) v) := by
  unfold hB
  rw [hv_lo (s := s) (v := v) (c := 0) (j := 6) (by decide), hv_lo (s := s) (v := v) (c := 1) (j := 6) (by decide), hv_lo (s := s) (v := v) (c := 2) (j := 6) (by decide), hv_lo (s := s) (v := v) (c := 3) (j := 6) (by decide), hv_lo (s := s) (v := v) (c := 4) (j := 6) (by decide), hv_lo (s := s) (v := v) (c := 9) (j := 6) (by decide), hv_lo (s := s) (v := v) (c := 10) (j := 6) (by decide), hcr_lo (s := s) (v := v) (j := 6) (by decide), hse_ne (s := s) (v := v) (j := 6) (Or.inl (by decide)), hst_ne (s := s) (v := v) (j := 6) (by decide), up_ne (s := s) (k := 10) (j := 6) (v := v) (by decide), up_ne (s := s) (k := 3) (j := 6) (v := v) (by decide), up_ne (s := s) (k := 4) (j := 6) (v := v) (by decide), up_ne (s := s) (k := 5) (j := 6) (v := v) (by decide), up_ne (s := s) (k := 2) (j := 6) (v := v) (by decide), up_ne (s := s) (k := 8) (j := 6) (v := v) (by decide), up_ne (s := s) (k := 9) (j := 6) (v := v) (by decide)]

theorem hB_g7 (G : vC) (h : Nat → Nat) (s : Nat → Int) (v : Int) : hB G h s = hB G h (up s (7) v) := by
  unfold hB
  rw [hv_lo (s := s) (v := v) (c := 0) (j := 7) (by decide), hv_lo (s := s) (v := v) (c := 1) (j := 7) (by decide), hv_lo (s := s) (v := v) (c := 2) (j := 7) (by decide), hv_lo (s := s) (v := v) (c := 3) (j := 7) (by decide), hv_lo (s := s) (v := v) (c := 4) (j := 7) (by decide), hv_lo (s := s) (v := v) (c := 9) (j := 7) (by decide), hv_lo (s := s) (v := v) (c := 10) (j := 7) (by decide), hcr_lo (s := s) (v := v) (j := 7) (by decide), hse_ne (s := s) (v := v) (j := 7) (Or.inl (by decide)), hst_ne (s := s) (v := v) (j := 7) (by decide), up_ne (s := s) (k := 10) (j := 7) (v := v) (by decide), up_ne (s := s) (k := 3) (j := 7) (v := v) (by decide), up_ne (s := s) (k := 4) (j := 7) (v := v) (by decide), up_ne (s := s) (k := 5) (j := 7) (v := v) (by decide), up_ne (s := s) (k := 2) (j := 7) (v := v) (by decide), up_ne (s := s) (k := 8) (j := 7) (v := v) (by decide), up_ne (s := s) (k := 9) (j := 7) (v := v) (by decide)]

/-- the check's object: its row, the spare one, the history, the snapshot, the text, and its numbers g by their places -/
def mI (f : Nat → Int) : Nat → Int32 := fun k => jI (f k)
theorem mI_upd (f : Nat → Int) (k : Nat) (v : Int) : upd (mI f) k (jI v) = mI (up f k v) := by
  funext j; unfold mI upd up; split <;> rfl
def mB (G : vC) (m : Nat → Nat) (s sp hi sn tx : Nat → Int) (g : Nat → Int) : va_W :=
  [(m 0, .inr (5, [.ref (m 1), .ref (m 2), .ref (m 3), .int (jI (g 3)), .ref (m 4), .int (jI (g 5)), .ref (m 5), .int (jI (g 7)), .int (jI (g 8)), .int (jI (g 9)), .int (jI (g 10)), .int (jI (g 11)), .int (jI (g 12)), .int (jI (g 13))])),
   (m 1, .inl (G.2.1, 149, .inl (mI s))), (m 2, .inl (G.2.1, 149, .inl (mI sp))), (m 3, .inl (G.2.1, 596, .inl (mI hi))), (m 4, .inl (G.2.1, 149, .inl (mI sn))), (m 5, .inl (G.2.1, 60, .inl (mI tx)))]
/-- a ballot: with or without lobby; the weights in 64ths as floats; the votes -/
def cd (k : Nat) : FP.Core.Datum := FP.Core.roundRatio FP.Core.b32 false k 1 (-6)
def fB (k : Nat) : UInt32 := FP.Core.of32 (cd k)
def bW (W : Nat → Nat) : Nat → UInt32 := fun k => fB (W k)
def bB (G : vC) (b : Nat → Nat) (lob : Bool) (W : Nat → Nat) (vf : Nat → Int) : va_W :=
  [(b 0, .inr (0, [.int (jI (bI (lob = true))), .ref (b 1), .ref (b 2)])), (b 1, .inl (G.2.2.1, 4, .inr (.inr (.inl (bW W))))), (b 2, .inl (G.2.1, 6, .inl (mI vf)))]
/-- the history: which houses it holds, and how many count -/
def pB (G : vC) (p : Nat → Nat) (f : Nat → Option Nat) (sz : Int) : va_W :=
  [(p 0, .inr (2, [.ref (p 1), .int (jI sz)])), (p 1, .inl (G.2.2.2.2, 4, .inr (.inr (.inr (.inr f)))))]
/-- the sitting: its characters, its things, its numbers: length 4, things 5, at 6 -/
def sB (G : vC) (t : Nat → Nat) (ch ki fi se : Nat → Int) (g : Nat → Int) : va_W :=
  [(t 0, .inr (3, [.ref (t 1), .ref (t 2), .ref (t 3), .ref (t 4), .int (jI (g 4)), .int (jI (g 5)), .int (jI (g 6))])),
   (t 1, .inl (G.2.2.2.1, 60, .inl (mI ch))), (t 2, .inl (G.2.1, 30, .inl (mI ki))), (t 3, .inl (G.2.1, 30, .inl (mI fi))), (t 4, .inl (G.2.1, 30, .inl (mI se)))]
/-- a loop that counts up -/
theorem up_ind (P : Nat → Prop) (N : Nat) (h : ∀ k, k ≤ N → (k < N → P (k + 1)) → P k) : ∀ k, k ≤ N → P k := by
  intro k hk
  obtain ⟨d, hd⟩ : ∃ d, N - k = d := ⟨_, rfl⟩
  induction d generalizing k with
  | zero => exact h k hk (fun q => by omega)
  | succ d ih => exact h k hk (fun q => ih (k + 1) (by omega) (by omega))
end
section
theorem fb_char {n : Nat} (h : n < 65536) : (nI n).toUInt32.toUInt16.toUInt32.toInt32 = nI n := by
  apply Int32.toBitVec_inj.1
  apply BitVec.eq_of_toNat_eq
  have e1 : (nI n).toBitVec.toNat = n := by
    show (BitVec.ofNat 32 n).toNat = n
    rw [BitVec.toNat_ofNat, Nat.mod_eq_of_lt (by omega)]
  have e2 : ((nI n).toUInt32.toUInt16.toUInt32).toNat = n := by
    rw [UInt16.toNat_toUInt32, UInt32.toNat_toUInt16]
    show (nI n).toBitVec.toNat % 2 ^ 16 = n
    rw [e1, Nat.mod_eq_of_lt (by omega)]
  rw [e1]
  exact e2

/-! helpers of the walks -/
theorem bI_t {c : Prop} [Decidable c] (h : c) : bI c = 1 := if_pos h
theorem bI_f {c : Prop} [Decidable c] (h : ¬ c) : bI c = 0 := if_neg h
theorem bI_c {c d : Prop} [Decidable c] [Decidable d] (h : c ↔ d) : bI c = bI d := by
  by_cases q : c
  · rw [bI_t q, bI_t (h.mp q)]
  · rw [bI_f q, bI_f (fun z => q (h.mpr z))]
theorem nb_bI (c : Prop) [Decidable c] : narrow .boolean (.int (jI (bI c))) = .int (jI (bI c)) := by unfold bI; split <;> rfl
theorem set_l {B B' r : va_W} {p : Nat} {x : Nat × va_E} (h : B.set p x = B') (hp : p < B.length) : (B ++ r).set p x = B' ++ r := by
  rw [List.set_append_left _ _ hp, h]
theorem set_r {B r r' : va_W} {q p : Nat} {x : Nat × va_E} (hq : q = B.length + p) (h : r.set p x = r') : (B ++ r).set q x = B ++ r' := by
  subst hq
  rw [List.set_append_right _ _ (Nat.le_add_right _ _), Nat.add_sub_cancel_left, h]
theorem lk_out {ps : List (Int × Int)} {dflt k : Int} (h : ∀ q ∈ ps, q.1 ≠ k) : Op.lookupswitch.offset ps dflt k = dflt := by
  exact Op.lookupswitch.offset_none (List.find?_eq_none.mpr (fun q hq => by simp [h q hq]))

theorem mB_g3 (G : vC) (m : Nat → Nat) (s sp hi sn tx g : Nat → Int) (v : Int) : (mB G m s sp hi sn tx g).set 0 (m 0, .inr (5, [.ref (m 1), .ref (m 2), .ref (m 3), .int (jI v), .ref (m 4), .int (jI (g 5)), .ref (m 5), .int (jI (g 7)), .int (jI (g 8)), .int (jI (g 9)), .int (jI (g 10)), .int (jI (g 11)), .int (jI (g 12)), .int (jI (g 13))])) = mB G m s sp hi sn tx (up g 3 v) := by
  unfold mB
  rw [up_eq (s := g) (j := 3) (v := v), up_ne (s := g) (k := 5) (j := 3) (v := v) (by decide), up_ne (s := g) (k := 7) (j := 3) (v := v) (by decide), up_ne (s := g) (k := 8) (j := 3) (v := v) (by decide), up_ne (s := g) (k := 9) (j := 3) (v := v) (by decide), up_ne (s := g) (k := 10) (j := 3) (v := v) (by decide), up_ne (s := g) (k := 11) (j := 3) (v := v) (by decide), up_ne (s := g) (k := 12) (j := 3) (v := v) (by decide), up_ne (s := g) (k := 13) (j := 3) (v := v) (by decide)]
  rfl

theorem mB_g5 (G : vC) (m : Nat → Nat) (s sp hi sn tx g : Nat → Int) (v : Int) : (mB G m s sp hi sn tx g).set 0 (m 0, .inr (5, [.ref (m 1), .ref (m 2), .ref (m 3), .int (jI (g 3)), .ref (m 4), .int (jI v), .ref (m 5), .int (jI (g 7)), .int (jI (g 8)), .int (jI (g 9)), .int (jI (g 10)), .int (jI (g 11)), .int (jI (g 12)), .int (jI (g 13))])) = mB G m s sp hi sn tx (up g 5 v) := by
  unfold mB
  rw [up_ne (s := g) (k := 3) (j := 5) (v := v) (by decide), up_eq (s := g) (j := 5) (v := v), up_ne (s := g) (k := 7) (j := 5) (v := v) (by decide), up_ne (s := g) (k := 8) (j := 5) (v := v) (by decide), up_ne (s := g) (k := 9) (j := 5) (v := v) (by decide), up_ne (s := g) (k := 10) (j := 5) (v := v) (by decide), up_ne (s := g) (k := 11) (j := 5) (v := v) (by decide), up_ne (s := g) (k := 12) (j := 5) (v := v) (by decide), up_ne (s := g) (k := 13) (j := 5) (v := v) (by decide)]
  rfl

theorem mB_g7 (G : vC) (m : Nat → Nat) (s sp hi sn tx g : Nat → Int) (v : Int) : (mB G m s sp hi sn tx g).set 0 (m 0, .inr (5, [.ref (m 1), .ref (m 2), .ref (m 3), .int (jI (g 3)), .ref (m 4), .int (jI (g 5)), .ref (m 5), .int (jI v), .int (jI (g 8)), .int (jI (g 9)), .int (jI (g 10)), .int (jI (g 11)), .int (jI (g 12)), .int (jI (g 13))])) = mB G m s sp hi sn tx (up g 7 v) := by
  unfold mB
  rw [up_ne (s := g) (k := 3) (j := 7) (v := v) (by decide), up_ne (s := g) (k := 5) (j := 7) (v := v) (by decide), up_eq (s := g) (j := 7) (v := v), up_ne (s := g) (k := 8) (j := 7) (v := v) (by decide), up_ne (s := g) (k := 9) (j := 7) (v := v) (by decide), up_ne (s := g) (k := 10) (j := 7) (v := v) (by decide), up_ne (s := g) (k := 11) (j := 7) (v := v) (by decide), up_ne (s := g) (k := 12) (j := 7) (v := v) (by decide), up_ne (s := g) (k := 13) (j := 7) (v := v) (by decide)]
  rfl

theorem mB_g8 (G : vC) (m : Nat → Nat) (s sp hi sn tx g : Nat → Int) (v : Int) : (mB G m s sp hi sn tx g).set 0 (m 0, .inr (5, [.ref (m 1), .ref (m 2), .ref (m 3), .int (jI (g 3)), .ref (m 4), .int (jI (g 5)), .ref (m 5), .int (jI (g 7)), .int (jI v), .int (jI (g 9)), .int (jI (g 10)), .int (jI (g 11)), .int (jI (g 12)), .int (jI (g 13))])) = mB G m s sp hi sn tx (up g 8 v) := by
  unfold mB
  rw [up_ne (s := g) (k := 3) (j := 8) (v := v) (by decide), up_ne (s := g) (k := 5) (j := 8) (v := v) (by decide), up_ne (s := g) (k := 7) (j := 8) (v := v) (by decide), up_eq (s := g) (j := 8) (v := v), up_ne (s := g) (k := 9) (j := 8) (v := v) (by decide), up_ne (s := g) (k := 10) (j := 8) (v := v) (by decide), up_ne (s := g) (k := 11) (j := 8) (v := v) (by decide), up_ne (s := g) (k := 12) (j := 8) (v := v) (by decide), up_ne (s := g) (k := 13) (j := 8) (v := v) (by decide)]
  rfl

theorem mB_g9 (G : vC) (m : Nat → Nat) (s sp hi sn tx g : Nat → Int) (v : Int) : (mB G m s sp hi sn tx g).set 0 (m 0, .inr (5, [.ref (m 1), .ref (m 2), .ref (m 3), .int (jI (g 3)), .ref (m 4), .int (jI (g 5)), .ref (m 5), .int (jI (g 7)), .int (jI (g 8)), .int (jI v), .int (jI (g 10)), .int (jI (g 11)), .int (jI (g 12)), .int (jI (g 13))])) = mB G m s sp hi sn tx (up g 9 v) := by
  unfold mB
  rw [up_ne (s := g) (k := 3) (j := 9) (v := v) (by decide), up_ne (s := g) (k := 5) (j := 9) (v := v) (by decide), up_ne (s := g) (k := 7) (j := 9) (v := v) (by decide), up_ne (s := g) (k := 8) (j := 9) (v := v) (by decide), up_eq (s := g) (j := 9) (v := v), up_ne (s := g) (k := 10) (j := 9) (v := v) (by decide), up_ne (s := g) (k := 11) (j := 9) (v := v) (by decide), up_ne (s := g) (k := 12) (j := 9) (v := v) (by decide), up_ne (s := g) (k := 13) (j := 9) (v := v) (by decide)]
  rfl

theorem mB_g10 (G : vC) (m : Nat → Nat) (s sp hi sn tx g : Nat → Int) (v : Int) : (mB G m s sp hi sn tx g).set 0 (m 0, .inr (5, [.ref (m 1), .ref (m 2), .ref (m 3), .int (jI (g 3)), .ref (m 4), .int (jI (g 5)), .ref (m 5), .int (jI (g 7)), .int (jI (g 8)), .int (jI (g 9)), .int (jI v), .int (jI (g 11)), .int (jI (g 12)), .int (jI (g 13))])) = mB G m s sp hi sn tx (up g 10 v) := by
  unfold mB
  rw [up_ne (s := g) (k := 3) (j := 10) (v := v) (by decide), up_ne (s := g) (k := 5) (j := 10) (v := v) (by decide), up_ne (s := g) (k := 7) (j := 10) (v := v) (by decide), up_ne (s := g) (k := 8) (j := 10) (v := v) (by decide), up_ne (s := g) (k := 9) (j := 10) (v := v) (by decide), up_eq (s := g) (j := 10) (v := v), up_ne (s := g) (k := 11) (j := 10) (v := v) (by decide), up_ne (s := g) (k := 12) (j := 10) (v := v) (by decide), up_ne (s := g) (k := 13) (j := 10) (v := v) (by decide)]
  rfl

theorem mB_g11 (G : vC) (m : Nat → Nat) (s sp hi sn tx g : Nat → Int) (v : Int) : (mB G m s sp hi sn tx g).set 0 (m 0, .inr (5, [.ref (m 1), .ref (m 2), .ref (m 3), .int (jI (g 3)), .ref (m 4), .int (jI (g 5)), .ref (m 5), .int (jI (g 7)), .int (jI (g 8)), .int (jI (g 9)), .int (jI (g 10)), .int (jI v), .int (jI (g 12)), .int (jI (g 13))])) = mB G m s sp hi sn tx (up g 11 v) := by
  unfold mB
  rw [up_ne (s := g) (k := 3) (j := 11) (v := v) (by decide), up_ne (s := g) (k := 5) (j := 11) (v := v) (by decide), up_ne (s := g) (k := 7) (j := 11) (v := v) (by decide), up_ne (s := g) (k := 8) (j := 11) (v := v) (by decide), up_ne (s := g) (k := 9) (j := 11) (v := v) (by decide), up_ne (s := g) (k := 10) (j := 11) (v := v) (by decide), up_eq (s := g) (j := 11) (v := v), up_ne (s := g) (k := 12) (j := 11) (v := v) (by decide), up_ne (s := g) (k := 13) (j := 11) (v := v) (by decide)]
  rfl

theorem mB_g12 (G : vC) (m : Nat → Nat) (s sp hi sn tx g : Nat → Int) (v : Int) : (mB G m s sp hi sn tx g).set 0 (m 0, .inr (5, [.ref (m 1), .ref (m 2), .ref (m 3), .int (jI (g 3)), .ref (m 4), .int (jI (g 5)), .ref (m 5), .int (jI (g 7)), .int (jI (g 8)), .int (jI (g 9)), .int (jI (g 10)), .int (jI (g 11)), .int (jI v), .int (jI (g 13))])) = mB G m s sp hi sn tx (up g 12 v) := by
  unfold mB
  rw [up_ne (s := g) (k := 3) (j := 12) (v := v) (by decide), up_ne (s := g) (k := 5) (j := 12) (v := v) (by decide), up_ne (s := g) (k := 7) (j := 12) (v := v) (by decide), up_ne (s := g) (k := 8) (j := 12) (v := v) (by decide), up_ne (s := g) (k := 9) (j := 12) (v := v) (by decide), up_ne (s := g) (k := 10) (j := 12) (v := v) (by decide), up_ne (s := g) (k := 11) (j := 12) (v := v) (by decide), up_eq (s := g) (j := 12) (v := v), up_ne (s := g) (k := 13) (j := 12) (v := v) (by decide)]
  rfl

theorem mB_g13 (G : vC) (m : Nat → Nat) (s sp hi sn tx g : Nat → Int) (v : Int) : (mB G m s sp hi sn tx g).set 0 (m 0, .inr (5, [.ref (m 1), .ref (m 2), .ref (m 3), .int (jI (g 3)), .ref (m 4), .int (jI (g 5)), .ref (m 5), .int (jI (g 7)), .int (jI (g 8)), .int (jI (g 9)), .int (jI (g 10)), .int (jI (g 11)), .int (jI (g 12)), .int (jI v)])) = mB G m s sp hi sn tx (up g 13 v) := by
  unfold mB
  rw [up_ne (s := g) (k := 3) (j := 13) (v := v) (by decide), up_ne (s := g) (k := 5) (j := 13) (v := v) (by decide), up_ne (s := g) (k := 7) (j := 13) (v := v) (by decide), up_ne (s := g) (k := 8) (j := 13) (v := v) (by decide), up_ne (s := g) (k := 9) (j := 13) (v := v) (by decide), up_ne (s := g) (k := 10) (j := 13) (v := v) (by decide), up_ne (s := g) (k := 11) (j := 13) (v := v) (by decide), up_ne (s := g) (k := 12) (j := 13) (v := v) (by decide), up_eq (s := g) (j := 13) (v := v)]
  rfl

theorem mB_w1 (G : vC) (m : Nat → Nat) (s sp hi sn tx g : Nat → Int) (k : Nat) (v : Int) : (mB G m s sp hi sn tx g).set 1 (m 1, .inl (G.2.1, 149, .inl (upd (mI s) k (jI v)))) = mB G m (up s k v) sp hi sn tx g := by
  unfold mB
  rw [← mI_upd]
  rfl

theorem mB_w2 (G : vC) (m : Nat → Nat) (s sp hi sn tx g : Nat → Int) (k : Nat) (v : Int) : (mB G m s sp hi sn tx g).set 2 (m 2, .inl (G.2.1, 149, .inl (upd (mI sp) k (jI v)))) = mB G m s (up sp k v) hi sn tx g := by
  unfold mB
  rw [← mI_upd]
  rfl

theorem mB_w3 (G : vC) (m : Nat → Nat) (s sp hi sn tx g : Nat → Int) (k : Nat) (v : Int) : (mB G m s sp hi sn tx g).set 3 (m 3, .inl (G.2.1, 596, .inl (upd (mI hi) k (jI v)))) = mB G m s sp (up hi k v) sn tx g := by
  unfold mB
  rw [← mI_upd]
  rfl

theorem mB_w4 (G : vC) (m : Nat → Nat) (s sp hi sn tx g : Nat → Int) (k : Nat) (v : Int) : (mB G m s sp hi sn tx g).set 4 (m 4, .inl (G.2.1, 149, .inl (upd (mI sn) k (jI v)))) = mB G m s sp hi (up sn k v) tx g := by
  unfold mB
  rw [← mI_upd]
  rfl

theorem mB_w5 (G : vC) (m : Nat → Nat) (s sp hi sn tx g : Nat → Int) (k : Nat) (v : Int) : (mB G m s sp hi sn tx g).set 5 (m 5, .inl (G.2.1, 60, .inl (upd (mI tx) k (jI v)))) = mB G m s sp hi sn (up tx k v) g := by
  unfold mB
  rw [← mI_upd]
  rfl

theorem sB_g4 (G : vC) (t : Nat → Nat) (ch ki fi se g : Nat → Int) (v : Int) : (sB G t ch ki fi se g).set 0 (t 0, .inr (3, [.ref (t 1), .ref (t 2), .ref (t 3), .ref (t 4), .int (jI v), .int (jI (g 5)), .int (jI (g 6))])) = sB G t ch ki fi se (up g 4 v) := by
  unfold sB
  rw [up_eq (s := g) (j := 4) (v := v), up_ne (s := g) (k := 5) (j := 4) (v := v) (by decide), up_ne (s := g) (k := 6) (j := 4) (v := v) (by decide)]
  rfl

theorem sB_g5 (G : vC) (t : Nat → Nat) (ch ki fi se g : Nat → Int) (v : Int) : (sB G t ch ki fi se g).set 0 (t 0, .inr (3, [.ref (t 1), .ref (t 2), .ref (t 3), .ref (t 4), .int (jI (g 4)), .int (jI v), .int (jI (g 6))])) = sB G t ch ki fi se (up g 5 v) := by
  unfold sB
  rw [up_ne (s := g) (k := 4) (j := 5) (v := v) (by decide), up_eq (s := g) (j := 5) (v := v), up_ne (s := g) (k := 6) (j := 5) (v := v) (by decide)]
  rfl

theorem sB_g6 (G : vC) (t : Nat → Nat) (ch ki fi se g : Nat → Int) (v : Int) : (sB G t ch ki fi se g).set 0 (t 0, .inr (3, [.ref (t 1), .ref (t 2), .ref (t 3), .ref (t 4), .int (jI (g 4)), .int (jI (g 5)), .int (jI v)])) = sB G t ch ki fi se (up g 6 v) := by
  unfold sB
  rw [up_ne (s := g) (k := 4) (j := 6) (v := v) (by decide), up_ne (s := g) (k := 5) (j := 6) (v := v) (by decide), up_eq (s := g) (j := 6) (v := v)]
  rfl

theorem sB_w2 (G : vC) (t : Nat → Nat) (ch ki fi se g : Nat → Int) (k : Nat) (v : Int) : (sB G t ch ki fi se g).set 2 (t 2, .inl (G.2.1, 30, .inl (upd (mI ki) k (jI v)))) = sB G t ch (up ki k v) fi se g := by
  unfold sB
  rw [← mI_upd]
  rfl

theorem sB_w3 (G : vC) (t : Nat → Nat) (ch ki fi se g : Nat → Int) (k : Nat) (v : Int) : (sB G t ch ki fi se g).set 3 (t 3, .inl (G.2.1, 30, .inl (upd (mI fi) k (jI v)))) = sB G t ch ki (up fi k v) se g := by
  unfold sB
  rw [← mI_upd]
  rfl

theorem sB_w4 (G : vC) (t : Nat → Nat) (ch ki fi se g : Nat → Int) (k : Nat) (v : Int) : (sB G t ch ki fi se g).set 4 (t 4, .inl (G.2.1, 30, .inl (upd (mI se) k (jI v)))) = sB G t ch ki fi (up se k v) g := by
  unfold sB
  rw [← mI_upd]
  rfl

theorem vp_nar_c {v : Int} (h0 : 0 ≤ v) (h1 : v < 65536) : vp_nar .char (jI v) = jI v := by
  obtain ⟨k, rfl⟩ := Int.eq_ofNat_of_zero_le h0
  rw [vp_nar_char, ← jI_nI]
  exact fb_char (by omega)
theorem sB_w1 (G : vC) (t : Nat → Nat) (ch ki fi se g : Nat → Int) (k : Nat) (v : Int) (h0 : 0 ≤ v) (h1 : v < 65536) : (sB G t ch ki fi se g).set 1 (t 1, .inl (G.2.2.2.1, 60, .inl (upd (mI ch) k (vp_nar .char (jI v))))) = sB G t (up ch k v) ki fi se g := by
  rw [vp_nar_c h0 h1]
  unfold sB
  rw [← mI_upd]
  rfl
def upN (f : Nat → Nat) (k v : Nat) : Nat → Nat := fun j => if j = k then v else f j
theorem bB_w (G : vC) (b : Nat → Nat) (lob : Bool) (W : Nat → Nat) (vf : Nat → Int) (k v : Nat) : (bB G b lob W vf).set 1 (b 1, .inl (G.2.2.1, 4, .inr (.inr (.inl (vf_upd (bW W) k (fB v)))))) = bB G b lob (upN W k v) vf := by
  have e : vf_upd (bW W) k (fB v) = bW (upN W k v) := by funext j; unfold vf_upd bW upN; split <;> rfl
  rw [e]
  rfl
theorem fB_0 : FP.fconst0 = fB 0 := by decide +kernel
theorem bB_w0 (G : vC) (b : Nat → Nat) (lob : Bool) (W : Nat → Nat) (vf : Nat → Int) (k : Nat) : (bB G b lob W vf).set 1 (b 1, .inl (G.2.2.1, 4, .inr (.inr (.inl (vf_upd (bW W) k FP.fconst0))))) = bB G b lob (upN W k 0) vf := by
  rw [fB_0]
  exact bB_w G b lob W vf k 0
theorem bB_v (G : vC) (b : Nat → Nat) (lob : Bool) (W : Nat → Nat) (vf : Nat → Int) (k : Nat) (v : Int) : (bB G b lob W vf).set 2 (b 2, .inl (G.2.1, 6, .inl (upd (mI vf) k (jI v)))) = bB G b lob W (up vf k v) := by
  rw [mI_upd]
  rfl

/-! what a state is: its bounds, t being the last tick -/
def crN (s : Nat → Int) (k : Nat) : Int := s (ix k 5) + s (ix k 6) + s (ix k 7) + s (ix k 8)
def sumK (f : Nat → Int) : Nat → Int
  | 0 => 0
  | k + 1 => sumK f k + f k
def Inv (t : Int) (s : Nat → Int) : Prop :=
  (0 ≤ s 0 ∧ s 0 ≤ 50 ∧ 0 ≤ s 1 ∧ s 1 ≤ 8 ∧ 0 ≤ s 2 ∧ s 2 ≤ t ∧ t ≤ 1000000 ∧ 0 ≤ s 3 ∧ s 3 ≤ 3 ∧ 0 ≤ s 4 ∧ s 4 ≤ 9 ∧ 0 ≤ s 5 ∧ s 5 ≤ 640 ∧ 0 ≤ s 10 ∧ s 10 ≤ 12) ∧
  (∀ f : Nat, f < 6 → 1 ≤ s (11 + f) ∧ s (11 + f) ≤ 9) ∧
  (∀ k : Nat, k < 12 → 0 ≤ s (ix k 0) ∧ s (ix k 0) ≤ 5 ∧ 0 ≤ s (ix k 1) ∧ s (ix k 1) ≤ 5 ∧ 0 ≤ s (ix k 2) ∧ s (ix k 2) ≤ 9 ∧ 0 ≤ s (ix k 3) ∧ s (ix k 3) ≤ 3 ∧ 0 ≤ s (ix k 4) ∧ s (ix k 4) ≤ 64 ∧ 0 ≤ s (ix k 5) ∧ 0 ≤ s (ix k 6) ∧ 0 ≤ s (ix k 7) ∧ 0 ≤ s (ix k 8) ∧ s (ix k 5) + s (ix k 6) + s (ix k 7) + s (ix k 8) ≤ 9) ∧
  (∀ k c : Nat, k < 12 → s 10 ≤ k → c < 11 → s (ix k c) = 0)
theorem Inv.base {t : Int} {s : Nat → Int} (h : Inv t s) : 0 ≤ s 0 ∧ s 0 ≤ 50 ∧ 0 ≤ s 1 ∧ s 1 ≤ 8 ∧ 0 ≤ s 2 ∧ s 2 ≤ t ∧ t ≤ 1000000 ∧ 0 ≤ s 3 ∧ s 3 ≤ 3 ∧ 0 ≤ s 4 ∧ s 4 ≤ 9 ∧ 0 ≤ s 5 ∧ s 5 ≤ 640 ∧ 0 ≤ s 10 ∧ s 10 ≤ 12 := h.1
theorem Inv.se {t : Int} {s : Nat → Int} (h : Inv t s) (f : Nat) (hf : f < 6) : 1 ≤ s (11 + f) ∧ s (11 + f) ≤ 9 := h.2.1 f hf
theorem Inv.sc {t : Int} {s : Nat → Int} (h : Inv t s) (k : Nat) (hk : k < 12) : 0 ≤ s (ix k 0) ∧ s (ix k 0) ≤ 5 ∧ 0 ≤ s (ix k 1) ∧ s (ix k 1) ≤ 5 ∧ 0 ≤ s (ix k 2) ∧ s (ix k 2) ≤ 9 ∧ 0 ≤ s (ix k 3) ∧ s (ix k 3) ≤ 3 ∧ 0 ≤ s (ix k 4) ∧ s (ix k 4) ≤ 64 ∧ 0 ≤ s (ix k 5) ∧ 0 ≤ s (ix k 6) ∧ 0 ≤ s (ix k 7) ∧ 0 ≤ s (ix k 8) ∧ s (ix k 5) + s (ix k 6) + s (ix k 7) + s (ix k 8) ≤ 9 := h.2.2.1 k hk
theorem Inv.cr {t : Int} {s : Nat → Int} (h : Inv t s) (k w : Nat) (hk : k < 12) (hw : w < 4) : 0 ≤ s (ix k (5 + w)) ∧ s (ix k (5 + w)) ≤ 9 := by
  have h1 := h.sc k hk
  rcases (by omega : w = 0 ∨ w = 1 ∨ w = 2 ∨ w = 3) with rfl | rfl | rfl | rfl <;> simp only [Nat.add_zero, Nat.reduceAdd] <;> omega

theorem app_c {a a' b b' : va_W} (h : a = a') (h2 : b = b') : a ++ b = a' ++ b' := by rw [h, h2]
theorem mB_c {G : vC} {m : Nat → Nat} {s sp hi sn tx g s' sp' hi' sn' tx' g' : Nat → Int} (h1 : s = s') (h2 : sp = sp') (h3 : hi = hi') (h4 : sn = sn') (h5 : tx = tx') (h6 : g = g') : mB G m s sp hi sn tx g = mB G m s' sp' hi' sn' tx' g' := by rw [h1, h2, h3, h4, h5, h6]
theorem sB_c {G : vC} {t : Nat → Nat} {ch ki fi se g ch' ki' fi' se' g' : Nat → Int} (h1 : ch = ch') (h2 : ki = ki') (h3 : fi = fi') (h4 : se = se') (h5 : g = g') : sB G t ch ki fi se g = sB G t ch' ki' fi' se' g' := by rw [h1, h2, h3, h4, h5]
theorem bB_c {G : vC} {b : Nat → Nat} {lob : Bool} {W W' : Nat → Nat} {vf vf' : Nat → Int} (h1 : W = W') (h2 : vf = vf') : bB G b lob W vf = bB G b lob W' vf' := by rw [h1, h2]
theorem V.fn {X : vX} {l : Launch} {G : vC} {y : MethodName} {cc : ByteArray} {R : Room} {nL k n pc : Nat} {w : va_W} {lv : List (Nat × Value)} {st : List Value} (hX : VS X l G y cc R nL) (q : Nat) {a m : Nat} {cA : ClassId} {f g : Nat → Int32} (he : w[q]? = some (a, .inl (cA, m, .inl f))) (hfg : ∀ j, j < m → f j = g j) {w' : va_W} (hw : w.set q (a, .inl (cA, m, .inl g)) = w') (kk : V X k n w' lv pc st) : V X k n w lv pc st := by
  subst hw
  obtain ⟨p0, e0, s0, m0, args0, below0, meth0, c0, A0, Q0, rfl, hx, hb, hml, hown, hK, hA, hlocks, hnm⟩ := hX
  intro H locs ls hP hD hS hl
  have hc := hP q _ he
  have e : vp_cell cA (m, .inl f) = vp_cell cA (m, .inl g) := by
    unfold vp_cell arrV
    first
      | (simp only []; congr 1; apply Array.ext' ; simp; intro j hj; exact hfg j hj)
      | (congr 1; ext j h1 h2 <;> simp_all)
      | (simp [hfg]; done)
  refine kk H locs ls (hP.set hD he ?_ (fun _ _ => rfl)) (hD.set he) hS hl
  show H[a]? = some (vp_cell cA (m, .inl g))
  rw [← e]
  exact hc
end
section
/-! the weights: floats that hold whole numbers of 64ths -/
theorem cd_form (k : Nat) (hk : k < 2 ^ 24) : ∃ j : Nat, j ≤ 143 ∧ cd k = .fin false (k * 2 ^ j) (-6 - j) := by
  unfold cd
  by_cases h0 : k = 0
  · subst h0
    exact ⟨143, by decide, by decide +kernel⟩
  · have h1 := Nat.log2_self_le h0
    have h2 : k < 2 ^ (k.log2 + 1) := Nat.lt_log2_self
    have h3 : k.log2 < 24 := (Nat.log2_lt h0).mpr hk
    refine ⟨23 - k.log2, by omega, ?_⟩
    have hlo : 2 ^ 23 ≤ k * 2 ^ (23 - k.log2) := by
      calc 2 ^ 23 = 2 ^ k.log2 * 2 ^ (23 - k.log2) := by rw [← Nat.pow_add]; congr 1; omega
        _ ≤ k * 2 ^ (23 - k.log2) := Nat.mul_le_mul_right _ h1
    have hhi : k * 2 ^ (23 - k.log2) < 2 ^ 24 := by
      calc k * 2 ^ (23 - k.log2) < 2 ^ (k.log2 + 1) * 2 ^ (23 - k.log2) := Nat.mul_lt_mul_of_pos_right h2 (Nat.two_pow_pos _)
        _ = 2 ^ 24 := by rw [← Nat.pow_add]; congr 1; omega
    refine FP.Core.roundRatio_exact FP.Core.good_b32 (by decide) ⟨hhi, ?_, ?_, Or.inr hlo⟩ ?_
    · show (-149 : Int) ≤ _; omega
    · show _ ≤ (104 : Int); omega
    · rw [show ((-6 : Int) - (-6 - ((23 - k.log2 : Nat) : Int))).toNat = 23 - k.log2 by omega, show ((-6 - ((23 - k.log2 : Nat) : Int)) - (-6 : Int)).toNat = 0 by omega]
      simp
theorem val_fB (k : Nat) : FP.Core.val32 (fB k) = cd k := FP.Core.val32_of32 (FP.Core.roundRatio_fits FP.Core.good_b32 false k (by decide) (-6))
theorem fB_nn {k : Nat} (hk : k < 2 ^ 24) : FP.Core.val32 (fB k) ≠ .nan := by
  obtain ⟨j, -, h⟩ := cd_form k hk
  rw [val_fB, h]
  exact fun h => by cases h
theorem vf_of {x : UInt32} (h : FP.Core.val32 x ≠ .nan) : vf_n32 x := by
  unfold vf_n32
  rw [UInt32.le_iff_toNat_le, UInt32.toNat_and]
  show x.toNat &&& (2 ^ 31 - 1) ≤ 2139095040
  rw [Nat.and_two_pow_sub_one_eq_mod]
  unfold FP.Core.val32 FP.Core.decode FP.Core.fieldE FP.Core.fieldT at h
  have e1 : FP.Core.b32.tails = 8388608 := by decide
  have e2 : FP.Core.b32.exps = 256 := by decide
  rw [e1, e2] at h
  by_cases h1 : x.toNat / 8388608 % 256 = 256 - 1
  · rw [if_pos h1] at h
    by_cases h2 : x.toNat % 8388608 = 0
    · omega
    · rw [if_neg h2] at h
      exact absurd rfl h
  · omega
theorem fB_vf {k : Nat} (hk : k < 2 ^ 24) : vf_n32 (fB k) := vf_of (fB_nn hk)
theorem vf_of64 {x : UInt64} (h : FP.Core.val64 x ≠ .nan) : vf_n64 x := by
  unfold vf_n64
  rw [UInt64.le_iff_toNat_le, UInt64.toNat_and]
  show x.toNat &&& (2 ^ 63 - 1) ≤ 9218868437227405312
  rw [Nat.and_two_pow_sub_one_eq_mod]
  unfold FP.Core.val64 FP.Core.decode FP.Core.fieldE FP.Core.fieldT at h
  have e1 : FP.Core.b64.tails = 4503599627370496 := by decide
  have e2 : FP.Core.b64.exps = 2048 := by decide
  rw [e1, e2] at h
  by_cases h1 : x.toNat / 4503599627370496 % 2048 = 2048 - 1
  · rw [if_pos h1] at h
    by_cases h2 : x.toNat % 4503599627370496 = 0
    · omega
    · rw [if_neg h2] at h
      exact absurd rfl h
  · omega
theorem fB_add {a b : Nat} (h : a + b < 2 ^ 24) : FP.fadd (fB a) (fB b) = fB (a + b) := by
  refine FP.Core.val32_inj (a := FP.Core.fadd (fB a) (fB b)) (b := fB (a + b)) ?_ ?_
  all_goals rw [FP.Core.val32_fadd, val_fB, val_fB]
  all_goals obtain ⟨j, hj, ha⟩ := cd_form a (by omega)
  all_goals obtain ⟨i, hi, hb⟩ := cd_form b (by omega)
  all_goals rw [ha, hb]
  · show FP.Core.roundRatio _ _ _ _ _ ≠ _
    unfold FP.Core.roundRatio
    split
    · exact fun h => by cases h
    · unfold FP.Core.roundAt FP.Core.settle FP.Core.bound
      split <;> split <;> exact fun h => by cases h
  · rw [val_fB]
    have key : FP.Core.sumUnits false (a * 2 ^ j) (-6 - j) false (b * 2 ^ i) (-6 - i) (min (-6 - j) (-6 - i)) = (((a + b) * 2 ^ (max j i) : Nat) : Int) := by
      unfold FP.Core.sumUnits FP.Core.signed FP.Core.inUnits
      simp only [if_neg (by decide : ¬ (false = true))]
      have e1 : ((-6 - (j : Int)) - min (-6 - (j : Int)) (-6 - i)).toNat = max j i - j := by omega
      have e2 : ((-6 - (i : Int)) - min (-6 - (j : Int)) (-6 - i)).toNat = max j i - i := by omega
      rw [e1, e2, Nat.mul_assoc, Nat.mul_assoc, ← Nat.pow_add, ← Nat.pow_add, show j + (max j i - j) = max j i by omega, show i + (max j i - i) = max j i by omega, Nat.add_mul]
      simp
    unfold FP.Core.exactSum FP.Core.round
    simp only [key]
    have es : FP.Core.sumSign false false (((a + b) * 2 ^ (max j i) : Nat) : Int) = false := by
      unfold FP.Core.sumSign
      split
      · rfl
      · exact decide_eq_false (by omega)
    rw [es]
    unfold cd
    refine FP.Core.roundRatio_congr (by decide) (by decide) ?_
    rw [Int.natAbs_natCast, show (min (-6 - (j : Int)) (-6 - i) - -6).toNat = 0 by omega, show (-6 - min (-6 - (j : Int)) (-6 - i)).toNat = max j i by omega]
    simp
theorem fB_cmp {a b : Nat} (ha : a < 2 ^ 24) (hb : b < 2 ^ 24) : FP.fcmp (fB a) (fB b) = some (compare (a : Int) (b : Int)) := by
  show FP.Core.order (FP.Core.val32 (fB a)) (FP.Core.val32 (fB b)) = _
  rw [val_fB, val_fB]
  obtain ⟨j, hj, h1⟩ := cd_form a ha
  obtain ⟨i, hi, h2⟩ := cd_form b hb
  rw [h1, h2]
  unfold FP.Core.order FP.Core.signed FP.Core.inUnits
  simp only [if_neg (by decide : ¬ (false = true))]
  have e1 : ((-6 - (j : Int)) - min (-6 - (j : Int)) (-6 - i)).toNat = max j i - j := by omega
  have e2 : ((-6 - (i : Int)) - min (-6 - (j : Int)) (-6 - i)).toNat = max j i - i := by omega
  rw [e1, e2, Nat.mul_assoc, Nat.mul_assoc, ← Nat.pow_add, ← Nat.pow_add, show j + (max j i - j) = max j i by omega, show i + (max j i - i) = max j i by omega]
  rw [Int.natCast_mul, Int.natCast_mul]
  rw [FP.Core.compare_mul_pos _ _ _ (by exact_mod_cast Nat.two_pow_pos _)]
theorem fB_straw : ∀ k : Nat, k < 65 → FP.fdiv (FP.i2f (jI k)) 1115684864 = fB k := by decide +kernel
theorem fB_lob : ∀ m : Nat, m < 73 → FP.fdiv (FP.i2f (jI m)) 1098907648 = fB (4 * m) := by decide +kernel
theorem fB_mul : ∀ k : Nat, k < 65 → ∀ m : Nat, m < 6 → FP.fmul (fB k) (FP.i2f (jI m)) = fB (k * m) := by decide +kernel
/-- a weight as a double -/
def dB (k : Nat) : UInt64 := FP.ddiv (FP.i2d (jI k)) 4634204016564240384
theorem cd64_form (k : Nat) (hk : k < 2 ^ 24) : ∃ j : Nat, j ≤ 1074 ∧ FP.Core.roundRatio FP.Core.b64 false k 1 0 = .fin false (k * 2 ^ j) (0 - j) := by
  by_cases h0 : k = 0
  · subst h0
    exact ⟨1074, by decide, by decide +kernel⟩
  · have h1 := Nat.log2_self_le h0
    have h2 : k < 2 ^ (k.log2 + 1) := Nat.lt_log2_self
    have h3 : k.log2 < 24 := (Nat.log2_lt h0).mpr hk
    refine ⟨52 - k.log2, by omega, ?_⟩
    have hlo : 2 ^ 52 ≤ k * 2 ^ (52 - k.log2) := by
      calc 2 ^ 52 = 2 ^ k.log2 * 2 ^ (52 - k.log2) := by rw [← Nat.pow_add]; congr 1; omega
        _ ≤ k * 2 ^ (52 - k.log2) := Nat.mul_le_mul_right _ h1
    have hhi : k * 2 ^ (52 - k.log2) < 2 ^ 53 := by
      calc k * 2 ^ (52 - k.log2) < 2 ^ (k.log2 + 1) * 2 ^ (52 - k.log2) := Nat.mul_lt_mul_of_pos_right h2 (Nat.two_pow_pos _)
        _ = 2 ^ 53 := by rw [← Nat.pow_add]; congr 1; omega
    refine FP.Core.roundRatio_exact FP.Core.good_b64 (by decide) ⟨hhi, ?_, ?_, Or.inr hlo⟩ ?_
    · show (-1074 : Int) ≤ _; omega
    · show _ ≤ (971 : Int); omega
    · rw [show ((0 : Int) - (0 - ((52 - k.log2 : Nat) : Int))).toNat = 52 - k.log2 by omega, show ((0 - ((52 - k.log2 : Nat) : Int)) - (0 : Int)).toNat = 0 by omega]
      simp
theorem val_dB {k : Nat} (hk : k < 2 ^ 24) : FP.Core.val64 (dB k) = FP.Core.roundRatio FP.Core.b64 false k 1 (-6) := by
  have e0 : FP.Core.val64 4634204016564240384 = .fin false (2 ^ 52) (-46) := by decide +kernel
  have e1 : FP.Core.val64 (FP.Core.i2d (jI k)) = FP.Core.roundRatio FP.Core.b64 false k 1 0 := by
    rw [FP.Core.val64_i2d, jI_toInt ⟨by omega, by omega⟩]
    show FP.Core.roundRatio _ (decide ((k : Int) < 0)) (k : Int).natAbs 1 0 = _
    rw [decide_eq_false (by omega), Int.natAbs_natCast]
  show FP.Core.val64 (FP.Core.ddiv (FP.Core.i2d (jI k)) 4634204016564240384) = _
  rw [FP.Core.val64_ddiv, e0, e1]
  obtain ⟨j, hj, h⟩ := cd64_form k hk
  rw [h]
  dsimp only [FP.Core.quotient]
  rw [if_neg (by decide)]
  refine FP.Core.roundRatio_congr (by decide) (by decide) ?_
  rw [show ((0 : Int) - j - -46 - -6).toNat = 52 - j by omega, show (-6 - ((0 : Int) - j - -46)).toNat = j - 52 by omega]
  rw [Nat.mul_one, Nat.mul_assoc, Nat.mul_assoc, ← Nat.pow_add, ← Nat.pow_add, show j + (52 - j) = 52 + (j - 52) by omega]
theorem dB_nn {k : Nat} (hk : k < 2 ^ 24) : FP.Core.val64 (dB k) ≠ .nan := by
  rw [val_dB hk]
  unfold FP.Core.roundRatio
  split
  · exact fun h => by cases h
  · unfold FP.Core.roundAt FP.Core.settle FP.Core.bound
    split <;> split <;> exact fun h => by cases h
theorem dB_vf {k : Nat} (hk : k < 2 ^ 24) : vf_n64 (dB k) := vf_of64 (dB_nn hk)
theorem fB_dB {k : Nat} (hk : k < 2 ^ 24) : FP.f2d (fB k) = dB k := by
  have hn : FP.Core.fIsNaN (fB k) = false := decide_eq_false (fB_nn hk)
  have e : FP.f2d (fB k) = FP.Core.f2d (fB k) := by unfold FP.f2d; rw [hn]; rfl
  rw [e]
  have e2 : FP.Core.val64 (FP.Core.f2d (fB k)) = FP.Core.val64 (dB k) := by
    rw [FP.Core.val64_f2d, val_fB, val_dB hk]
    obtain ⟨j, hj, h⟩ := cd_form k hk
    rw [h]
    show FP.Core.roundRatio _ _ _ _ _ = _
    refine FP.Core.roundRatio_congr (by decide) (by decide) ?_
    rw [show (-6 - (j : Int) - -6).toNat = 0 by omega, show (-6 - (-6 - (j : Int))).toNat = j by omega]
    simp
  exact FP.Core.val64_inj (by rw [e2]; exact dB_nn hk) e2
end
